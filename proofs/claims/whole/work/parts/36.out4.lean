theorem wE_split (m r y e : Nat) (hy : y < m) (he : e < 4) (hr : r < 4 ^ m) : ∃ a q, q < 4 ^ (m - 1 - y) ∧ a < 4 ^ y ∧ r = (a * 4 + dig 4 m r y) * 4 ^ (m - 1 - y) + q ∧ wE m r y e = (a * 4 + e) * 4 ^ (m - 1 - y) + q := by
  have hp : 0 < 4 ^ (m - 1 - y) := Nat.pow_pos (by decide)
  have hd : dig 4 m r y = r / 4 ^ (m - 1 - y) % 4 := rfl
  have hpm : 4 ^ m = 4 ^ y * (4 * 4 ^ (m - 1 - y)) := by
    have e1 : m = y + (1 + (m - 1 - y)) := by omega
    have e2 : 4 ^ m = 4 ^ (y + (1 + (m - 1 - y))) := congrArg (fun z => 4 ^ z) e1
    rw [e2, Nat.pow_add, Nat.pow_add]
  have h1 := dig_ple m r y
  unfold wE
  generalize hg : dig 4 m r y = g at *
  generalize 4 ^ (m - 1 - y) = p at *
  have a1 : r = r / p * p + r % p := by rw [Nat.mul_comm]; exact (Nat.div_add_mod r p).symm
  have a2 : r % p < p := Nat.mod_lt _ hp
  have a3 : r / p = r / p / 4 * 4 + g := by omega
  have a4 : r / p / 4 < 4 ^ y := by
    rw [Nat.div_div_eq_div_mul]
    refine Nat.div_lt_of_lt_mul ?_
    rw [Nat.mul_comm p 4, Nat.mul_comm]
    omega
  generalize r / p / 4 = a at *
  generalize r % p = q at *
  rw [a3] at a1
  refine ⟨a, q, a2, a4, a1, ?_⟩
  have a5 : r + e * p = (a * 4 + e) * p + q + g * p := by
    rw [a1]
    have b1 : (a * 4 + g) * p = a * 4 * p + g * p := Nat.add_mul _ _ _
    have b2 : (a * 4 + e) * p = a * 4 * p + e * p := Nat.add_mul _ _ _
    omega
  omega
theorem wE_lt {m r y e : Nat} (hy : y < m) (he : e < 4) (hr : r < 4 ^ m) : wE m r y e < 4 ^ m := by
  obtain ⟨a, q, h1, h2, h3, h4⟩ := wE_split m r y e hy he hr
  have hpm : 4 ^ m = 4 ^ y * 4 * 4 ^ (m - 1 - y) := by
    have e1 : m = y + (1 + (m - 1 - y)) := by omega
    have e2 : 4 ^ m = 4 ^ (y + (1 + (m - 1 - y))) := congrArg (fun z => 4 ^ z) e1
    rw [e2, Nat.pow_add, Nat.pow_add, Nat.mul_assoc]
  rw [h4, hpm]
  generalize 4 ^ (m - 1 - y) = p at *
  generalize 4 ^ y = z at *
  have h5 : (a * 4 + e + 1) * p ≤ z * 4 * p := Nat.mul_le_mul_right p (by omega)
  rw [Nat.add_mul] at h5
  omega
theorem wE_dig {m r y e v : Nat} (hy : y < m) (hv : v < m) (he : e < 4) (hr : r < 4 ^ m) : dig 4 m (wE m r y e) v = if v = y then e else dig 4 m r v := by
  obtain ⟨a, q, h1, h2, h3, h4⟩ := wE_split m r y e hy he hr
  have hp : 0 < 4 ^ (m - 1 - y) := Nat.pow_pos (by decide)
  have hdl : dig 4 m r y < 4 := dig_lt (by decide)
  generalize dig 4 m r y = g at *
  have key : ∀ x, x < 4 → ∀ v, v < m → dig 4 m ((a * 4 + x) * 4 ^ (m - 1 - y) + q) v = if v = y then x else if v < y then a / 4 ^ (y - 1 - v) % 4 else q / 4 ^ (m - 1 - v) % 4 := by
    intro x hx v hv
    unfold dig
    by_cases hvy : v = y
    · subst hvy
      rw [if_pos rfl, Nat.mul_comm, Nat.mul_add_div hp, Nat.div_eq_of_lt h1]
      omega
    · rw [if_neg hvy]
      by_cases hlt : v < y
      · rw [if_pos hlt]
        have e1 : m - 1 - v = (m - 1 - y) + (1 + (y - 1 - v)) := by omega
        rw [e1, Nat.pow_add, ← Nat.div_div_eq_div_mul, Nat.mul_comm (a * 4 + x), Nat.mul_add_div hp, Nat.div_eq_of_lt h1, Nat.pow_add, ← Nat.div_div_eq_div_mul]
        have e2 : (a * 4 + x + 0) / 4 ^ 1 = a := by
          rw [Nat.pow_one]
          omega
        rw [e2]
      · rw [if_neg hlt]
        have e1 : m - 1 - y = (m - 1 - v) + 1 + (v - y - 1) := by omega
        have e2 : 4 ^ (m - 1 - y) = 4 ^ (m - 1 - v) * (4 * 4 ^ (v - y - 1)) := by
          rw [e1, Nat.pow_add, Nat.pow_add, Nat.mul_assoc]
        rw [e2]
        have hp2 : 0 < 4 ^ (m - 1 - v) := Nat.pow_pos (by decide)
        generalize 4 ^ (m - 1 - v) = p2 at *
        generalize 4 ^ (v - y - 1) = p3 at *
        have e3 : (a * 4 + x) * (p2 * (4 * p3)) + q = p2 * (4 * (p3 * (a * 4 + x))) + q := by
          congr 1
          rw [Nat.mul_comm, Nat.mul_assoc, Nat.mul_assoc]
        rw [e3, Nat.mul_add_div hp2]
        omega
  rw [h4, key e he v hv]
  by_cases hvy : v = y
  · rw [if_pos hvy, if_pos hvy]
  · rw [if_neg hvy, if_neg hvy]
    have h5 := key g hdl v hv
    rw [← h3, if_neg hvy] at h5
    exact h5.symm
def zGw (X : zM) (m : Nat) (GN : Nat → Nat → Int32) : Prop := X.1 14 4 = nI m ∧ m ≤ 4 ∧ ∀ r y, r < 4 ^ m → y < m → X.1 19 (4 * r + y) = GN r y
def Xr (X : zM) (r : Int32) : zM := zuA X 13 (upd (X.1 13) 3 r)
theorem zGw_r {X : zM} {m : Nat} {GN : Nat → Nat → Int32} {r : Int32} (C : zGw X m GN) : zGw (Xr X r) m GN := by
  unfold zGw Xr at *
  rw [zA_n _ _ (by decide), zA_n _ _ (by decide)]
  exact C
theorem Xr_3 (X : zM) (r : Int32) : (Xr X r).1 13 3 = r := by
  unfold Xr
  rw [zA_s]
  exact if_pos rfl
theorem Xr_2 (X : zM) (r : Int32) : (Xr X r).1 13 2 = X.1 13 2 := by
  unfold Xr
  rw [zA_s]
  exact if_neg (by decide)
theorem Xr_Xr (X : zM) (r r' : Int32) : zuA (Xr X r) 13 (upd ((Xr X r).1 13) 3 r') = Xr X r' := by
  unfold Xr
  rw [zA_s, zA_A, upd_u]
theorem Xr_u (X : zM) (r : Int32) : zuA X 13 (upd (X.1 13) 3 r) = Xr X r := id rfl
section GAM
variable {d m : Nat} {X : zM} {GN : Nat → Nat → Int32}
theorem g_waiterCount (C : zGw X m GN) : cal d 1003 [.ref 14] X = some (some (.int (nI m)), X) := by
  have e := C.1
  simp only [c_1003, e_1003_0, e_1003_1, e_1003_4, zk_int, zk_ref, zk_null, zk_none, zk_long, zisR_r, zisR_n, zcl_int, zcl_ref, zcl_null, zpush_s, zpush_n, zbs, zbn, true_or, or_true, not_false_eq_true, not_true_eq_false, ↓reduceIte, and_self, and_true, true_and, zt_14, e]
theorem g_effortIn {r y : Nat} (C : zGw X m GN) (hy : y < m) (hr : r < 1000) : cal (d + 2) 2005 [.ref 13, .int (nI r), .int (nI y)] X = some (some (.int (nI (dig 4 m r y))), X) := by
  have q := fun w => q_digit (d := d) (b := 4) (w := w) (by decide) (by decide) C.2.1 hy hr
  have e4 : (4 : Int32) = nI 4 := rfl
  simp only [c_2005, e_2005_0, e_2005_1, e_2005_2, e_2005_3, e_2005_6, e_2005_9, e_2005_10, e_2005_13, zk_int, zk_ref, zk_null, zk_none, zk_long, zisR_r, zisR_n, zcl_int, zcl_ref, zcl_null, zpush_s, zpush_n, zbs, zbn, true_or, or_true, not_false_eq_true, not_true_eq_false, ↓reduceIte, and_self, and_true, true_and, zt_13, zr_13_0, zt_14, g_waiterCount C]
  rw [e4, q]
  simp only [c_2005, e_2005_0, e_2005_1, e_2005_2, e_2005_3, e_2005_6, e_2005_9, e_2005_10, e_2005_13, zk_int, zk_ref, zk_null, zk_none, zk_long, zisR_r, zisR_n, zcl_int, zcl_ref, zcl_null, zpush_s, zpush_n, zbs, zbn, true_or, or_true, not_false_eq_true, not_true_eq_false, ↓reduceIte, and_self, and_true, true_and]
theorem g_effortRows (C : zGw X m GN) : cal (d + 2) 2004 [.ref 13] X = some (some (.int (nI (4 ^ m))), X) := by
  have q := fun w => q_power (d := d + 1) (w := w) (b := nI 4) (n := m) (show m < 2 ^ 31 by have := C.2.1; omega)
  have e4 : (4 : Int32) = nI 4 := rfl
  simp only [c_2004, e_2004_0, e_2004_1, e_2004_2, e_2004_5, e_2004_8, e_2004_11, zk_int, zk_ref, zk_null, zk_none, zk_long, zisR_r, zisR_n, zcl_int, zcl_ref, zcl_null, zpush_s, zpush_n, zbs, zbn, true_or, or_true, not_false_eq_true, not_true_eq_false, ↓reduceIte, and_self, and_true, true_and, zt_13, zr_13_0, zt_14, g_waiterCount C]
  rw [e4, q, zpow_nI]
  simp only [c_2004, e_2004_0, e_2004_1, e_2004_2, e_2004_5, e_2004_8, e_2004_11, zk_int, zk_ref, zk_null, zk_none, zk_long, zisR_r, zisR_n, zcl_int, zcl_ref, zcl_null, zpush_s, zpush_n, zbs, zbn, true_or, or_true, not_false_eq_true, not_true_eq_false, ↓reduceIte, and_self, and_true, true_and]
theorem g_withEffort {r y e : Nat} (C : zGw X m GN) (hy : y < m) (hr : r < 1000) : cal (d + 3) 2006 [.ref 13, .int (nI r), .int (nI y), .int (nI e)] X = some (some (.int (nI (wE m r y e))), X) := by
  have hm : m ≤ 4 := C.2.1
  have q := fun w => q_power (d := d + 2) (w := w) (b := nI 4) (n := m - 1 - y) (show m - 1 - y < 2 ^ 31 by omega)
  have e4 : (4 : Int32) = nI 4 := rfl
  have e5 := nI_sub1 m y hy
  simp only [c_2006, e_2006_0, e_2006_1, e_2006_2, e_2006_3, e_2006_4, e_2006_5, e_2006_8, e_2006_9, e_2006_10, e_2006_11, e_2006_14, e_2006_17, e_2006_18, e_2006_19, e_2006_20, e_2006_21, e_2006_24, e_2006_25, e_2006_26, zk_int, zk_ref, zk_null, zk_none, zk_long, zisR_r, zisR_n, zcl_int, zcl_ref, zcl_null, zpush_s, zpush_n, zbs, zbn, true_or, or_true, not_false_eq_true, not_true_eq_false, ↓reduceIte, and_self, and_true, true_and, zt_13, zr_13_0, zt_14, g_waiterCount C, g_effortIn C hy hr, e5]
  rw [e4, q, zpow_nI]
  simp only [c_2006, e_2006_0, e_2006_1, e_2006_2, e_2006_3, e_2006_4, e_2006_5, e_2006_8, e_2006_9, e_2006_10, e_2006_11, e_2006_14, e_2006_17, e_2006_18, e_2006_19, e_2006_20, e_2006_21, e_2006_24, e_2006_25, e_2006_26, zk_int, zk_ref, zk_null, zk_none, zk_long, zisR_r, zisR_n, zcl_int, zcl_ref, zcl_null, zpush_s, zpush_n, zbs, zbn, true_or, or_true, not_false_eq_true, not_true_eq_false, ↓reduceIte, and_self, and_true, true_and, nI_wE]
theorem zGw_256 (C : zGw X m GN) : 4 ^ m ≤ 256 := (pow_le4 (by decide) (by decide) C.2.1).2
theorem g_gainIn {r y : Nat} (C : zGw X m GN) (hy : y < m) (hr : r < 4 ^ m) : cal (d + 1) 2007 [.ref 13, .int (nI r), .int (nI y)] X = some (some (.int (GN r y)), X) := by
  have h2 := zGw_256 C
  have hm := C.2.1
  have e3 : nI r * 4 + nI y = nI (4 * r + y) := by
    show nI r * nI 4 + nI y = _
    rw [pk_mul, nI_add, Nat.mul_comm]
  have q1 := q_at (d := d) (a := 19) (j := 4 * r + y) (w := X) zt_19 (by rw [zn_19]; omega) (by rw [zn_19]; decide)
  rw [C.2.2 r y hr hy] at q1
  simp only [c_2007, e_2007_0, e_2007_1, e_2007_4, e_2007_5, e_2007_6, e_2007_7, e_2007_8, e_2007_9, e_2007_12, zk_int, zk_ref, zk_null, zk_none, zk_long, zisR_r, zisR_n, zcl_int, zcl_ref, zcl_null, zpush_s, zpush_n, zbs, zbn, true_or, or_true, not_false_eq_true, not_true_eq_false, ↓reduceIte, and_self, and_true, true_and, zt_13, zr_13_1, e3, q1]
def sRepJ (f : Nat → Int32) : Nat → Nat
  | 0 => 0
  | e + 1 => if f (e + 1) ≤ f (sRepJ f e) then sRepJ f e else e + 1
theorem sRepJ_lt (f : Nat → Int32) : ∀ e, sRepJ f e ≤ e := by
  intro e
  induction e with
  | zero => exact Nat.le_refl _
  | succ e ih =>
    unfold sRepJ
    split <;> omega
def sRep (GN : Nat → Nat → Int32) (m r y : Nat) : Nat := sRepJ (fun e => GN (wE m r y e) y) 3
theorem sRep_lt (GN : Nat → Nat → Int32) (m r y : Nat) : sRep GN m r y < 4 := by
  have := sRepJ_lt (fun e => GN (wE m r y e) y) 3
  unfold sRep
  omega
theorem g_replyIn {r y : Nat} (C : zGw X m GN) (hy : y < m) (hr : r < 4 ^ m) : cal (d + 4) 2008 [.ref 13, .int (nI r), .int (nI y)] X = some (some (.int (nI (sRep GN m r y))), X) := by
  have h2 := zGw_256 C
  have key : ∀ k e, e + k = 4 → 1 ≤ e → den (d + 4) 2008 5 [some (.ref 13), some (.int (nI r)), some (.int (nI y)), some (.int (nI (sRepJ (fun e => GN (wE m r y e) y) (e - 1)))), some (.int (nI e))] [] X = some (some (.int (nI (sRep GN m r y))), X) := by
    intro k
    induction k with
    | zero =>
      intro e he h1
      have e4 : e = 4 := by omega
      subst e4
      have l1 : (4 : Int32) ≤ nI 4 := by decide
      simp only [c_2008, e_2008_0, e_2008_1, e_2008_2, e_2008_3, e_2008_5, e_2008_7, e_2008_8, e_2008_11, e_2008_12, e_2008_13, e_2008_14, e_2008_15, e_2008_17, e_2008_20, e_2008_21, e_2008_24, e_2008_25, e_2008_26, e_2008_27, e_2008_28, e_2008_29, e_2008_32, e_2008_33, e_2008_36, e_2008_39, e_2008_41, e_2008_42, e_2008_45, e_2008_48, e_2008_49, zk_int, zk_ref, zk_null, zk_none, zk_long, zisR_r, zisR_n, zcl_int, zcl_ref, zcl_null, zpush_s, zpush_n, zbs, zbn, true_or, or_true, not_false_eq_true, not_true_eq_false, ↓reduceIte, and_self, and_true, true_and, l1]
      rfl
    | succ k ih =>
      intro e he h1
      obtain ⟨e, rfl⟩ : ∃ e', e = e' + 1 := ⟨e - 1, by omega⟩
      have e5 : e + 1 - 1 = e := rfl
      rw [e5]
      have l1 : ((4 : Int32) ≤ nI (e + 1)) = False := nI_ge_f (a := e + 1) (b := 4) (by omega) (by omega)
      have hrep := sRepJ_lt (fun e => GN (wE m r y e) y) e
      have q1 := g_withEffort (d := d) (e := e + 1) C hy (r := r) (by omega)
      have q2 := g_withEffort (d := d) (e := sRepJ (fun e => GN (wE m r y e) y) e) C hy (r := r) (by omega)
      have q3 := g_gainIn (d := d + 2) C hy (wE_lt (e := e + 1) hy (by omega) hr)
      have q4 := g_gainIn (d := d + 2) C hy (wE_lt (e := sRepJ (fun e => GN (wE m r y e) y) e) hy (by omega) hr)
      have ih2 := ih (e + 1 + 1) (by omega) (by omega)
      have e6 : e + 1 + 1 - 1 = e + 1 := rfl
      rw [e6] at ih2
      rw [e_2008_5]
      by_cases hc : GN (wE m r y (e + 1)) y ≤ GN (wE m r y (sRepJ (fun e => GN (wE m r y e) y) e)) y
      · have e7 : sRepJ (fun e => GN (wE m r y e) y) (e + 1) = sRepJ (fun e => GN (wE m r y e) y) e := if_pos hc
        rw [e7] at ih2
        simp only [c_2008, e_2008_0, e_2008_1, e_2008_2, e_2008_3, e_2008_7, e_2008_8, e_2008_11, e_2008_12, e_2008_13, e_2008_14, e_2008_15, e_2008_17, e_2008_20, e_2008_21, e_2008_24, e_2008_25, e_2008_26, e_2008_27, e_2008_28, e_2008_29, e_2008_32, e_2008_33, e_2008_36, e_2008_39, e_2008_41, e_2008_42, e_2008_45, e_2008_48, e_2008_49, zk_int, zk_ref, zk_null, zk_none, zk_long, zisR_r, zisR_n, zcl_int, zcl_ref, zcl_null, zpush_s, zpush_n, zbs, zbn, true_or, or_true, not_false_eq_true, not_true_eq_false, ↓reduceIte, and_self, and_true, true_and, zt_13, l1, q1, q2, q3, q4, hc, nI_1]
        exact ih2
      · have e7 : sRepJ (fun e => GN (wE m r y e) y) (e + 1) = e + 1 := if_neg hc
        rw [e7] at ih2
        simp only [c_2008, e_2008_0, e_2008_1, e_2008_2, e_2008_3, e_2008_7, e_2008_8, e_2008_11, e_2008_12, e_2008_13, e_2008_14, e_2008_15, e_2008_17, e_2008_20, e_2008_21, e_2008_24, e_2008_25, e_2008_26, e_2008_27, e_2008_28, e_2008_29, e_2008_32, e_2008_33, e_2008_36, e_2008_39, e_2008_41, e_2008_42, e_2008_45, e_2008_48, e_2008_49, zk_int, zk_ref, zk_null, zk_none, zk_long, zisR_r, zisR_n, zcl_int, zcl_ref, zcl_null, zpush_s, zpush_n, zbs, zbn, true_or, or_true, not_false_eq_true, not_true_eq_false, ↓reduceIte, and_self, and_true, true_and, zt_13, l1, q1, q2, q3, q4, hc, nI_1]
        exact ih2
  have h1 := key 3 1 (by omega) (by omega)
  simp only [c_2008, e_2008_0, e_2008_1, e_2008_2, e_2008_3, e_2008_7, e_2008_8, e_2008_11, e_2008_12, e_2008_13, e_2008_14, e_2008_15, e_2008_17, e_2008_20, e_2008_21, e_2008_24, e_2008_25, e_2008_26, e_2008_27, e_2008_28, e_2008_29, e_2008_32, e_2008_33, e_2008_36, e_2008_39, e_2008_41, e_2008_42, e_2008_45, e_2008_48, e_2008_49, zk_int, zk_ref, zk_null, zk_none, zk_long, zisR_r, zisR_n, zcl_int, zcl_ref, zcl_null, zpush_s, zpush_n, zbs, zbn, true_or, or_true, not_false_eq_true, not_true_eq_false, ↓reduceIte, and_self, and_true, true_and]
  exact h1
def sTn (GN : Nat → Nat → Int32) (m r : Nat) : Nat → Nat
  | 0 => r
  | j + 1 => wE m (sTn GN m r j) j (sRep GN m (sTn GN m r j) j)
theorem sTn_lt {GN : Nat → Nat → Int32} {m r : Nat} (hr : r < 4 ^ m) : ∀ j, j ≤ m → sTn GN m r j < 4 ^ m := by
  intro j
  induction j with
  | zero => intro _; exact hr
  | succ j ih => intro hj; exact wE_lt (by omega) (sRep_lt _ _ _ _) (ih (by omega))
def sRst (GN : Nat → Nat → Int32) (m : Nat) : Nat → Nat → Nat → Int32 × Nat
  | 0, _, r => (-1, r)
  | q + 1, k, r => if sTn GN m r m = r then (nI k, r) else sRst GN m q (k + 1) (sTn GN m r m)
theorem g_tt1 {k r0 : Nat} (C : zGw X m GN) (hr : r0 < 4 ^ m) : ∀ q j, j + q = m → den (d + 5) 2010 23 [some (.ref 13), some (.int (nI k)), some (.int (nI r0)), some (.int (nI j))] [] (Xr X (nI (sTn GN m r0 j))) = den (d + 5) 2010 62 [some (.ref 13), some (.int (nI k)), some (.int (nI r0)), some (.int (nI m))] [] (Xr X (nI (sTn GN m r0 m))) := by
  have h2 := zGw_256 C
  have hm := C.2.1
  intro q
  induction q with
  | zero =>
    intro j hj
    have e : j = m := by omega
    subst e
    have l1 := nI_le_n (Nat.le_refl j) (by omega)
    rw [e_2010_23]
    simp only [e_2010_24, e_2010_25, e_2010_28, e_2010_31, zk_int, zk_ref, zk_null, zk_none, zk_long, zisR_r, zisR_n, zcl_int, zcl_ref, zcl_null, zpush_s, zpush_n, zbs, zbn, true_or, or_true, not_false_eq_true, not_true_eq_false, ↓reduceIte, and_self, and_true, true_and, zt_13, zr_13_0, zt_14, g_waiterCount (zGw_r C), l1]
  | succ q ih =>
    intro j hj
    have hjm : j < m := by omega
    have l1 := nI_ge_f hjm (by omega)
    have hx := sTn_lt (GN := GN) hr j (by omega)
    have q1 := g_replyIn (d := d) (zGw_r (r := nI (sTn GN m r0 j)) C) hjm hx
    have q2 := g_withEffort (d := d + 1) (e := sRep GN m (sTn GN m r0 j) j) (zGw_r (r := nI (sTn GN m r0 j)) C) hjm (r := sTn GN m r0 j) (by omega)
    rw [e_2010_23]
    simp only [c_2010, e_2010_0, e_2010_1, e_2010_2, e_2010_5, e_2010_8, e_2010_9, e_2010_10, e_2010_11, e_2010_13, e_2010_16, e_2010_17, e_2010_20, e_2010_21, e_2010_22, e_2010_24, e_2010_25, e_2010_28, e_2010_31, e_2010_34, e_2010_35, e_2010_36, e_2010_37, e_2010_40, e_2010_41, e_2010_42, e_2010_43, e_2010_46, e_2010_47, e_2010_50, e_2010_53, e_2010_56, e_2010_59, e_2010_63, e_2010_66, e_2010_67, e_2010_70, e_2010_71, e_2010_72, e_2010_75, e_2010_78, e_2010_79, zk_int, zk_ref, zk_null, zk_none, zk_long, zisR_r, zisR_n, zcl_int, zcl_ref, zcl_null, zpush_s, zpush_n, zbs, zbn, true_or, or_true, not_false_eq_true, not_true_eq_false, ↓reduceIte, and_self, and_true, true_and, zt_13, zr_13_0, zt_14, g_waiterCount (zGw_r C), l1, Xr_3, q1, q2, zui_A, Xr_Xr, nI_1]
    exact ih (j + 1) (by omega)
theorem g_tt2 (C : zGw X m GN) : ∀ q k r o2 o3, k + q = 30 → r < 4 ^ m → den (d + 5) 2010 10 [some (.ref 13), some (.int (nI k)), o2, o3] [] (Xr X (nI r)) = some (some (.int (sRst GN m q k r).1), Xr X (nI (sRst GN m q k r).2)) := by
  have h2 := zGw_256 C
  intro q
  induction q with
  | zero =>
    intro k r o2 o3 hk hr
    have e : k = 30 := by omega
    subst e
    have l1 : (30 : Int32) ≤ nI 30 := by decide
    simp only [c_2010, e_2010_0, e_2010_1, e_2010_2, e_2010_5, e_2010_8, e_2010_9, e_2010_10, e_2010_11, e_2010_13, e_2010_16, e_2010_17, e_2010_20, e_2010_21, e_2010_22, e_2010_24, e_2010_25, e_2010_28, e_2010_31, e_2010_34, e_2010_35, e_2010_36, e_2010_37, e_2010_40, e_2010_41, e_2010_42, e_2010_43, e_2010_46, e_2010_47, e_2010_50, e_2010_53, e_2010_56, e_2010_59, e_2010_62, e_2010_63, e_2010_66, e_2010_67, e_2010_70, e_2010_71, e_2010_72, e_2010_75, e_2010_78, e_2010_79, zk_int, zk_ref, zk_null, zk_none, zk_long, zisR_r, zisR_n, zcl_int, zcl_ref, zcl_null, zpush_s, zpush_n, zbs, zbn, true_or, or_true, not_false_eq_true, not_true_eq_false, ↓reduceIte, and_self, and_true, true_and, l1]
    rfl
  | succ q ih =>
    intro k r o2 o3 hk hr
    have l1 : ((30 : Int32) ≤ nI k) = False := nI_ge_f (a := k) (b := 30) (by omega) (by omega)
    have k1 := g_tt1 (d := d) (k := k) C hr m 0 (by omega)
    have e0 : nI 0 = 0 := nI_0
    rw [e0] at k1
    have e1 : sTn GN m r 0 = r := rfl
    rw [e1] at k1
    have hx := sTn_lt (GN := GN) hr m (Nat.le_refl m)
    rw [e_2010_10]
    simp only [c_2010, e_2010_0, e_2010_1, e_2010_2, e_2010_5, e_2010_8, e_2010_9, e_2010_11, e_2010_13, e_2010_16, e_2010_17, e_2010_20, e_2010_21, e_2010_22, e_2010_24, e_2010_25, e_2010_28, e_2010_31, e_2010_34, e_2010_35, e_2010_36, e_2010_37, e_2010_40, e_2010_41, e_2010_42, e_2010_43, e_2010_46, e_2010_47, e_2010_50, e_2010_53, e_2010_56, e_2010_59, e_2010_63, e_2010_66, e_2010_67, e_2010_70, e_2010_71, e_2010_72, e_2010_75, e_2010_78, e_2010_79, zk_int, zk_ref, zk_null, zk_none, zk_long, zisR_r, zisR_n, zcl_int, zcl_ref, zcl_null, zpush_s, zpush_n, zbs, zbn, true_or, or_true, not_false_eq_true, not_true_eq_false, ↓reduceIte, and_self, and_true, true_and, zt_13, l1, Xr_3, k1]
    by_cases hc : sTn GN m r m = r
    · have e2 : sRst GN m (q + 1) k r = (nI k, r) := if_pos hc
      rw [e2, hc]
      have l2 : (nI r = nI r) = True := eq_true rfl
      simp only [c_2010, e_2010_0, e_2010_1, e_2010_2, e_2010_5, e_2010_8, e_2010_9, e_2010_11, e_2010_13, e_2010_16, e_2010_17, e_2010_20, e_2010_21, e_2010_22, e_2010_24, e_2010_25, e_2010_28, e_2010_31, e_2010_34, e_2010_35, e_2010_36, e_2010_37, e_2010_40, e_2010_41, e_2010_42, e_2010_43, e_2010_46, e_2010_47, e_2010_50, e_2010_53, e_2010_56, e_2010_59, e_2010_62, e_2010_63, e_2010_66, e_2010_67, e_2010_70, e_2010_71, e_2010_72, e_2010_75, e_2010_78, e_2010_79, zk_int, zk_ref, zk_null, zk_none, zk_long, zisR_r, zisR_n, zcl_int, zcl_ref, zcl_null, zpush_s, zpush_n, zbs, zbn, true_or, or_true, not_false_eq_true, not_true_eq_false, ↓reduceIte, and_self, and_true, true_and, zt_13, Xr_3, l2]
    · have e2 : sRst GN m (q + 1) k r = sRst GN m q (k + 1) (sTn GN m r m) := if_neg hc
      rw [e2]
      have l2 : (nI (sTn GN m r m) = nI r) = False := eq_false (fun z => hc ((nI_eq (by omega) (by omega)).mp z))
      simp only [c_2010, e_2010_0, e_2010_1, e_2010_2, e_2010_5, e_2010_8, e_2010_9, e_2010_11, e_2010_13, e_2010_16, e_2010_17, e_2010_20, e_2010_21, e_2010_22, e_2010_24, e_2010_25, e_2010_28, e_2010_31, e_2010_34, e_2010_35, e_2010_36, e_2010_37, e_2010_40, e_2010_41, e_2010_42, e_2010_43, e_2010_46, e_2010_47, e_2010_50, e_2010_53, e_2010_56, e_2010_59, e_2010_62, e_2010_63, e_2010_66, e_2010_67, e_2010_70, e_2010_71, e_2010_72, e_2010_75, e_2010_78, e_2010_79, zk_int, zk_ref, zk_null, zk_none, zk_long, zisR_r, zisR_n, zcl_int, zcl_ref, zcl_null, zpush_s, zpush_n, zbs, zbn, true_or, or_true, not_false_eq_true, not_true_eq_false, ↓reduceIte, and_self, and_true, true_and, zt_13, Xr_3, l2, nI_1]
      exact ih (k + 1) _ _ _ (by omega) hx
theorem g_takeTurns {r : Nat} (C : zGw X m GN) (hn : X.1 13 2 = nI r) (hr : r < 4 ^ m) : cal (d + 5) 2010 [.ref 13] X = some (some (.int (sRst GN m 30 0 r).1), Xr X (nI (sRst GN m 30 0 r).2)) := by
  have h1 := g_tt2 (d := d) C 30 0 r none none (by omega) hr
  simp only [c_2010, e_2010_0, e_2010_1, e_2010_2, e_2010_5, e_2010_8, e_2010_9, e_2010_11, e_2010_13, e_2010_16, e_2010_17, e_2010_20, e_2010_21, e_2010_22, e_2010_23, e_2010_24, e_2010_25, e_2010_28, e_2010_31, e_2010_34, e_2010_35, e_2010_36, e_2010_37, e_2010_40, e_2010_41, e_2010_42, e_2010_43, e_2010_46, e_2010_47, e_2010_50, e_2010_53, e_2010_56, e_2010_59, e_2010_62, e_2010_63, e_2010_66, e_2010_67, e_2010_70, e_2010_71, e_2010_72, e_2010_75, e_2010_78, e_2010_79, zk_int, zk_ref, zk_null, zk_none, zk_long, zisR_r, zisR_n, zcl_int, zcl_ref, zcl_null, zpush_s, zpush_n, zbs, zbn, true_or, or_true, not_false_eq_true, not_true_eq_false, ↓reduceIte, and_self, and_true, true_and, zt_13, hn, zui_A, Xr_u]
  exact h1
end GAM
