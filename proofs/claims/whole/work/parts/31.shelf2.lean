def sTkW (w : zM) (h g i j n : Nat) : zM := zuB w (h + 1) (va_cpy (w.2 (g + 1)) (w.2 (h + 1)) i j n)
theorem zSs_ap {h k : Nat} (H : zSs h) (K : zSs k) (hk : h ≠ k) : h + 2 ≤ k ∨ k + 2 ≤ h := by
  unfold zSs at H K
  omega
theorem zkE {E : Nat → Int64} {w : zM} {h g : Nat} (hh : h = g ∨ h + 1 ≠ g + 1) : (zuB w (h + 1) E).2 (g + 1) = if h = g then E else w.2 (g + 1) := by
  by_cases e : h = g
  · subst e
    rw [if_pos rfl, zB_s]
  · rw [if_neg e, zB_n _ _ (by omega)]
theorem nI_sub1 (n k : Nat) (hk : k < n) : nI n - 1 - nI k = nI (n - 1 - k) := by
  have e1 : nI n - 1 = nI (n - 1) := by
    have := nI_pred (n - 1)
    rw [← this]
    congr 2
    omega
  rw [e1]
  exact pk_sub (by omega)
theorem q_takeFrom {d h g y z i j n : Nat} {w : zM} (H : zSs h) (G : zSs g) (hz : w.1 h 2 = nI z) (hz1 : z ≤ 160) (gy : w.1 g 2 = nI y) (gy1 : y ≤ 160) (hi : i + n ≤ y) (hj : j + n ≤ z) (hlow : ∀ k, k < n → sLow (w.1 h 1 - 100) (w.2 (g + 1) (i + k)) = w.2 (g + 1) (i + k)) : cal (d + 2) 4013 [.ref h, .ref g, .int (nI i), .int (nI j), .int (nI n)] w = some (none, sTkW w h g i j n) := by
  obtain ⟨f1, f2, f3, f4⟩ := zSs_f H
  obtain ⟨g1, g2, g3, g4⟩ := zSs_f G
  have hz' : ∀ E, (zuB w (h + 1) E).1 h 2 = nI z := fun E => hz
  have gy' : ∀ E, (zuB w (h + 1) E).1 g 2 = nI y := fun E => gy
  have z10 : ((1 : Int32) = 0) = False := by decide
  by_cases hu : j ≤ i
  · have u1 : (nI i < nI j) = False := nI_lt_f hu (by omega)
    have key : ∀ r k o7, k + r = n → den (d + 2) 4013 15 [some (.ref h), some (.ref g), some (.int (nI i)), some (.int (nI j)), some (.int (nI n)), some (.int 1), some (.int (nI k)), o7] [] (sTkW w h g i j k) = some (none, sTkW w h g i j n) := by
      intro r
      induction r with
      | zero =>
        intro k o7 hk
        have e : k = n := by omega
        subst e
        have l1 := nI_le_n (Nat.le_refl k) (by omega)
        simp only [c_4013, e_4013_0, e_4013_1, e_4013_2, e_4013_5, e_4013_6, e_4013_9, e_4013_10, e_4013_12, e_4013_13, e_4013_15, e_4013_17, e_4013_19, e_4013_22, e_4013_24, e_4013_27, e_4013_29, e_4013_32, e_4013_34, e_4013_35, e_4013_36, e_4013_38, e_4013_39, e_4013_41, e_4013_42, e_4013_43, e_4013_45, e_4013_46, e_4013_47, e_4013_48, e_4013_50, e_4013_51, e_4013_54, e_4013_57, e_4013_60, e_4013_63, zk_int, zk_ref, zk_null, zk_none, zk_long, zisR_r, zisR_n, zcl_int, zcl_ref, zcl_null, zpush_s, zpush_n, zbs, zbn, true_or, or_true, not_false_eq_true, not_true_eq_false, ↓reduceIte, and_self, and_true, true_and, l1]
      | succ r ih =>
        intro k o7 hk
        have hkn : k < n := by omega
        have l1 := nI_ge_f hkn (by omega)
        have q1 := q_longAt (d := d + 1) (w := sTkW w h g i j k) G (gy' _) gy1 (j := i + k) (by omega)
        have e1 : (sTkW w h g i j k).2 (g + 1) (i + k) = w.2 (g + 1) (i + k) := by
          unfold sTkW
          rw [zkE (by omega)]
          by_cases e : h = g
          · subst e
            rw [if_pos rfl]
            exact if_neg (by omega)
          · rw [if_neg e]
        rw [e1] at q1
        have q2 := q_putIn (d := d) (w := sTkW w h g i j k) (v := w.2 (g + 1) (i + k)) H (hz' _) hz1 (j := j + k) (by omega)
        have e2 : (sTkW w h g i j k).1 h 1 = w.1 h 1 := rfl
        have e3 : (sTkW w h g i j k).2 (h + 1) = va_cpy (w.2 (g + 1)) (w.2 (h + 1)) i j k := zB_s _ _ _
        have e4 : ∀ E, zuB (sTkW w h g i j k) (h + 1) E = zuB w (h + 1) E := fun E => zB_B _ _ _ _
        rw [e2, hlow k hkn, e3, e4, va_cpy_up] at q2
        rw [e_4013_15]
        simp only [c_4013, e_4013_0, e_4013_1, e_4013_2, e_4013_5, e_4013_6, e_4013_9, e_4013_10, e_4013_12, e_4013_13, e_4013_17, e_4013_19, e_4013_22, e_4013_24, e_4013_27, e_4013_29, e_4013_32, e_4013_34, e_4013_35, e_4013_36, e_4013_38, e_4013_39, e_4013_41, e_4013_42, e_4013_43, e_4013_45, e_4013_46, e_4013_47, e_4013_48, e_4013_50, e_4013_51, e_4013_54, e_4013_57, e_4013_60, e_4013_63, zk_int, zk_ref, zk_null, zk_none, zk_long, zisR_r, zisR_n, zcl_int, zcl_ref, zcl_null, zpush_s, zpush_n, zbs, zbn, true_or, or_true, not_false_eq_true, not_true_eq_false, ↓reduceIte, and_self, and_true, true_and, l1, z10, f1, g1, nI_add, nI_1, q1, q2]
        exact ih (k + 1) _ (by omega)
    have h1 := key n 0 none (by omega)
    have e0 : sTkW w h g i j 0 = w := by
      unfold sTkW
      rw [va_cpy_0, zB_id]
    rw [e0] at h1
    simp only [c_4013, e_4013_0, e_4013_1, e_4013_2, e_4013_5, e_4013_6, e_4013_9, e_4013_10, e_4013_12, e_4013_13, e_4013_17, e_4013_19, e_4013_22, e_4013_24, e_4013_27, e_4013_29, e_4013_32, e_4013_34, e_4013_35, e_4013_36, e_4013_38, e_4013_39, e_4013_41, e_4013_42, e_4013_43, e_4013_45, e_4013_46, e_4013_47, e_4013_48, e_4013_50, e_4013_51, e_4013_54, e_4013_57, e_4013_60, e_4013_63, zk_int, zk_ref, zk_null, zk_none, zk_long, zisR_r, zisR_n, zcl_int, zcl_ref, zcl_null, zpush_s, zpush_n, zbs, zbn, true_or, or_true, not_false_eq_true, not_true_eq_false, ↓reduceIte, and_self, and_true, true_and, u1]
    exact h1
  · have u1 : (nI i < nI j) = True := eq_true (nI_lt (by omega) (by omega))
    have key : ∀ r k o7, k + r = n → den (d + 2) 4013 15 [some (.ref h), some (.ref g), some (.int (nI i)), some (.int (nI j)), some (.int (nI n)), some (.int 0), some (.int (nI k)), o7] [] (sTkW w h g (i + (n - k)) (j + (n - k)) k) = some (none, sTkW w h g i j n) := by
      intro r
      induction r with
      | zero =>
        intro k o7 hk
        have e : k = n := by omega
        subst e
        have l1 := nI_le_n (Nat.le_refl k) (by omega)
        simp only [c_4013, e_4013_0, e_4013_1, e_4013_2, e_4013_5, e_4013_6, e_4013_9, e_4013_10, e_4013_12, e_4013_13, e_4013_15, e_4013_17, e_4013_19, e_4013_22, e_4013_24, e_4013_27, e_4013_29, e_4013_32, e_4013_34, e_4013_35, e_4013_36, e_4013_38, e_4013_39, e_4013_41, e_4013_42, e_4013_43, e_4013_45, e_4013_46, e_4013_47, e_4013_48, e_4013_50, e_4013_51, e_4013_54, e_4013_57, e_4013_60, e_4013_63, zk_int, zk_ref, zk_null, zk_none, zk_long, zisR_r, zisR_n, zcl_int, zcl_ref, zcl_null, zpush_s, zpush_n, zbs, zbn, true_or, or_true, not_false_eq_true, not_true_eq_false, ↓reduceIte, and_self, and_true, true_and, l1, Nat.sub_self, Nat.add_zero]
      | succ r ih =>
        intro k o7 hk
        have hkn : k < n := by omega
        have l1 := nI_ge_f hkn (by omega)
        have q1 := q_longAt (d := d + 1) (w := sTkW w h g (i + (n - k)) (j + (n - k)) k) G (gy' _) gy1 (j := i + (n - 1 - k)) (by omega)
        have e1 : (sTkW w h g (i + (n - k)) (j + (n - k)) k).2 (g + 1) (i + (n - 1 - k)) = w.2 (g + 1) (i + (n - 1 - k)) := by
          unfold sTkW
          rw [zkE (by omega)]
          by_cases e : h = g
          · subst e
            rw [if_pos rfl]
            exact if_neg (by omega)
          · rw [if_neg e]
        rw [e1] at q1
        have q2 := q_putIn (d := d) (w := sTkW w h g (i + (n - k)) (j + (n - k)) k) (v := w.2 (g + 1) (i + (n - 1 - k))) H (hz' _) hz1 (j := j + (n - 1 - k)) (by omega)
        have e2 : (sTkW w h g (i + (n - k)) (j + (n - k)) k).1 h 1 = w.1 h 1 := rfl
        have e3 : (sTkW w h g (i + (n - k)) (j + (n - k)) k).2 (h + 1) = va_cpy (w.2 (g + 1)) (w.2 (h + 1)) (i + (n - k)) (j + (n - k)) k := zB_s _ _ _
        have e4 : ∀ E, zuB (sTkW w h g (i + (n - k)) (j + (n - k)) k) (h + 1) E = zuB w (h + 1) E := fun E => zB_B _ _ _ _
        have e5 : i + (n - k) = i + (n - 1 - k) + 1 := by omega
        have e6 : j + (n - k) = j + (n - 1 - k) + 1 := by omega
        rw [e2, hlow _ (by omega), e3, e4, e5, e6, va_cpy_dn] at q2
        rw [e5, e6] at q1
        have e7 := nI_sub1 n k hkn
        rw [e_4013_15, e5, e6]
        simp only [c_4013, e_4013_0, e_4013_1, e_4013_2, e_4013_5, e_4013_6, e_4013_9, e_4013_10, e_4013_12, e_4013_13, e_4013_17, e_4013_19, e_4013_22, e_4013_24, e_4013_27, e_4013_29, e_4013_32, e_4013_34, e_4013_35, e_4013_36, e_4013_38, e_4013_39, e_4013_41, e_4013_42, e_4013_43, e_4013_45, e_4013_46, e_4013_47, e_4013_48, e_4013_50, e_4013_51, e_4013_54, e_4013_57, e_4013_60, e_4013_63, zk_int, zk_ref, zk_null, zk_none, zk_long, zisR_r, zisR_n, zcl_int, zcl_ref, zcl_null, zpush_s, zpush_n, zbs, zbn, true_or, or_true, not_false_eq_true, not_true_eq_false, ↓reduceIte, and_self, and_true, true_and, l1, f1, g1, e7, nI_add, nI_1, q1, q2]
        have e8 : n - 1 - k = n - (k + 1) := by omega
        rw [e8]
        exact ih (k + 1) _ (by omega)
    have h1 := key n 0 none (by omega)
    have e0 : sTkW w h g (i + (n - 0)) (j + (n - 0)) 0 = w := by
      unfold sTkW
      rw [va_cpy_0, zB_id]
    rw [e0] at h1
    simp only [c_4013, e_4013_0, e_4013_1, e_4013_2, e_4013_5, e_4013_6, e_4013_9, e_4013_10, e_4013_12, e_4013_13, e_4013_17, e_4013_19, e_4013_22, e_4013_24, e_4013_27, e_4013_29, e_4013_32, e_4013_34, e_4013_35, e_4013_36, e_4013_38, e_4013_39, e_4013_41, e_4013_42, e_4013_43, e_4013_45, e_4013_46, e_4013_47, e_4013_48, e_4013_50, e_4013_51, e_4013_54, e_4013_57, e_4013_60, e_4013_63, zk_int, zk_ref, zk_null, zk_none, zk_long, zisR_r, zisR_n, zcl_int, zcl_ref, zcl_null, zpush_s, zpush_n, zbs, zbn, true_or, or_true, not_false_eq_true, not_true_eq_false, ↓reduceIte, and_self, and_true, true_and, u1]
    exact h1
def sUnd (c : Nat) (y : Int32) : Prop := match c with
  | 0 => y = 0
  | 1 => y = 1 ∨ y = 0
  | 2 => y = 2 ∨ y = 1 ∨ y = 0
  | 3 => y = 3 ∨ y = 1 ∨ y = 0
  | 4 => y = 4 ∨ y = 0
  | 5 => y = 5 ∨ y = 1 ∨ y = 0
  | 6 => y = 6 ∨ y = 3 ∨ y = 1 ∨ y = 0
  | _ => False
theorem q_isUnder_e {d : Nat} {w : zM} {o0 : Option Value} {y : Int32} (s : Nat) : den (d + 1) 5053 4 [o0, some (.int y), some (.int (-1)), some (.int (nI s))] [] w = some (some (.int 0), w) := by
  have z : ((-1 : Int32) = -1) = True := by decide
  by_cases h : (7 : Int32) ≤ nI s
  · simp only [c_5053, e_5053_0, e_5053_1, e_5053_2, e_5053_3, e_5053_4, e_5053_5, e_5053_7, e_5053_10, e_5053_11, e_5053_12, e_5053_15, e_5053_16, e_5053_17, e_5053_20, e_5053_21, e_5053_22, e_5053_25, e_5053_26, e_5053_29, e_5053_30, e_5053_33, e_5053_36, e_5053_37, zk_int, zk_ref, zk_null, zk_none, zk_long, zisR_r, zisR_n, zcl_int, zcl_ref, zcl_null, zpush_s, zpush_n, zbs, zbn, true_or, or_true, not_false_eq_true, not_true_eq_false, ↓reduceIte, and_self, and_true, true_and, h]
  · simp only [c_5053, e_5053_0, e_5053_1, e_5053_2, e_5053_3, e_5053_4, e_5053_5, e_5053_7, e_5053_10, e_5053_11, e_5053_12, e_5053_15, e_5053_16, e_5053_17, e_5053_20, e_5053_21, e_5053_22, e_5053_25, e_5053_26, e_5053_29, e_5053_30, e_5053_33, e_5053_36, e_5053_37, zk_int, zk_ref, zk_null, zk_none, zk_long, zisR_r, zisR_n, zcl_int, zcl_ref, zcl_null, zpush_s, zpush_n, zbs, zbn, true_or, or_true, not_false_eq_true, not_true_eq_false, ↓reduceIte, and_self, and_true, true_and, h, z]
theorem q_isUnder_l0 {d s : Nat} {w : zM} {o0 : Option Value} {y : Int32} (hs : s + 1 ≤ 7) : den (d + 1) 5053 4 [o0, some (.int y), some (.int 0), some (.int (nI s))] [] w = some (some (.int (if y = 0 then 1 else 0)), w) := by
  have g1 : ((7 : Int32) ≤ nI s) = False := nI_ge_f (a := s) (b := 7) (by omega) (by omega)
  have z : ((0 : Int32) = -1) = False := by decide
  have e1 : ztab 1000 0 = -1 := by decide +kernel
  have q : cal d 5054 [.ref 1000, .int 0] w = some (some (.int (-1)), w) := (q_atS (j := 0) zt_1000 (by rw [zn_1000]; decide) (by rw [zn_1000]; decide)).trans (congrArg (fun z => some (some (Value.int z), w)) e1)
  have nl := q_isUnder_e (d := d) (w := w) (o0 := o0) (y := y) (s + 1)
  rw [e_5053_4]
  by_cases h1 : 0 = y
  · subst h1
    simp only [c_5053, e_5053_0, e_5053_1, e_5053_2, e_5053_3, e_5053_5, e_5053_7, e_5053_10, e_5053_11, e_5053_12, e_5053_15, e_5053_16, e_5053_17, e_5053_20, e_5053_21, e_5053_22, e_5053_25, e_5053_26, e_5053_29, e_5053_30, e_5053_33, e_5053_36, e_5053_37, zk_int, zk_ref, zk_null, zk_none, zk_long, zisR_r, zisR_n, zcl_int, zcl_ref, zcl_null, zpush_s, zpush_n, zbs, zbn, true_or, or_true, not_false_eq_true, not_true_eq_false, ↓reduceIte, and_self, and_true, true_and, g1, z]
  · have h2 : ¬ y = 0 := fun e => h1 e.symm
    simp only [c_5053, e_5053_0, e_5053_1, e_5053_2, e_5053_3, e_5053_5, e_5053_7, e_5053_10, e_5053_11, e_5053_12, e_5053_15, e_5053_16, e_5053_17, e_5053_20, e_5053_21, e_5053_22, e_5053_25, e_5053_26, e_5053_29, e_5053_30, e_5053_33, e_5053_36, e_5053_37, zk_int, zk_ref, zk_null, zk_none, zk_long, zisR_r, zisR_n, zcl_int, zcl_ref, zcl_null, zpush_s, zpush_n, zbs, zbn, true_or, or_true, not_false_eq_true, not_true_eq_false, ↓reduceIte, and_self, and_true, true_and, g1, z, h1, h2, q, nI_1, nl, false_or]
theorem q_isUnder_l1 {d s : Nat} {w : zM} {o0 : Option Value} {y : Int32} (hs : s + 2 ≤ 7) : den (d + 1) 5053 4 [o0, some (.int y), some (.int 1), some (.int (nI s))] [] w = some (some (.int (if y = 1 ∨ y = 0 then 1 else 0)), w) := by
  have g1 : ((7 : Int32) ≤ nI s) = False := nI_ge_f (a := s) (b := 7) (by omega) (by omega)
  have z : ((1 : Int32) = -1) = False := by decide
  have e1 : ztab 1000 1 = 0 := by decide +kernel
  have q : cal d 5054 [.ref 1000, .int 1] w = some (some (.int (0)), w) := (q_atS (j := 1) zt_1000 (by rw [zn_1000]; decide) (by rw [zn_1000]; decide)).trans (congrArg (fun z => some (some (Value.int z), w)) e1)
  have nl := q_isUnder_l0 (d := d) (s := s + 1) (w := w) (o0 := o0) (y := y) (by omega)
  rw [e_5053_4]
  by_cases h1 : 1 = y
  · subst h1
    simp only [c_5053, e_5053_0, e_5053_1, e_5053_2, e_5053_3, e_5053_5, e_5053_7, e_5053_10, e_5053_11, e_5053_12, e_5053_15, e_5053_16, e_5053_17, e_5053_20, e_5053_21, e_5053_22, e_5053_25, e_5053_26, e_5053_29, e_5053_30, e_5053_33, e_5053_36, e_5053_37, zk_int, zk_ref, zk_null, zk_none, zk_long, zisR_r, zisR_n, zcl_int, zcl_ref, zcl_null, zpush_s, zpush_n, zbs, zbn, true_or, or_true, not_false_eq_true, not_true_eq_false, ↓reduceIte, and_self, and_true, true_and, g1, z]
  · have h2 : ¬ y = 1 := fun e => h1 e.symm
    simp only [c_5053, e_5053_0, e_5053_1, e_5053_2, e_5053_3, e_5053_5, e_5053_7, e_5053_10, e_5053_11, e_5053_12, e_5053_15, e_5053_16, e_5053_17, e_5053_20, e_5053_21, e_5053_22, e_5053_25, e_5053_26, e_5053_29, e_5053_30, e_5053_33, e_5053_36, e_5053_37, zk_int, zk_ref, zk_null, zk_none, zk_long, zisR_r, zisR_n, zcl_int, zcl_ref, zcl_null, zpush_s, zpush_n, zbs, zbn, true_or, or_true, not_false_eq_true, not_true_eq_false, ↓reduceIte, and_self, and_true, true_and, g1, z, h1, h2, q, nI_1, nl, false_or]
theorem q_isUnder_l4 {d s : Nat} {w : zM} {o0 : Option Value} {y : Int32} (hs : s + 2 ≤ 7) : den (d + 1) 5053 4 [o0, some (.int y), some (.int 4), some (.int (nI s))] [] w = some (some (.int (if y = 4 ∨ y = 0 then 1 else 0)), w) := by
  have g1 : ((7 : Int32) ≤ nI s) = False := nI_ge_f (a := s) (b := 7) (by omega) (by omega)
  have z : ((4 : Int32) = -1) = False := by decide
  have e1 : ztab 1000 4 = 0 := by decide +kernel
  have q : cal d 5054 [.ref 1000, .int 4] w = some (some (.int (0)), w) := (q_atS (j := 4) zt_1000 (by rw [zn_1000]; decide) (by rw [zn_1000]; decide)).trans (congrArg (fun z => some (some (Value.int z), w)) e1)
  have nl := q_isUnder_l0 (d := d) (s := s + 1) (w := w) (o0 := o0) (y := y) (by omega)
  rw [e_5053_4]
  by_cases h1 : 4 = y
  · subst h1
    simp only [c_5053, e_5053_0, e_5053_1, e_5053_2, e_5053_3, e_5053_5, e_5053_7, e_5053_10, e_5053_11, e_5053_12, e_5053_15, e_5053_16, e_5053_17, e_5053_20, e_5053_21, e_5053_22, e_5053_25, e_5053_26, e_5053_29, e_5053_30, e_5053_33, e_5053_36, e_5053_37, zk_int, zk_ref, zk_null, zk_none, zk_long, zisR_r, zisR_n, zcl_int, zcl_ref, zcl_null, zpush_s, zpush_n, zbs, zbn, true_or, or_true, not_false_eq_true, not_true_eq_false, ↓reduceIte, and_self, and_true, true_and, g1, z]
  · have h2 : ¬ y = 4 := fun e => h1 e.symm
    simp only [c_5053, e_5053_0, e_5053_1, e_5053_2, e_5053_3, e_5053_5, e_5053_7, e_5053_10, e_5053_11, e_5053_12, e_5053_15, e_5053_16, e_5053_17, e_5053_20, e_5053_21, e_5053_22, e_5053_25, e_5053_26, e_5053_29, e_5053_30, e_5053_33, e_5053_36, e_5053_37, zk_int, zk_ref, zk_null, zk_none, zk_long, zisR_r, zisR_n, zcl_int, zcl_ref, zcl_null, zpush_s, zpush_n, zbs, zbn, true_or, or_true, not_false_eq_true, not_true_eq_false, ↓reduceIte, and_self, and_true, true_and, g1, z, h1, h2, q, nI_1, nl, false_or]
theorem q_isUnder_l2 {d s : Nat} {w : zM} {o0 : Option Value} {y : Int32} (hs : s + 3 ≤ 7) : den (d + 1) 5053 4 [o0, some (.int y), some (.int 2), some (.int (nI s))] [] w = some (some (.int (if y = 2 ∨ y = 1 ∨ y = 0 then 1 else 0)), w) := by
  have g1 : ((7 : Int32) ≤ nI s) = False := nI_ge_f (a := s) (b := 7) (by omega) (by omega)
  have z : ((2 : Int32) = -1) = False := by decide
  have e1 : ztab 1000 2 = 1 := by decide +kernel
  have q : cal d 5054 [.ref 1000, .int 2] w = some (some (.int (1)), w) := (q_atS (j := 2) zt_1000 (by rw [zn_1000]; decide) (by rw [zn_1000]; decide)).trans (congrArg (fun z => some (some (Value.int z), w)) e1)
  have nl := q_isUnder_l1 (d := d) (s := s + 1) (w := w) (o0 := o0) (y := y) (by omega)
  rw [e_5053_4]
  by_cases h1 : 2 = y
  · subst h1
    simp only [c_5053, e_5053_0, e_5053_1, e_5053_2, e_5053_3, e_5053_5, e_5053_7, e_5053_10, e_5053_11, e_5053_12, e_5053_15, e_5053_16, e_5053_17, e_5053_20, e_5053_21, e_5053_22, e_5053_25, e_5053_26, e_5053_29, e_5053_30, e_5053_33, e_5053_36, e_5053_37, zk_int, zk_ref, zk_null, zk_none, zk_long, zisR_r, zisR_n, zcl_int, zcl_ref, zcl_null, zpush_s, zpush_n, zbs, zbn, true_or, or_true, not_false_eq_true, not_true_eq_false, ↓reduceIte, and_self, and_true, true_and, g1, z]
  · have h2 : ¬ y = 2 := fun e => h1 e.symm
    simp only [c_5053, e_5053_0, e_5053_1, e_5053_2, e_5053_3, e_5053_5, e_5053_7, e_5053_10, e_5053_11, e_5053_12, e_5053_15, e_5053_16, e_5053_17, e_5053_20, e_5053_21, e_5053_22, e_5053_25, e_5053_26, e_5053_29, e_5053_30, e_5053_33, e_5053_36, e_5053_37, zk_int, zk_ref, zk_null, zk_none, zk_long, zisR_r, zisR_n, zcl_int, zcl_ref, zcl_null, zpush_s, zpush_n, zbs, zbn, true_or, or_true, not_false_eq_true, not_true_eq_false, ↓reduceIte, and_self, and_true, true_and, g1, z, h1, h2, q, nI_1, nl, false_or]
theorem q_isUnder_l3 {d s : Nat} {w : zM} {o0 : Option Value} {y : Int32} (hs : s + 3 ≤ 7) : den (d + 1) 5053 4 [o0, some (.int y), some (.int 3), some (.int (nI s))] [] w = some (some (.int (if y = 3 ∨ y = 1 ∨ y = 0 then 1 else 0)), w) := by
  have g1 : ((7 : Int32) ≤ nI s) = False := nI_ge_f (a := s) (b := 7) (by omega) (by omega)
  have z : ((3 : Int32) = -1) = False := by decide
  have e1 : ztab 1000 3 = 1 := by decide +kernel
  have q : cal d 5054 [.ref 1000, .int 3] w = some (some (.int (1)), w) := (q_atS (j := 3) zt_1000 (by rw [zn_1000]; decide) (by rw [zn_1000]; decide)).trans (congrArg (fun z => some (some (Value.int z), w)) e1)
  have nl := q_isUnder_l1 (d := d) (s := s + 1) (w := w) (o0 := o0) (y := y) (by omega)
  rw [e_5053_4]
  by_cases h1 : 3 = y
  · subst h1
    simp only [c_5053, e_5053_0, e_5053_1, e_5053_2, e_5053_3, e_5053_5, e_5053_7, e_5053_10, e_5053_11, e_5053_12, e_5053_15, e_5053_16, e_5053_17, e_5053_20, e_5053_21, e_5053_22, e_5053_25, e_5053_26, e_5053_29, e_5053_30, e_5053_33, e_5053_36, e_5053_37, zk_int, zk_ref, zk_null, zk_none, zk_long, zisR_r, zisR_n, zcl_int, zcl_ref, zcl_null, zpush_s, zpush_n, zbs, zbn, true_or, or_true, not_false_eq_true, not_true_eq_false, ↓reduceIte, and_self, and_true, true_and, g1, z]
  · have h2 : ¬ y = 3 := fun e => h1 e.symm
    simp only [c_5053, e_5053_0, e_5053_1, e_5053_2, e_5053_3, e_5053_5, e_5053_7, e_5053_10, e_5053_11, e_5053_12, e_5053_15, e_5053_16, e_5053_17, e_5053_20, e_5053_21, e_5053_22, e_5053_25, e_5053_26, e_5053_29, e_5053_30, e_5053_33, e_5053_36, e_5053_37, zk_int, zk_ref, zk_null, zk_none, zk_long, zisR_r, zisR_n, zcl_int, zcl_ref, zcl_null, zpush_s, zpush_n, zbs, zbn, true_or, or_true, not_false_eq_true, not_true_eq_false, ↓reduceIte, and_self, and_true, true_and, g1, z, h1, h2, q, nI_1, nl, false_or]
theorem q_isUnder_l5 {d s : Nat} {w : zM} {o0 : Option Value} {y : Int32} (hs : s + 3 ≤ 7) : den (d + 1) 5053 4 [o0, some (.int y), some (.int 5), some (.int (nI s))] [] w = some (some (.int (if y = 5 ∨ y = 1 ∨ y = 0 then 1 else 0)), w) := by
  have g1 : ((7 : Int32) ≤ nI s) = False := nI_ge_f (a := s) (b := 7) (by omega) (by omega)
  have z : ((5 : Int32) = -1) = False := by decide
  have e1 : ztab 1000 5 = 1 := by decide +kernel
  have q : cal d 5054 [.ref 1000, .int 5] w = some (some (.int (1)), w) := (q_atS (j := 5) zt_1000 (by rw [zn_1000]; decide) (by rw [zn_1000]; decide)).trans (congrArg (fun z => some (some (Value.int z), w)) e1)
  have nl := q_isUnder_l1 (d := d) (s := s + 1) (w := w) (o0 := o0) (y := y) (by omega)
  rw [e_5053_4]
  by_cases h1 : 5 = y
  · subst h1
    simp only [c_5053, e_5053_0, e_5053_1, e_5053_2, e_5053_3, e_5053_5, e_5053_7, e_5053_10, e_5053_11, e_5053_12, e_5053_15, e_5053_16, e_5053_17, e_5053_20, e_5053_21, e_5053_22, e_5053_25, e_5053_26, e_5053_29, e_5053_30, e_5053_33, e_5053_36, e_5053_37, zk_int, zk_ref, zk_null, zk_none, zk_long, zisR_r, zisR_n, zcl_int, zcl_ref, zcl_null, zpush_s, zpush_n, zbs, zbn, true_or, or_true, not_false_eq_true, not_true_eq_false, ↓reduceIte, and_self, and_true, true_and, g1, z]
  · have h2 : ¬ y = 5 := fun e => h1 e.symm
    simp only [c_5053, e_5053_0, e_5053_1, e_5053_2, e_5053_3, e_5053_5, e_5053_7, e_5053_10, e_5053_11, e_5053_12, e_5053_15, e_5053_16, e_5053_17, e_5053_20, e_5053_21, e_5053_22, e_5053_25, e_5053_26, e_5053_29, e_5053_30, e_5053_33, e_5053_36, e_5053_37, zk_int, zk_ref, zk_null, zk_none, zk_long, zisR_r, zisR_n, zcl_int, zcl_ref, zcl_null, zpush_s, zpush_n, zbs, zbn, true_or, or_true, not_false_eq_true, not_true_eq_false, ↓reduceIte, and_self, and_true, true_and, g1, z, h1, h2, q, nI_1, nl, false_or]
theorem q_isUnder_l6 {d s : Nat} {w : zM} {o0 : Option Value} {y : Int32} (hs : s + 4 ≤ 7) : den (d + 1) 5053 4 [o0, some (.int y), some (.int 6), some (.int (nI s))] [] w = some (some (.int (if y = 6 ∨ y = 3 ∨ y = 1 ∨ y = 0 then 1 else 0)), w) := by
  have g1 : ((7 : Int32) ≤ nI s) = False := nI_ge_f (a := s) (b := 7) (by omega) (by omega)
  have z : ((6 : Int32) = -1) = False := by decide
  have e1 : ztab 1000 6 = 3 := by decide +kernel
  have q : cal d 5054 [.ref 1000, .int 6] w = some (some (.int (3)), w) := (q_atS (j := 6) zt_1000 (by rw [zn_1000]; decide) (by rw [zn_1000]; decide)).trans (congrArg (fun z => some (some (Value.int z), w)) e1)
  have nl := q_isUnder_l3 (d := d) (s := s + 1) (w := w) (o0 := o0) (y := y) (by omega)
  rw [e_5053_4]
  by_cases h1 : 6 = y
  · subst h1
    simp only [c_5053, e_5053_0, e_5053_1, e_5053_2, e_5053_3, e_5053_5, e_5053_7, e_5053_10, e_5053_11, e_5053_12, e_5053_15, e_5053_16, e_5053_17, e_5053_20, e_5053_21, e_5053_22, e_5053_25, e_5053_26, e_5053_29, e_5053_30, e_5053_33, e_5053_36, e_5053_37, zk_int, zk_ref, zk_null, zk_none, zk_long, zisR_r, zisR_n, zcl_int, zcl_ref, zcl_null, zpush_s, zpush_n, zbs, zbn, true_or, or_true, not_false_eq_true, not_true_eq_false, ↓reduceIte, and_self, and_true, true_and, g1, z]
  · have h2 : ¬ y = 6 := fun e => h1 e.symm
    simp only [c_5053, e_5053_0, e_5053_1, e_5053_2, e_5053_3, e_5053_5, e_5053_7, e_5053_10, e_5053_11, e_5053_12, e_5053_15, e_5053_16, e_5053_17, e_5053_20, e_5053_21, e_5053_22, e_5053_25, e_5053_26, e_5053_29, e_5053_30, e_5053_33, e_5053_36, e_5053_37, zk_int, zk_ref, zk_null, zk_none, zk_long, zisR_r, zisR_n, zcl_int, zcl_ref, zcl_null, zpush_s, zpush_n, zbs, zbn, true_or, or_true, not_false_eq_true, not_true_eq_false, ↓reduceIte, and_self, and_true, true_and, g1, z, h1, h2, q, nI_1, nl, false_or]
theorem q_isUnder_0 {d : Nat} {w : zM} {y : Int32} : cal (d + 1) 5053 [.int 0, .int y] w = some (some (.int (if y = 0 then 1 else 0)), w) := by
  have h := q_isUnder_l0 (d := d) (s := 0) (w := w) (o0 := some (.int 0)) (y := y) (by decide)
  simp only [c_5053, e_5053_0, e_5053_1, e_5053_2, e_5053_3, e_5053_5, e_5053_7, e_5053_10, e_5053_11, e_5053_12, e_5053_15, e_5053_16, e_5053_17, e_5053_20, e_5053_21, e_5053_22, e_5053_25, e_5053_26, e_5053_29, e_5053_30, e_5053_33, e_5053_36, e_5053_37, zk_int, zk_ref, zk_null, zk_none, zk_long, zisR_r, zisR_n, zcl_int, zcl_ref, zcl_null, zpush_s, zpush_n, zbs, zbn, true_or, or_true, not_false_eq_true, not_true_eq_false, ↓reduceIte, and_self, and_true, true_and]
  exact h
theorem q_isUnder_1 {d : Nat} {w : zM} {y : Int32} : cal (d + 1) 5053 [.int 1, .int y] w = some (some (.int (if y = 1 ∨ y = 0 then 1 else 0)), w) := by
  have h := q_isUnder_l1 (d := d) (s := 0) (w := w) (o0 := some (.int 1)) (y := y) (by decide)
  simp only [c_5053, e_5053_0, e_5053_1, e_5053_2, e_5053_3, e_5053_5, e_5053_7, e_5053_10, e_5053_11, e_5053_12, e_5053_15, e_5053_16, e_5053_17, e_5053_20, e_5053_21, e_5053_22, e_5053_25, e_5053_26, e_5053_29, e_5053_30, e_5053_33, e_5053_36, e_5053_37, zk_int, zk_ref, zk_null, zk_none, zk_long, zisR_r, zisR_n, zcl_int, zcl_ref, zcl_null, zpush_s, zpush_n, zbs, zbn, true_or, or_true, not_false_eq_true, not_true_eq_false, ↓reduceIte, and_self, and_true, true_and]
  exact h
theorem q_isUnder_2 {d : Nat} {w : zM} {y : Int32} : cal (d + 1) 5053 [.int 2, .int y] w = some (some (.int (if y = 2 ∨ y = 1 ∨ y = 0 then 1 else 0)), w) := by
  have h := q_isUnder_l2 (d := d) (s := 0) (w := w) (o0 := some (.int 2)) (y := y) (by decide)
  simp only [c_5053, e_5053_0, e_5053_1, e_5053_2, e_5053_3, e_5053_5, e_5053_7, e_5053_10, e_5053_11, e_5053_12, e_5053_15, e_5053_16, e_5053_17, e_5053_20, e_5053_21, e_5053_22, e_5053_25, e_5053_26, e_5053_29, e_5053_30, e_5053_33, e_5053_36, e_5053_37, zk_int, zk_ref, zk_null, zk_none, zk_long, zisR_r, zisR_n, zcl_int, zcl_ref, zcl_null, zpush_s, zpush_n, zbs, zbn, true_or, or_true, not_false_eq_true, not_true_eq_false, ↓reduceIte, and_self, and_true, true_and]
  exact h
theorem q_isUnder_3 {d : Nat} {w : zM} {y : Int32} : cal (d + 1) 5053 [.int 3, .int y] w = some (some (.int (if y = 3 ∨ y = 1 ∨ y = 0 then 1 else 0)), w) := by
  have h := q_isUnder_l3 (d := d) (s := 0) (w := w) (o0 := some (.int 3)) (y := y) (by decide)
  simp only [c_5053, e_5053_0, e_5053_1, e_5053_2, e_5053_3, e_5053_5, e_5053_7, e_5053_10, e_5053_11, e_5053_12, e_5053_15, e_5053_16, e_5053_17, e_5053_20, e_5053_21, e_5053_22, e_5053_25, e_5053_26, e_5053_29, e_5053_30, e_5053_33, e_5053_36, e_5053_37, zk_int, zk_ref, zk_null, zk_none, zk_long, zisR_r, zisR_n, zcl_int, zcl_ref, zcl_null, zpush_s, zpush_n, zbs, zbn, true_or, or_true, not_false_eq_true, not_true_eq_false, ↓reduceIte, and_self, and_true, true_and]
  exact h
theorem q_isUnder_4 {d : Nat} {w : zM} {y : Int32} : cal (d + 1) 5053 [.int 4, .int y] w = some (some (.int (if y = 4 ∨ y = 0 then 1 else 0)), w) := by
  have h := q_isUnder_l4 (d := d) (s := 0) (w := w) (o0 := some (.int 4)) (y := y) (by decide)
  simp only [c_5053, e_5053_0, e_5053_1, e_5053_2, e_5053_3, e_5053_5, e_5053_7, e_5053_10, e_5053_11, e_5053_12, e_5053_15, e_5053_16, e_5053_17, e_5053_20, e_5053_21, e_5053_22, e_5053_25, e_5053_26, e_5053_29, e_5053_30, e_5053_33, e_5053_36, e_5053_37, zk_int, zk_ref, zk_null, zk_none, zk_long, zisR_r, zisR_n, zcl_int, zcl_ref, zcl_null, zpush_s, zpush_n, zbs, zbn, true_or, or_true, not_false_eq_true, not_true_eq_false, ↓reduceIte, and_self, and_true, true_and]
  exact h
theorem q_isUnder_5 {d : Nat} {w : zM} {y : Int32} : cal (d + 1) 5053 [.int 5, .int y] w = some (some (.int (if y = 5 ∨ y = 1 ∨ y = 0 then 1 else 0)), w) := by
  have h := q_isUnder_l5 (d := d) (s := 0) (w := w) (o0 := some (.int 5)) (y := y) (by decide)
  simp only [c_5053, e_5053_0, e_5053_1, e_5053_2, e_5053_3, e_5053_5, e_5053_7, e_5053_10, e_5053_11, e_5053_12, e_5053_15, e_5053_16, e_5053_17, e_5053_20, e_5053_21, e_5053_22, e_5053_25, e_5053_26, e_5053_29, e_5053_30, e_5053_33, e_5053_36, e_5053_37, zk_int, zk_ref, zk_null, zk_none, zk_long, zisR_r, zisR_n, zcl_int, zcl_ref, zcl_null, zpush_s, zpush_n, zbs, zbn, true_or, or_true, not_false_eq_true, not_true_eq_false, ↓reduceIte, and_self, and_true, true_and]
  exact h
theorem q_isUnder_6 {d : Nat} {w : zM} {y : Int32} : cal (d + 1) 5053 [.int 6, .int y] w = some (some (.int (if y = 6 ∨ y = 3 ∨ y = 1 ∨ y = 0 then 1 else 0)), w) := by
  have h := q_isUnder_l6 (d := d) (s := 0) (w := w) (o0 := some (.int 6)) (y := y) (by decide)
  simp only [c_5053, e_5053_0, e_5053_1, e_5053_2, e_5053_3, e_5053_5, e_5053_7, e_5053_10, e_5053_11, e_5053_12, e_5053_15, e_5053_16, e_5053_17, e_5053_20, e_5053_21, e_5053_22, e_5053_25, e_5053_26, e_5053_29, e_5053_30, e_5053_33, e_5053_36, e_5053_37, zk_int, zk_ref, zk_null, zk_none, zk_long, zisR_r, zisR_n, zcl_int, zcl_ref, zcl_null, zpush_s, zpush_n, zbs, zbn, true_or, or_true, not_false_eq_true, not_true_eq_false, ↓reduceIte, and_self, and_true, true_and]
  exact h
