theorem ix160 (j i : Nat) : 160 * nI j + nI i = nI (160 * j + i) := by
  show nI 160 * nI j + nI i = _
  rw [pk_mul, nI_add]
theorem sLow_0 {s : Nat} (hs : s < 4) : sLow (nI s) 0 = 0 := by
  rcases (by omega : s = 0 ∨ s = 1 ∨ s = 2 ∨ s = 3) with rfl | rfl | rfl | rfl <;> decide
theorem sLow_i (k : Int32) (v : Int64) : sLow k (sLow k v) = sLow k v := by
  unfold sLow
  by_cases h0 : k = 0
  · simp [h0]
  · by_cases h1 : k = 1
    · simp [h1]
    · by_cases h2 : k = 2
      · simp [h2]
      · simp [h0, h1, h2]
def zzr (f : Nat → Int64) (b n : Nat) : Nat → Int64 := fun k => if b ≤ k ∧ k < b + n then 0 else f k
theorem zzr_0 (f : Nat → Int64) (b : Nat) : zzr f b 0 = f := by
  funext k
  exact if_neg (by omega)
theorem zzr_s (f : Nat → Int64) (b n : Nat) : vp_updL (zzr f b n) (b + n) 0 = zzr f b (n + 1) := by
  funext k
  unfold vp_updL zzr
  by_cases h : k = b + n
  · rw [if_pos h, if_pos (by omega)]
  · rw [if_neg h]
    by_cases h2 : b ≤ k ∧ k < b + n
    · rw [if_pos h2, if_pos (by omega)]
    · rw [if_neg h2, if_neg (by omega)]
section PO
variable {d n m : Nat} {w w1 w2 : zM} {S : Nat → Int32} {L : Int32} {T V G : Nat → Int32}
theorem m_row_l {j : Nat} {o x : Int32} (hj : j < 8) : den d 6007 79 [some (.ref 50), some (.int (nI j)), some (.int o), some (.int x), some (.int 0)] [] w = some (some (.int 1), zuB w 68 (zzr (w.2 68) (160 * j) 160)) := by
  have key : ∀ r i, i + r = 160 → den d 6007 79 [some (.ref 50), some (.int (nI j)), some (.int o), some (.int x), some (.int (nI i))] [] (zuB w 68 (zzr (w.2 68) (160 * j) i)) = some (some (.int 1), zuB w 68 (zzr (w.2 68) (160 * j) 160)) := by
    intro r
    induction r with
    | zero =>
      intro i hi
      have e : i = 160 := by omega
      subst e
      have g1 : ((160 : Int32) ≤ nI 160) = True := eq_true (by decide)
      rw [e_6007_79]
      simp only [e_6007_81, e_6007_84, e_6007_107, e_6007_108, zk_int, zk_ref, zk_null, zk_none, zk_long, zisR_r, zisR_n, zcl_int, zcl_ref, zcl_null, zpush_s, zpush_n, zbs, zbn, true_or, or_true, not_false_eq_true, not_true_eq_false, ↓reduceIte, and_self, and_true, true_and, g1]
    | succ r ih =>
      intro i hi
      have hi2 : i < 160 := by omega
      have g1 : ((160 : Int32) ≤ nI i) = False := nI_ge_f (b := 160) hi2 (by decide)
      have hz := zis_nI (j := 160 * j + i) (n := 1280) (by omega) (by decide)
      have hc := nI_clamp (n := 160 * j + i) (by omega)
      have l0 : Int64.ofNat 0 = 0 := rfl
      rw [e_6007_79]
      simp only [c_6007, e_6007_0, e_6007_1, e_6007_2, e_6007_5, e_6007_8, e_6007_9, e_6007_10, e_6007_13, e_6007_14, e_6007_15, e_6007_18, e_6007_19, e_6007_21, e_6007_24, e_6007_25, e_6007_26, e_6007_29, e_6007_30, e_6007_31, e_6007_34, e_6007_35, e_6007_37, e_6007_40, e_6007_41, e_6007_42, e_6007_45, e_6007_48, e_6007_49, e_6007_51, e_6007_54, e_6007_55, e_6007_56, e_6007_59, e_6007_60, e_6007_61, e_6007_62, e_6007_63, e_6007_66, e_6007_67, e_6007_68, e_6007_69, e_6007_70, e_6007_73, e_6007_74, e_6007_75, e_6007_76, e_6007_77, e_6007_81, e_6007_84, e_6007_87, e_6007_88, e_6007_91, e_6007_94, e_6007_95, e_6007_96, e_6007_98, e_6007_99, e_6007_100, e_6007_101, e_6007_104, e_6007_108, zk_int, zk_ref, zk_null, zk_none, zk_long, zisR_r, zisR_n, zcl_int, zcl_ref, zcl_null, zpush_s, zpush_n, zbs, zbn, true_or, or_true, not_false_eq_true, not_true_eq_false, ↓reduceIte, and_self, and_true, true_and, zt_50, zr_50_25, zt_68, zn_68, zq_68, g1, ix160, hz, hc, zul_B, zB_s, zB_B, zzr_s, nI_1]
      exact ih (i + 1) (by omega)
  have k0 := key 160 0 (by omega)
  rw [zzr_0, zB_id, nI_0] at k0
  exact k0
theorem p_row {x o k : Int32} (A : zRl w S L n m) : zPr d 5001 6007 [.int x, .int o, .int k] w S L := by
  rcases ix_c x (by decide : 8 < 1000) with hx | ⟨j, hj, rfl⟩
  · have q1 := m_isShelf_o (d := d + 39) (w := fRf w 1) hx
    have r := m_no (d := d + 39) (w := fRf w 1) (j := 1) (c := -1) (by decide) (by decide)
    refine pr_f A (by decide) (f_row_1 (d := d + 38) hx) (zKp_r _) ?_ (zKp_r _)
    simp only [c_6007, e_6007_0, e_6007_1, e_6007_2, e_6007_5, e_6007_8, e_6007_9, e_6007_10, e_6007_13, e_6007_14, e_6007_15, e_6007_18, e_6007_19, e_6007_21, e_6007_24, e_6007_25, e_6007_26, e_6007_29, e_6007_30, e_6007_31, e_6007_34, e_6007_35, e_6007_37, e_6007_40, e_6007_41, e_6007_42, e_6007_45, e_6007_48, e_6007_49, e_6007_51, e_6007_54, e_6007_55, e_6007_56, e_6007_59, e_6007_60, e_6007_61, e_6007_62, e_6007_63, e_6007_66, e_6007_67, e_6007_68, e_6007_69, e_6007_70, e_6007_73, e_6007_74, e_6007_75, e_6007_76, e_6007_77, e_6007_81, e_6007_84, e_6007_87, e_6007_88, e_6007_91, e_6007_94, e_6007_95, e_6007_96, e_6007_98, e_6007_99, e_6007_100, e_6007_101, e_6007_104, e_6007_108, zk_int, zk_ref, zk_null, zk_none, zk_long, zisR_r, zisR_n, zcl_int, zcl_ref, zcl_null, zpush_s, zpush_n, zbs, zbn, true_or, or_true, not_false_eq_true, not_true_eq_false, ↓reduceIte, and_self, and_true, true_and, zt_50, q1, r]
  · have q1 := fun w => m_isShelf (d := d + 39) (w := w) hj
    by_cases k0 : k < 0
    · have r := m_no (d := d + 39) (w := fRf w 4) (j := 4) (c := -4) (by decide) (by decide)
      have k0' : ¬ 0 ≤ k := Int32.not_le.mpr k0
      refine pr_f A (by decide) (f_row_4 (d := d + 38) hj k0) (zKp_r _) ?_ (zKp_r _)
      simp only [c_6007, e_6007_0, e_6007_1, e_6007_2, e_6007_5, e_6007_8, e_6007_9, e_6007_10, e_6007_13, e_6007_14, e_6007_15, e_6007_18, e_6007_19, e_6007_21, e_6007_24, e_6007_25, e_6007_26, e_6007_29, e_6007_30, e_6007_31, e_6007_34, e_6007_35, e_6007_37, e_6007_40, e_6007_41, e_6007_42, e_6007_45, e_6007_48, e_6007_49, e_6007_51, e_6007_54, e_6007_55, e_6007_56, e_6007_59, e_6007_60, e_6007_61, e_6007_62, e_6007_63, e_6007_66, e_6007_67, e_6007_68, e_6007_69, e_6007_70, e_6007_73, e_6007_74, e_6007_75, e_6007_76, e_6007_77, e_6007_81, e_6007_84, e_6007_87, e_6007_88, e_6007_91, e_6007_94, e_6007_95, e_6007_96, e_6007_98, e_6007_99, e_6007_100, e_6007_101, e_6007_104, e_6007_108, zk_int, zk_ref, zk_null, zk_none, zk_long, zisR_r, zisR_n, zcl_int, zcl_ref, zcl_null, zpush_s, zpush_n, zbs, zbn, true_or, or_true, not_false_eq_true, not_true_eq_false, ↓reduceIte, and_self, and_true, true_and, ie_0_1, ie_0_2, ie_0_3, ie_0_4, ie_0_5, ie_0_6, ie_0_7, ie_1_0, ie_1_2, ie_1_3, ie_1_4, ie_1_5, ie_1_6, ie_1_7, ie_2_0, ie_2_1, ie_2_3, ie_2_4, ie_2_5, ie_2_6, ie_2_7, ie_3_0, ie_3_1, ie_3_2, ie_3_4, ie_3_5, ie_3_6, ie_3_7, ie_4_0, ie_4_1, ie_4_2, ie_4_3, ie_4_5, ie_4_6, ie_4_7, ie_5_0, ie_5_1, ie_5_2, ie_5_3, ie_5_4, ie_5_6, ie_5_7, ie_6_0, ie_6_1, ie_6_2, ie_6_3, ie_6_4, ie_6_5, ie_6_7, ie_7_0, ie_7_1, ie_7_2, ie_7_3, ie_7_4, ie_7_5, ie_7_6, zt_50, q1, k0', r]
    · have k0' := Int32.not_lt.mp k0
      by_cases o0 : o < 0
      · have r := m_no (d := d + 39) (w := fRf w 6) (j := 6) (c := -6) (by decide) (by decide)
        refine pr_f A (by decide) (f_row_6 (d := d + 38) hj k0' (Or.inl o0)) (zKp_r _) ?_ (zKp_r _)
        simp only [c_6007, e_6007_0, e_6007_1, e_6007_2, e_6007_5, e_6007_8, e_6007_9, e_6007_10, e_6007_13, e_6007_14, e_6007_15, e_6007_18, e_6007_19, e_6007_21, e_6007_24, e_6007_25, e_6007_26, e_6007_29, e_6007_30, e_6007_31, e_6007_34, e_6007_35, e_6007_37, e_6007_40, e_6007_41, e_6007_42, e_6007_45, e_6007_48, e_6007_49, e_6007_51, e_6007_54, e_6007_55, e_6007_56, e_6007_59, e_6007_60, e_6007_61, e_6007_62, e_6007_63, e_6007_66, e_6007_67, e_6007_68, e_6007_69, e_6007_70, e_6007_73, e_6007_74, e_6007_75, e_6007_76, e_6007_77, e_6007_81, e_6007_84, e_6007_87, e_6007_88, e_6007_91, e_6007_94, e_6007_95, e_6007_96, e_6007_98, e_6007_99, e_6007_100, e_6007_101, e_6007_104, e_6007_108, zk_int, zk_ref, zk_null, zk_none, zk_long, zisR_r, zisR_n, zcl_int, zcl_ref, zcl_null, zpush_s, zpush_n, zbs, zbn, true_or, or_true, not_false_eq_true, not_true_eq_false, ↓reduceIte, and_self, and_true, true_and, ie_0_1, ie_0_2, ie_0_3, ie_0_4, ie_0_5, ie_0_6, ie_0_7, ie_1_0, ie_1_2, ie_1_3, ie_1_4, ie_1_5, ie_1_6, ie_1_7, ie_2_0, ie_2_1, ie_2_3, ie_2_4, ie_2_5, ie_2_6, ie_2_7, ie_3_0, ie_3_1, ie_3_2, ie_3_4, ie_3_5, ie_3_6, ie_3_7, ie_4_0, ie_4_1, ie_4_2, ie_4_3, ie_4_5, ie_4_6, ie_4_7, ie_5_0, ie_5_1, ie_5_2, ie_5_3, ie_5_4, ie_5_6, ie_5_7, ie_6_0, ie_6_1, ie_6_2, ie_6_3, ie_6_4, ie_6_5, ie_6_7, ie_7_0, ie_7_1, ie_7_2, ie_7_3, ie_7_4, ie_7_5, ie_7_6, zt_50, q1, k0', o0, r]
      · have o0' := Int32.not_lt.mp o0
        by_cases o3 : 4 ≤ o
        · have r := m_no (d := d + 39) (w := fRf w 6) (j := 6) (c := -6) (by decide) (by decide)
          have o3' : ¬ o ≤ 3 := by
            have e3 : (3 : Int32).toInt = 3 := by decide
            have e4 : (4 : Int32).toInt = 4 := by decide
            rw [ti_le, e3]
            rw [ti_le, e4] at o3
            omega
          refine pr_f A (by decide) (f_row_6 (d := d + 38) hj k0' (Or.inr o3)) (zKp_r _) ?_ (zKp_r _)
          simp only [c_6007, e_6007_0, e_6007_1, e_6007_2, e_6007_5, e_6007_8, e_6007_9, e_6007_10, e_6007_13, e_6007_14, e_6007_15, e_6007_18, e_6007_19, e_6007_21, e_6007_24, e_6007_25, e_6007_26, e_6007_29, e_6007_30, e_6007_31, e_6007_34, e_6007_35, e_6007_37, e_6007_40, e_6007_41, e_6007_42, e_6007_45, e_6007_48, e_6007_49, e_6007_51, e_6007_54, e_6007_55, e_6007_56, e_6007_59, e_6007_60, e_6007_61, e_6007_62, e_6007_63, e_6007_66, e_6007_67, e_6007_68, e_6007_69, e_6007_70, e_6007_73, e_6007_74, e_6007_75, e_6007_76, e_6007_77, e_6007_81, e_6007_84, e_6007_87, e_6007_88, e_6007_91, e_6007_94, e_6007_95, e_6007_96, e_6007_98, e_6007_99, e_6007_100, e_6007_101, e_6007_104, e_6007_108, zk_int, zk_ref, zk_null, zk_none, zk_long, zisR_r, zisR_n, zcl_int, zcl_ref, zcl_null, zpush_s, zpush_n, zbs, zbn, true_or, or_true, not_false_eq_true, not_true_eq_false, ↓reduceIte, and_self, and_true, true_and, ie_0_1, ie_0_2, ie_0_3, ie_0_4, ie_0_5, ie_0_6, ie_0_7, ie_1_0, ie_1_2, ie_1_3, ie_1_4, ie_1_5, ie_1_6, ie_1_7, ie_2_0, ie_2_1, ie_2_3, ie_2_4, ie_2_5, ie_2_6, ie_2_7, ie_3_0, ie_3_1, ie_3_2, ie_3_4, ie_3_5, ie_3_6, ie_3_7, ie_4_0, ie_4_1, ie_4_2, ie_4_3, ie_4_5, ie_4_6, ie_4_7, ie_5_0, ie_5_1, ie_5_2, ie_5_3, ie_5_4, ie_5_6, ie_5_7, ie_6_0, ie_6_1, ie_6_2, ie_6_3, ie_6_4, ie_6_5, ie_6_7, ie_7_0, ie_7_1, ie_7_2, ie_7_3, ie_7_4, ie_7_5, ie_7_6, zt_50, q1, k0', o0, o3', r]
        · have o4 : o < 4 := Int32.not_le.mp o3
          have o3' : o ≤ 3 := by
            have e3 : (3 : Int32).toInt = 3 := by decide
            have e4 : (4 : Int32).toInt = 4 := by decide
            rw [ti_le, e3]
            rw [ti_lt, e4] at o4
            omega
          by_cases k6 : 160 < k
          · have r := m_no (d := d + 39) (w := fRf w 7) (j := 7) (c := -7) (by decide) (by decide)
            have k6' : ¬ k ≤ 160 := Int32.not_le.mpr k6
            refine pr_f A (by decide) (f_row_7 (d := d + 38) hj k0' o0' o4 k6) (zKp_r _) ?_ (zKp_r _)
            simp only [c_6007, e_6007_0, e_6007_1, e_6007_2, e_6007_5, e_6007_8, e_6007_9, e_6007_10, e_6007_13, e_6007_14, e_6007_15, e_6007_18, e_6007_19, e_6007_21, e_6007_24, e_6007_25, e_6007_26, e_6007_29, e_6007_30, e_6007_31, e_6007_34, e_6007_35, e_6007_37, e_6007_40, e_6007_41, e_6007_42, e_6007_45, e_6007_48, e_6007_49, e_6007_51, e_6007_54, e_6007_55, e_6007_56, e_6007_59, e_6007_60, e_6007_61, e_6007_62, e_6007_63, e_6007_66, e_6007_67, e_6007_68, e_6007_69, e_6007_70, e_6007_73, e_6007_74, e_6007_75, e_6007_76, e_6007_77, e_6007_81, e_6007_84, e_6007_87, e_6007_88, e_6007_91, e_6007_94, e_6007_95, e_6007_96, e_6007_98, e_6007_99, e_6007_100, e_6007_101, e_6007_104, e_6007_108, zk_int, zk_ref, zk_null, zk_none, zk_long, zisR_r, zisR_n, zcl_int, zcl_ref, zcl_null, zpush_s, zpush_n, zbs, zbn, true_or, or_true, not_false_eq_true, not_true_eq_false, ↓reduceIte, and_self, and_true, true_and, ie_0_1, ie_0_2, ie_0_3, ie_0_4, ie_0_5, ie_0_6, ie_0_7, ie_1_0, ie_1_2, ie_1_3, ie_1_4, ie_1_5, ie_1_6, ie_1_7, ie_2_0, ie_2_1, ie_2_3, ie_2_4, ie_2_5, ie_2_6, ie_2_7, ie_3_0, ie_3_1, ie_3_2, ie_3_4, ie_3_5, ie_3_6, ie_3_7, ie_4_0, ie_4_1, ie_4_2, ie_4_3, ie_4_5, ie_4_6, ie_4_7, ie_5_0, ie_5_1, ie_5_2, ie_5_3, ie_5_4, ie_5_6, ie_5_7, ie_6_0, ie_6_1, ie_6_2, ie_6_3, ie_6_4, ie_6_5, ie_6_7, ie_7_0, ie_7_1, ie_7_2, ie_7_3, ie_7_4, ie_7_5, ie_7_6, zt_50, q1, k0', o0, o3', k6', r]
          · have k6' : k ≤ 160 := Int32.not_lt.mp k6
            obtain ⟨z, hz, rfl⟩ : ∃ z, z ≤ 160 ∧ k = nI z := by
              obtain ⟨a, ha, rfl⟩ := nI_of k0
              exact ⟨a, (nI_leI (b := 160) ha (by decide)).mp k6', rfl⟩
            obtain ⟨so, hs, rfl⟩ : ∃ so, so < 4 ∧ o = nI so := by
              obtain ⟨a, ha, rfl⟩ := nI_of o0
              exact ⟨a, (nI_ltI (b := 4) ha (by decide)).mp o4, rfl⟩
            have hc := f_row (d := d + 38) (w := w) hj k0' o0' o4 k6'
            have x1 : (sHrW w (34 + 2 * j) (nI so) (nI z)).1 (34 + 2 * j) = upd (upd (w.1 (34 + 2 * j)) 1 (100 + nI so)) 2 (nI z) := zA_s _ _ _
            have xn : ∀ a, a ≠ 34 + 2 * j → (sHrW w (34 + 2 * j) (nI so) (nI z)).1 a = w.1 a := fun a h => zA_n _ _ h
            have xe : (sHrW w (34 + 2 * j) (nI so) (nI z)).2 (34 + 2 * j + 1) = zzer (w.2 (34 + 2 * j + 1)) 160 := zB_s _ _ _
            have xl : ∀ a, a ≠ 34 + 2 * j + 1 → (sHrW w (34 + 2 * j) (nI so) (nI z)).2 a = w.2 a := fun a h => zB_n _ _ h
            generalize sHrW w (34 + 2 * j) (nI so) (nI z) = X at hc x1 xn xe xl
            have hzj := zis_nI (j := j) (n := 8) hj (by decide)
            have hcj := nI_clamp (n := j) (by omega)
            have lp := m_row_l (d := d + 40) (w := zui (zui (zui X 64 j 1) 65 j (nI so)) 66 j (nI z)) (j := j) (o := nI so) (x := nI z) hj
            have o0n : ¬ nI so < 0 := o0
            have hm : cal (d + 40) 6007 [.ref 50, .int (nI j), .int (nI so), .int (nI z)] X = some (some (.int 1), zuB (zui (zui (zui X 64 j 1) 65 j (nI so)) 66 j (nI z)) 68 (zzr (X.2 68) (160 * j) 160)) := by
              simp only [c_6007, e_6007_0, e_6007_1, e_6007_2, e_6007_5, e_6007_14, e_6007_15, e_6007_25, e_6007_26, e_6007_29, e_6007_30, e_6007_31, e_6007_41, e_6007_42, e_6007_45, e_6007_55, e_6007_56, e_6007_59, e_6007_60, e_6007_61, e_6007_62, e_6007_63, e_6007_66, e_6007_67, e_6007_68, e_6007_69, e_6007_70, e_6007_73, e_6007_74, e_6007_75, e_6007_76, e_6007_77, zk_int, zk_ref, zk_null, zk_none, zk_long, zisR_r, zisR_n, zcl_int, zcl_ref, zcl_null, zpush_s, zpush_n, zbs, zbn, true_or, or_true, not_false_eq_true, not_true_eq_false, ↓reduceIte, and_self, and_true, true_and, ie_0_1, ie_0_2, ie_0_3, ie_0_4, ie_0_5, ie_0_6, ie_0_7, ie_1_0, ie_1_2, ie_1_3, ie_1_4, ie_1_5, ie_1_6, ie_1_7, ie_2_0, ie_2_1, ie_2_3, ie_2_4, ie_2_5, ie_2_6, ie_2_7, ie_3_0, ie_3_1, ie_3_2, ie_3_4, ie_3_5, ie_3_6, ie_3_7, ie_4_0, ie_4_1, ie_4_2, ie_4_3, ie_4_5, ie_4_6, ie_4_7, ie_5_0, ie_5_1, ie_5_2, ie_5_3, ie_5_4, ie_5_6, ie_5_7, ie_6_0, ie_6_1, ie_6_2, ie_6_3, ie_6_4, ie_6_5, ie_6_7, ie_7_0, ie_7_1, ie_7_2, ie_7_3, ie_7_4, ie_7_5, ie_7_6, zt_50, zr_50_21, zt_64, zn_64, zo_64, zl_64, zq_64, zr_50_22, zt_65, zn_65, zo_65, zl_65, zq_65, zr_50_23, zt_66, zn_66, zo_66, zl_66, zq_66, q1, k0', o0n, o3', k6', hzj, hcj, lp]
              rfl
            refine ⟨_, _, _, n, m, hc, hm, zRl_sh A hj (fun a h1 h2 => ?_) (fun i hi => ?_) (fun a h1 h2 h3 => ?_) (fun i hi => ?_) ?_⟩
            · show (zui (zui (zui X 64 j 1) 65 j (nI so)) 66 j (nI z)).1 a = _
              rw [zi_n _ (by omega), zi_n _ (by omega), zi_n _ (by omega), xn a h1]
            · show (zui (zui (zui X 64 j 1) 65 j (nI so)) 66 j (nI z)).1 64 i = _ ∧ (zui (zui (zui X 64 j 1) 65 j (nI so)) 66 j (nI z)).1 65 i = _ ∧ (zui (zui (zui X 64 j 1) 65 j (nI so)) 66 j (nI z)).1 66 i = _ ∧ (zui (zui (zui X 64 j 1) 65 j (nI so)) 66 j (nI z)).1 67 i = _
              refine ⟨?_, ?_, ?_, ?_⟩
              · rw [zi_n _ (by decide), zi_n _ (by decide), zi_s, u_ne hi, xn _ (by omega)]
              · rw [zi_n _ (by decide), zi_s, u_ne hi, zi_n _ (by decide), xn _ (by omega)]
              · rw [zi_s, u_ne hi, zi_n _ (by decide), zi_n _ (by decide), xn _ (by omega)]
              · rw [zi_n _ (by decide), zi_n _ (by decide), zi_n _ (by decide), xn _ (by omega)]
            · rw [zB_n _ _ h2]
              exact xl a h1
            · rw [zB_s]
              have : zzr (X.2 68) (160 * j) 160 i = X.2 68 i := if_neg (by omega)
              rw [this, xl _ (by omega)]
            · have e1 : ∀ a, (zuB (zui (zui (zui X 64 j 1) 65 j (nI so)) 66 j (nI z)) 68 (zzr (X.2 68) (160 * j) 160)).1 a = (zui (zui (zui X 64 j 1) 65 j (nI so)) 66 j (nI z)).1 a := fun a => rfl
              have h34 : (zui (zui (zui X 64 j 1) 65 j (nI so)) 66 j (nI z)).1 (34 + 2 * j) = upd (upd (w.1 (34 + 2 * j)) 1 (100 + nI so)) 2 (nI z) := by
                rw [zi_n _ (by omega), zi_n _ (by omega), zi_n _ (by omega), x1]
              refine Or.inr (Or.inl ⟨?_, so, z, hs, hz, ?_, ?_, ?_, ?_, fun i hi => ⟨?_, ?_⟩⟩)
              · rw [e1, zi_n _ (by decide), zi_n _ (by decide), zi_s, u_eq]
              · rw [e1, zi_n _ (by decide), zi_s, u_eq]
              · rw [e1, h34, u_ne (by decide), u_eq]
                show nI 100 + nI so = _
                rw [nI_add]
              · rw [e1, h34, u_eq]
              · rw [e1, zi_s, u_eq]
              · rw [zB_s, zB_n _ _ (by omega)]
                have a1 : zzr (X.2 68) (160 * j) 160 (160 * j + i) = 0 := if_pos (by omega)
                have a2 : X.2 (34 + 2 * j + 1) i = 0 := by rw [xe]; exact if_pos (by omega)
                rw [a1]
                exact a2.symm
              · rw [zB_n _ _ (by omega)]
                have a2 : X.2 (34 + 2 * j + 1) i = 0 := by rw [xe]; exact if_pos (by omega)
                show sLow (nI so) (X.2 (34 + 2 * j + 1) i) = X.2 (34 + 2 * j + 1) i
                rw [a2]
                exact sLow_0 hs
theorem p_holds {x : Int32} (A : zRl w S L n m) : zPr d 5006 6012 [.int x] w S L := by
  have hn8 := rl_n A
  rcases ix_c x (by decide : 8 < 1000) with hx | ⟨j, hj, rfl⟩
  · have q1 := m_isShelf_o (d := d + 39) (w := w) hx
    refine pr_k A (f_holds_o (d := d + 38) hx) (zKp_r _) ?_ (zKp_r _)
    simp only [c_6012, e_6012_0, e_6012_1, e_6012_2, e_6012_5, e_6012_8, e_6012_9, e_6012_12, e_6012_13, e_6012_14, e_6012_17, e_6012_18, e_6012_19, e_6012_20, e_6012_23, e_6012_24, e_6012_25, e_6012_26, e_6012_29, e_6012_31, e_6012_32, e_6012_35, e_6012_36, e_6012_37, e_6012_38, e_6012_41, e_6012_42, e_6012_45, e_6012_46, e_6012_47, zk_int, zk_ref, zk_null, zk_none, zk_long, zisR_r, zisR_n, zcl_int, zcl_ref, zcl_null, zpush_s, zpush_n, zbs, zbn, true_or, or_true, not_false_eq_true, not_true_eq_false, ↓reduceIte, and_self, and_true, true_and, zt_50, q1]
  · have q1 := m_isShelf (d := d + 39) (w := w) hj
    have hz := zis_nI (j := j) (n := 8) hj (by decide)
    have hc := nI_clamp (n := j) (by omega)
    have f := f_holds (d := d + 38) (w := w) hj
    refine pr_k A f (zKp_r _) ?_ (zKp_r _)
    rcases A.2.2.1 j hj with ⟨h1, h2⟩ | ⟨h1, s', z', g1, g2, g3, g4, g5, g6, g7⟩ | ⟨h1, t', g1, g2, g3⟩
    · rw [h2]
      simp only [c_6012, e_6012_0, e_6012_1, e_6012_2, e_6012_5, e_6012_8, e_6012_9, e_6012_12, e_6012_13, e_6012_14, e_6012_17, e_6012_18, e_6012_19, e_6012_20, e_6012_23, e_6012_24, e_6012_25, e_6012_26, e_6012_29, e_6012_31, e_6012_32, e_6012_35, e_6012_36, e_6012_37, e_6012_38, e_6012_41, e_6012_42, e_6012_45, e_6012_46, e_6012_47, zk_int, zk_ref, zk_null, zk_none, zk_long, zisR_r, zisR_n, zcl_int, zcl_ref, zcl_null, zpush_s, zpush_n, zbs, zbn, true_or, or_true, not_false_eq_true, not_true_eq_false, ↓reduceIte, and_self, and_true, true_and, ie_0_1, ie_0_2, ie_0_3, ie_0_4, ie_0_5, ie_0_6, ie_0_7, ie_1_0, ie_1_2, ie_1_3, ie_1_4, ie_1_5, ie_1_6, ie_1_7, ie_2_0, ie_2_1, ie_2_3, ie_2_4, ie_2_5, ie_2_6, ie_2_7, ie_3_0, ie_3_1, ie_3_2, ie_3_4, ie_3_5, ie_3_6, ie_3_7, ie_4_0, ie_4_1, ie_4_2, ie_4_3, ie_4_5, ie_4_6, ie_4_7, ie_5_0, ie_5_1, ie_5_2, ie_5_3, ie_5_4, ie_5_6, ie_5_7, ie_6_0, ie_6_1, ie_6_2, ie_6_3, ie_6_4, ie_6_5, ie_6_7, ie_7_0, ie_7_1, ie_7_2, ie_7_3, ie_7_4, ie_7_5, ie_7_6, zt_50, zr_50_21, zt_64, zn_64, zo_64, zl_64, zq_64, zr_50_22, zt_65, zn_65, zo_65, zl_65, zq_65, zr_50_24, zt_67, zn_67, zo_67, zl_67, zq_67, q1, hz, hc, h1]
    · rw [g4, ← nI_add]
      simp only [c_6012, e_6012_0, e_6012_1, e_6012_2, e_6012_5, e_6012_8, e_6012_9, e_6012_12, e_6012_13, e_6012_14, e_6012_17, e_6012_18, e_6012_19, e_6012_20, e_6012_23, e_6012_24, e_6012_25, e_6012_26, e_6012_29, e_6012_31, e_6012_32, e_6012_35, e_6012_36, e_6012_37, e_6012_38, e_6012_41, e_6012_42, e_6012_45, e_6012_46, e_6012_47, zk_int, zk_ref, zk_null, zk_none, zk_long, zisR_r, zisR_n, zcl_int, zcl_ref, zcl_null, zpush_s, zpush_n, zbs, zbn, true_or, or_true, not_false_eq_true, not_true_eq_false, ↓reduceIte, and_self, and_true, true_and, ie_0_1, ie_0_2, ie_0_3, ie_0_4, ie_0_5, ie_0_6, ie_0_7, ie_1_0, ie_1_2, ie_1_3, ie_1_4, ie_1_5, ie_1_6, ie_1_7, ie_2_0, ie_2_1, ie_2_3, ie_2_4, ie_2_5, ie_2_6, ie_2_7, ie_3_0, ie_3_1, ie_3_2, ie_3_4, ie_3_5, ie_3_6, ie_3_7, ie_4_0, ie_4_1, ie_4_2, ie_4_3, ie_4_5, ie_4_6, ie_4_7, ie_5_0, ie_5_1, ie_5_2, ie_5_3, ie_5_4, ie_5_6, ie_5_7, ie_6_0, ie_6_1, ie_6_2, ie_6_3, ie_6_4, ie_6_5, ie_6_7, ie_7_0, ie_7_1, ie_7_2, ie_7_3, ie_7_4, ie_7_5, ie_7_6, zt_50, zr_50_21, zt_64, zn_64, zo_64, zl_64, zq_64, zr_50_22, zt_65, zn_65, zo_65, zl_65, zq_65, zr_50_24, zt_67, zn_67, zo_67, zl_67, zq_67, q1, hz, hc, h1, g3]
      rfl
    · rw [g3]
      simp only [c_6012, e_6012_0, e_6012_1, e_6012_2, e_6012_5, e_6012_8, e_6012_9, e_6012_12, e_6012_13, e_6012_14, e_6012_17, e_6012_18, e_6012_19, e_6012_20, e_6012_23, e_6012_24, e_6012_25, e_6012_26, e_6012_29, e_6012_31, e_6012_32, e_6012_35, e_6012_36, e_6012_37, e_6012_38, e_6012_41, e_6012_42, e_6012_45, e_6012_46, e_6012_47, zk_int, zk_ref, zk_null, zk_none, zk_long, zisR_r, zisR_n, zcl_int, zcl_ref, zcl_null, zpush_s, zpush_n, zbs, zbn, true_or, or_true, not_false_eq_true, not_true_eq_false, ↓reduceIte, and_self, and_true, true_and, ie_0_1, ie_0_2, ie_0_3, ie_0_4, ie_0_5, ie_0_6, ie_0_7, ie_1_0, ie_1_2, ie_1_3, ie_1_4, ie_1_5, ie_1_6, ie_1_7, ie_2_0, ie_2_1, ie_2_3, ie_2_4, ie_2_5, ie_2_6, ie_2_7, ie_3_0, ie_3_1, ie_3_2, ie_3_4, ie_3_5, ie_3_6, ie_3_7, ie_4_0, ie_4_1, ie_4_2, ie_4_3, ie_4_5, ie_4_6, ie_4_7, ie_5_0, ie_5_1, ie_5_2, ie_5_3, ie_5_4, ie_5_6, ie_5_7, ie_6_0, ie_6_1, ie_6_2, ie_6_3, ie_6_4, ie_6_5, ie_6_7, ie_7_0, ie_7_1, ie_7_2, ie_7_3, ie_7_4, ie_7_5, ie_7_6, zt_50, zr_50_21, zt_64, zn_64, zo_64, zl_64, zq_64, zr_50_22, zt_65, zn_65, zo_65, zl_65, zq_65, zr_50_24, zt_67, zn_67, zo_67, zl_67, zq_67, q1, hz, hc, h1, g2]
theorem p_element {x k : Int32} (A : zRl w S L n m) : zPr d 5004 6010 [.int x, .int k] w S L := by
  have hn8 := rl_n A
  rcases ix_c x (by decide : 8 < 1000) with hx | ⟨j, hj, rfl⟩
  · have q1 := m_isShelf_o (d := d + 39) (w := w) hx
    have l0 : Int64.ofNat 0 = 0 := rfl
    refine pr_k A (f_element_o (d := d + 38) hx) (zKp_r _) ?_ (zKp_r _)
    simp only [c_6010, e_6010_0, e_6010_1, e_6010_2, e_6010_5, e_6010_8, e_6010_9, e_6010_12, e_6010_13, e_6010_14, e_6010_15, e_6010_18, e_6010_19, e_6010_22, e_6010_23, e_6010_24, e_6010_27, e_6010_28, e_6010_29, e_6010_32, e_6010_33, e_6010_36, e_6010_39, e_6010_40, e_6010_41, e_6010_42, e_6010_43, e_6010_44, e_6010_47, e_6010_48, zk_int, zk_ref, zk_null, zk_none, zk_long, zisR_r, zisR_n, zcl_int, zcl_ref, zcl_null, zpush_s, zpush_n, zbs, zbn, true_or, or_true, not_false_eq_true, not_true_eq_false, ↓reduceIte, and_self, and_true, true_and, zt_50, q1]
  · have q1 := m_isShelf (d := d + 39) (w := w) hj
    have hz := zis_nI (j := j) (n := 8) hj (by decide)
    have hc := nI_clamp (n := j) (by omega)
    rcases A.2.2.1 j hj with ⟨h1, h2⟩ | ⟨h1, s', z', g1, g2, g3, g4, g5, g6, g7⟩ | ⟨h1, t', g1, g2, g3⟩
    · refine pr_k A (f_element_n (d := d + 38) hj (by rw [h2]; decide)) (zKp_r _) ?_ (zKp_r _)
      simp only [c_6010, e_6010_0, e_6010_1, e_6010_2, e_6010_5, e_6010_8, e_6010_9, e_6010_12, e_6010_13, e_6010_14, e_6010_15, e_6010_18, e_6010_19, e_6010_22, e_6010_23, e_6010_24, e_6010_27, e_6010_28, e_6010_29, e_6010_32, e_6010_33, e_6010_36, e_6010_39, e_6010_40, e_6010_41, e_6010_42, e_6010_43, e_6010_44, e_6010_47, e_6010_48, zk_int, zk_ref, zk_null, zk_none, zk_long, zisR_r, zisR_n, zcl_int, zcl_ref, zcl_null, zpush_s, zpush_n, zbs, zbn, true_or, or_true, not_false_eq_true, not_true_eq_false, ↓reduceIte, and_self, and_true, true_and, ie_0_1, ie_0_2, ie_0_3, ie_0_4, ie_0_5, ie_0_6, ie_0_7, ie_1_0, ie_1_2, ie_1_3, ie_1_4, ie_1_5, ie_1_6, ie_1_7, ie_2_0, ie_2_1, ie_2_3, ie_2_4, ie_2_5, ie_2_6, ie_2_7, ie_3_0, ie_3_1, ie_3_2, ie_3_4, ie_3_5, ie_3_6, ie_3_7, ie_4_0, ie_4_1, ie_4_2, ie_4_3, ie_4_5, ie_4_6, ie_4_7, ie_5_0, ie_5_1, ie_5_2, ie_5_3, ie_5_4, ie_5_6, ie_5_7, ie_6_0, ie_6_1, ie_6_2, ie_6_3, ie_6_4, ie_6_5, ie_6_7, ie_7_0, ie_7_1, ie_7_2, ie_7_3, ie_7_4, ie_7_5, ie_7_6, zt_50, zr_50_21, zt_64, zn_64, zo_64, zl_64, zq_64, q1, hz, hc, h1]
    · have h100 : 100 ≤ w.1 (34 + 2 * j) 1 := by rw [g4]; exact nI_le (a := 100) (by omega) (by omega)
      rcases ix_c k (by omega : z' < 1000) with hk | ⟨i, hi, rfl⟩
      · refine pr_k A (f_element_b (d := d + 38) hj h100 (by rw [g5]; exact hk)) (zKp_r _) ?_ (zKp_r _)
        by_cases k0 : k < 0
        · simp only [c_6010, e_6010_0, e_6010_1, e_6010_2, e_6010_5, e_6010_8, e_6010_9, e_6010_12, e_6010_13, e_6010_14, e_6010_15, e_6010_18, e_6010_19, e_6010_22, e_6010_23, e_6010_24, e_6010_27, e_6010_28, e_6010_29, e_6010_32, e_6010_33, e_6010_36, e_6010_39, e_6010_40, e_6010_41, e_6010_42, e_6010_43, e_6010_44, e_6010_47, e_6010_48, zk_int, zk_ref, zk_null, zk_none, zk_long, zisR_r, zisR_n, zcl_int, zcl_ref, zcl_null, zpush_s, zpush_n, zbs, zbn, true_or, or_true, not_false_eq_true, not_true_eq_false, ↓reduceIte, and_self, and_true, true_and, ie_0_1, ie_0_2, ie_0_3, ie_0_4, ie_0_5, ie_0_6, ie_0_7, ie_1_0, ie_1_2, ie_1_3, ie_1_4, ie_1_5, ie_1_6, ie_1_7, ie_2_0, ie_2_1, ie_2_3, ie_2_4, ie_2_5, ie_2_6, ie_2_7, ie_3_0, ie_3_1, ie_3_2, ie_3_4, ie_3_5, ie_3_6, ie_3_7, ie_4_0, ie_4_1, ie_4_2, ie_4_3, ie_4_5, ie_4_6, ie_4_7, ie_5_0, ie_5_1, ie_5_2, ie_5_3, ie_5_4, ie_5_6, ie_5_7, ie_6_0, ie_6_1, ie_6_2, ie_6_3, ie_6_4, ie_6_5, ie_6_7, ie_7_0, ie_7_1, ie_7_2, ie_7_3, ie_7_4, ie_7_5, ie_7_6, zt_50, zr_50_21, zt_64, zn_64, zo_64, zl_64, zq_64, q1, hz, hc, h1, k0]
        · have k1 := hk.resolve_left k0
          simp only [c_6010, e_6010_0, e_6010_1, e_6010_2, e_6010_5, e_6010_8, e_6010_9, e_6010_12, e_6010_13, e_6010_14, e_6010_15, e_6010_18, e_6010_19, e_6010_22, e_6010_23, e_6010_24, e_6010_27, e_6010_28, e_6010_29, e_6010_32, e_6010_33, e_6010_36, e_6010_39, e_6010_40, e_6010_41, e_6010_42, e_6010_43, e_6010_44, e_6010_47, e_6010_48, zk_int, zk_ref, zk_null, zk_none, zk_long, zisR_r, zisR_n, zcl_int, zcl_ref, zcl_null, zpush_s, zpush_n, zbs, zbn, true_or, or_true, not_false_eq_true, not_true_eq_false, ↓reduceIte, and_self, and_true, true_and, ie_0_1, ie_0_2, ie_0_3, ie_0_4, ie_0_5, ie_0_6, ie_0_7, ie_1_0, ie_1_2, ie_1_3, ie_1_4, ie_1_5, ie_1_6, ie_1_7, ie_2_0, ie_2_1, ie_2_3, ie_2_4, ie_2_5, ie_2_6, ie_2_7, ie_3_0, ie_3_1, ie_3_2, ie_3_4, ie_3_5, ie_3_6, ie_3_7, ie_4_0, ie_4_1, ie_4_2, ie_4_3, ie_4_5, ie_4_6, ie_4_7, ie_5_0, ie_5_1, ie_5_2, ie_5_3, ie_5_4, ie_5_6, ie_5_7, ie_6_0, ie_6_1, ie_6_2, ie_6_3, ie_6_4, ie_6_5, ie_6_7, ie_7_0, ie_7_1, ie_7_2, ie_7_3, ie_7_4, ie_7_5, ie_7_6, zt_50, zr_50_21, zt_64, zn_64, zo_64, zl_64, zq_64, zr_50_23, zt_66, zn_66, zo_66, zl_66, zq_66, q1, hz, hc, h1, k0, g6, k1]
      · have k0 := nI_lt0 (a := i) (by omega)
        have k1 := nI_ge_f hi (by omega)
        have hz2 := zis_nI (j := 160 * j + i) (n := 1280) (by omega) (by decide)
        have hc2 := nI_clamp (n := 160 * j + i) (by omega)
        refine pr_k A (f_element (d := d + 38) hj h100 g5 g2 hi) (zKp_r _) ?_ (zKp_r _)
        simp only [c_6010, e_6010_0, e_6010_1, e_6010_2, e_6010_5, e_6010_8, e_6010_9, e_6010_12, e_6010_13, e_6010_14, e_6010_15, e_6010_18, e_6010_19, e_6010_22, e_6010_23, e_6010_24, e_6010_27, e_6010_28, e_6010_29, e_6010_32, e_6010_33, e_6010_36, e_6010_39, e_6010_40, e_6010_41, e_6010_42, e_6010_43, e_6010_44, e_6010_47, e_6010_48, zk_int, zk_ref, zk_null, zk_none, zk_long, zisR_r, zisR_n, zcl_int, zcl_ref, zcl_null, zpush_s, zpush_n, zbs, zbn, true_or, or_true, not_false_eq_true, not_true_eq_false, ↓reduceIte, and_self, and_true, true_and, ie_0_1, ie_0_2, ie_0_3, ie_0_4, ie_0_5, ie_0_6, ie_0_7, ie_1_0, ie_1_2, ie_1_3, ie_1_4, ie_1_5, ie_1_6, ie_1_7, ie_2_0, ie_2_1, ie_2_3, ie_2_4, ie_2_5, ie_2_6, ie_2_7, ie_3_0, ie_3_1, ie_3_2, ie_3_4, ie_3_5, ie_3_6, ie_3_7, ie_4_0, ie_4_1, ie_4_2, ie_4_3, ie_4_5, ie_4_6, ie_4_7, ie_5_0, ie_5_1, ie_5_2, ie_5_3, ie_5_4, ie_5_6, ie_5_7, ie_6_0, ie_6_1, ie_6_2, ie_6_3, ie_6_4, ie_6_5, ie_6_7, ie_7_0, ie_7_1, ie_7_2, ie_7_3, ie_7_4, ie_7_5, ie_7_6, zt_50, zr_50_21, zt_64, zn_64, zo_64, zl_64, zq_64, zr_50_23, zt_66, zn_66, zo_66, zl_66, zq_66, zr_50_25, zt_68, zn_68, zq_68, q1, hz, hc, h1, k0, g6, k1, ix160, hz2, hc2, (g7 i hi).1]
    · refine pr_k A (f_element_n (d := d + 38) hj (by rw [g3]; exact nI_ge (b := 100) (by omega) (by decide))) (zKp_r _) ?_ (zKp_r _)
      simp only [c_6010, e_6010_0, e_6010_1, e_6010_2, e_6010_5, e_6010_8, e_6010_9, e_6010_12, e_6010_13, e_6010_14, e_6010_15, e_6010_18, e_6010_19, e_6010_22, e_6010_23, e_6010_24, e_6010_27, e_6010_28, e_6010_29, e_6010_32, e_6010_33, e_6010_36, e_6010_39, e_6010_40, e_6010_41, e_6010_42, e_6010_43, e_6010_44, e_6010_47, e_6010_48, zk_int, zk_ref, zk_null, zk_none, zk_long, zisR_r, zisR_n, zcl_int, zcl_ref, zcl_null, zpush_s, zpush_n, zbs, zbn, true_or, or_true, not_false_eq_true, not_true_eq_false, ↓reduceIte, and_self, and_true, true_and, ie_0_1, ie_0_2, ie_0_3, ie_0_4, ie_0_5, ie_0_6, ie_0_7, ie_1_0, ie_1_2, ie_1_3, ie_1_4, ie_1_5, ie_1_6, ie_1_7, ie_2_0, ie_2_1, ie_2_3, ie_2_4, ie_2_5, ie_2_6, ie_2_7, ie_3_0, ie_3_1, ie_3_2, ie_3_4, ie_3_5, ie_3_6, ie_3_7, ie_4_0, ie_4_1, ie_4_2, ie_4_3, ie_4_5, ie_4_6, ie_4_7, ie_5_0, ie_5_1, ie_5_2, ie_5_3, ie_5_4, ie_5_6, ie_5_7, ie_6_0, ie_6_1, ie_6_2, ie_6_3, ie_6_4, ie_6_5, ie_6_7, ie_7_0, ie_7_1, ie_7_2, ie_7_3, ie_7_4, ie_7_5, ie_7_6, zt_50, zr_50_21, zt_64, zn_64, zo_64, zl_64, zq_64, q1, hz, hc, h1]
theorem p_show {x k : Int32} (A : zRl w S L n m) : zPr d 5005 6011 [.int x, .int k] w S L := by
  have hn8 := rl_n A
  have C := rl_C A
  have M := rl_M A
  have r := m_no (d := d + 39) (w := fRf w 1) (j := 1) (c := -1) (by decide) (by decide)
  rcases ix_c x (by decide : 8 < 1000) with hx | ⟨j, hj, rfl⟩
  · have q1 := m_isShelf_o (d := d + 39) (w := fRf w 1) hx
    refine pr_f A (by decide) (f_show_1s (d := d + 37) hx) (zKp_r _) ?_ (zKp_r _)
    simp only [c_6011, e_6011_0, e_6011_1, e_6011_2, e_6011_5, e_6011_8, e_6011_9, e_6011_10, e_6011_13, e_6011_14, e_6011_15, e_6011_18, e_6011_21, e_6011_22, e_6011_23, e_6011_26, e_6011_27, e_6011_28, e_6011_31, e_6011_32, e_6011_33, e_6011_34, e_6011_37, e_6011_38, e_6011_41, e_6011_42, e_6011_43, e_6011_44, e_6011_47, e_6011_48, e_6011_49, e_6011_50, e_6011_51, e_6011_52, e_6011_55, e_6011_56, e_6011_59, e_6011_60, zk_int, zk_ref, zk_null, zk_none, zk_long, zisR_r, zisR_n, zcl_int, zcl_ref, zcl_null, zpush_s, zpush_n, zbs, zbn, true_or, or_true, not_false_eq_true, not_true_eq_false, ↓reduceIte, and_self, and_true, true_and, zt_50, q1, r]
  · have q1 := fun w => m_isShelf (d := d + 39) (w := w) hj
    have hz := zis_nI (j := j) (n := 8) hj (by decide)
    have hc := nI_clamp (n := j) (by omega)
    have fin : ∀ (v hv : Int32) (w2 : zM), (∀ t, (hv = 0 ∧ v = -1) ∨ (hv = 2 ∧ t < n ∧ v = nI t) → True) → ((hv = 0 ∧ v = -1) ∨ (hv = 2 ∧ ∃ t, t < n ∧ v = nI t)) → w2 = zui (zui (zuA w (34 + 2 * j) (upd (upd (w.1 (34 + 2 * j)) 1 v) 2 0)) 64 j hv) 67 j v → zRl w2 S L n m := by
      intro v hv w2 _ hh e
      subst e
      refine zRl_sh A hj (fun a h1 h2 => ?_) (fun i hi => ?_) (fun a h1 h2 h3 => rfl) (fun i hi => rfl) ?_
      · rw [zi_n _ (by omega), zi_n _ (by omega), zA_n _ _ h1]
      · refine ⟨?_, ?_, ?_, ?_⟩
        · rw [zi_n _ (by decide), zi_s, u_ne hi, zA_n _ _ (by omega)]
        · rw [zi_n _ (by decide), zi_n _ (by decide), zA_n _ _ (by omega)]
        · rw [zi_n _ (by decide), zi_n _ (by decide), zA_n _ _ (by omega)]
        · rw [zi_s, u_ne hi, zi_n _ (by decide), zA_n _ _ (by omega)]
      · have e64 : (zui (zui (zuA w (34 + 2 * j) (upd (upd (w.1 (34 + 2 * j)) 1 v) 2 0)) 64 j hv) 67 j v).1 64 j = hv := by rw [zi_n _ (by decide), zi_s, u_eq]
        have e67 : (zui (zui (zuA w (34 + 2 * j) (upd (upd (w.1 (34 + 2 * j)) 1 v) 2 0)) 64 j hv) 67 j v).1 67 j = v := by rw [zi_s, u_eq]
        have e34 : (zui (zui (zuA w (34 + 2 * j) (upd (upd (w.1 (34 + 2 * j)) 1 v) 2 0)) 64 j hv) 67 j v).1 (34 + 2 * j) 1 = v := by rw [zi_n _ (by omega), zi_n _ (by omega), zA_s, u_ne (by decide), u_eq]
        rcases hh with ⟨rfl, rfl⟩ | ⟨rfl, t, ht, rfl⟩
        · exact Or.inl ⟨e64, e34⟩
        · exact Or.inr (Or.inr ⟨e64, t, ht, e67, e34⟩)
    by_cases hM : k = -1
    · subst hM
      refine ⟨_, _, zui (zui (zuA w (34 + 2 * j) (upd (upd (w.1 (34 + 2 * j)) 1 (-1)) 2 0)) 64 j 0) 67 j (-1), n, m, f_show_n (d := d + 37) hj, ?_, fin (-1) 0 _ (fun _ _ => trivial) (Or.inl ⟨rfl, rfl⟩) rfl⟩
      simp only [c_6011, e_6011_0, e_6011_1, e_6011_2, e_6011_5, e_6011_8, e_6011_9, e_6011_10, e_6011_13, e_6011_14, e_6011_15, e_6011_18, e_6011_21, e_6011_22, e_6011_23, e_6011_26, e_6011_27, e_6011_28, e_6011_31, e_6011_32, e_6011_33, e_6011_34, e_6011_37, e_6011_38, e_6011_41, e_6011_42, e_6011_43, e_6011_44, e_6011_47, e_6011_48, e_6011_49, e_6011_50, e_6011_51, e_6011_52, e_6011_55, e_6011_56, e_6011_59, e_6011_60, zk_int, zk_ref, zk_null, zk_none, zk_long, zisR_r, zisR_n, zcl_int, zcl_ref, zcl_null, zpush_s, zpush_n, zbs, zbn, true_or, or_true, not_false_eq_true, not_true_eq_false, ↓reduceIte, and_self, and_true, true_and, ie_0_1, ie_0_2, ie_0_3, ie_0_4, ie_0_5, ie_0_6, ie_0_7, ie_1_0, ie_1_2, ie_1_3, ie_1_4, ie_1_5, ie_1_6, ie_1_7, ie_2_0, ie_2_1, ie_2_3, ie_2_4, ie_2_5, ie_2_6, ie_2_7, ie_3_0, ie_3_1, ie_3_2, ie_3_4, ie_3_5, ie_3_6, ie_3_7, ie_4_0, ie_4_1, ie_4_2, ie_4_3, ie_4_5, ie_4_6, ie_4_7, ie_5_0, ie_5_1, ie_5_2, ie_5_3, ie_5_4, ie_5_6, ie_5_7, ie_6_0, ie_6_1, ie_6_2, ie_6_3, ie_6_4, ie_6_5, ie_6_7, ie_7_0, ie_7_1, ie_7_2, ie_7_3, ie_7_4, ie_7_5, ie_7_6, zt_50, zr_50_21, zt_64, zn_64, zo_64, zl_64, zq_64, zr_50_24, zt_67, zn_67, zo_67, zl_67, zq_67, q1, hz, hc]
    · rcases ix_c k (by omega : n < 1000) with hk | ⟨t, ht, rfl⟩
      · have q2 := m_isTable_o (d := d + 39) (zMc_f (j := 1) M).2.1 hk
        refine pr_f A (by decide) (f_show_1t (d := d + 37) C hj hM hk) (zKp_r _) ?_ (zKp_r _)
        simp only [c_6011, e_6011_0, e_6011_1, e_6011_2, e_6011_5, e_6011_8, e_6011_9, e_6011_10, e_6011_13, e_6011_14, e_6011_15, e_6011_18, e_6011_21, e_6011_22, e_6011_23, e_6011_26, e_6011_27, e_6011_28, e_6011_31, e_6011_32, e_6011_33, e_6011_34, e_6011_37, e_6011_38, e_6011_41, e_6011_42, e_6011_43, e_6011_44, e_6011_47, e_6011_48, e_6011_49, e_6011_50, e_6011_51, e_6011_52, e_6011_55, e_6011_56, e_6011_59, e_6011_60, zk_int, zk_ref, zk_null, zk_none, zk_long, zisR_r, zisR_n, zcl_int, zcl_ref, zcl_null, zpush_s, zpush_n, zbs, zbn, true_or, or_true, not_false_eq_true, not_true_eq_false, ↓reduceIte, and_self, and_true, true_and, ie_0_1, ie_0_2, ie_0_3, ie_0_4, ie_0_5, ie_0_6, ie_0_7, ie_1_0, ie_1_2, ie_1_3, ie_1_4, ie_1_5, ie_1_6, ie_1_7, ie_2_0, ie_2_1, ie_2_3, ie_2_4, ie_2_5, ie_2_6, ie_2_7, ie_3_0, ie_3_1, ie_3_2, ie_3_4, ie_3_5, ie_3_6, ie_3_7, ie_4_0, ie_4_1, ie_4_2, ie_4_3, ie_4_5, ie_4_6, ie_4_7, ie_5_0, ie_5_1, ie_5_2, ie_5_3, ie_5_4, ie_5_6, ie_5_7, ie_6_0, ie_6_1, ie_6_2, ie_6_3, ie_6_4, ie_6_5, ie_6_7, ie_7_0, ie_7_1, ie_7_2, ie_7_3, ie_7_4, ie_7_5, ie_7_6, zt_50, q1, q2, hM, r]
      · have g1 := nI_neM (y := t) (by omega)
        have Mn : zMn (zuA w (34 + 2 * j) (upd (upd (w.1 (34 + 2 * j)) 1 (nI t)) 2 0)) n m := zMn_k M.2.1 (by rw [zA_n _ _ (by omega)]) (by rw [zA_n _ _ (by omega)])
        have q2 := m_isTable (d := d + 39) Mn ht
        refine ⟨_, _, zui (zui (zuA w (34 + 2 * j) (upd (upd (w.1 (34 + 2 * j)) 1 (nI t)) 2 0)) 64 j 2) 67 j (nI t), n, m, f_show (d := d + 37) C hj ht, ?_, fin (nI t) 2 _ (fun _ _ => trivial) (Or.inr ⟨rfl, t, ht, rfl⟩) rfl⟩
        simp only [c_6011, e_6011_0, e_6011_1, e_6011_2, e_6011_5, e_6011_8, e_6011_9, e_6011_10, e_6011_13, e_6011_14, e_6011_15, e_6011_18, e_6011_21, e_6011_22, e_6011_23, e_6011_26, e_6011_27, e_6011_28, e_6011_31, e_6011_32, e_6011_33, e_6011_34, e_6011_37, e_6011_38, e_6011_41, e_6011_42, e_6011_43, e_6011_44, e_6011_47, e_6011_48, e_6011_49, e_6011_50, e_6011_51, e_6011_52, e_6011_55, e_6011_56, e_6011_59, e_6011_60, zk_int, zk_ref, zk_null, zk_none, zk_long, zisR_r, zisR_n, zcl_int, zcl_ref, zcl_null, zpush_s, zpush_n, zbs, zbn, true_or, or_true, not_false_eq_true, not_true_eq_false, ↓reduceIte, and_self, and_true, true_and, ie_0_1, ie_0_2, ie_0_3, ie_0_4, ie_0_5, ie_0_6, ie_0_7, ie_1_0, ie_1_2, ie_1_3, ie_1_4, ie_1_5, ie_1_6, ie_1_7, ie_2_0, ie_2_1, ie_2_3, ie_2_4, ie_2_5, ie_2_6, ie_2_7, ie_3_0, ie_3_1, ie_3_2, ie_3_4, ie_3_5, ie_3_6, ie_3_7, ie_4_0, ie_4_1, ie_4_2, ie_4_3, ie_4_5, ie_4_6, ie_4_7, ie_5_0, ie_5_1, ie_5_2, ie_5_3, ie_5_4, ie_5_6, ie_5_7, ie_6_0, ie_6_1, ie_6_2, ie_6_3, ie_6_4, ie_6_5, ie_6_7, ie_7_0, ie_7_1, ie_7_2, ie_7_3, ie_7_4, ie_7_5, ie_7_6, zt_50, zr_50_21, zt_64, zn_64, zo_64, zl_64, zq_64, zr_50_24, zt_67, zn_67, zo_67, zl_67, zq_67, q1, q2, g1, hz, hc]
end PO
