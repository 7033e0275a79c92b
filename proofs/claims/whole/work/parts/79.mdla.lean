section MM
variable {d n m : Nat} {w : zM} {T V G : Nat → Int32}
theorem m_po_l {y : Nat} {K : Nat → Int32} (C : zMc w T V G n m) (hy : y < m) : ∀ q x P o6 o7, x + q = 3 ^ m → (∀ k, m ≤ k → P k = w.1 60 k) →
    (∀ r0, x ≤ r0 → r0 < 3 ^ m → sLp T V G n m r0 = 0 → (∀ r', x ≤ r' → r' < r0 → ¬ sLp T V G n m r' = 0) → ∃ P' o5' o6' o7', (∀ k, m ≤ k → P' k = w.1 60 k) ∧ den (d + 21) 6068 68 [some (.ref 50), some (.int (nI y)), some (.int (G 0)), some (.int (nI (3 ^ m))), some (.int (-1)), some (.int (nI x)), o6, o7] [] (MP w K P (upd (w.1 50) 2 2)) = den (d + 21) 6068 143 [some (.ref 50), some (.int (nI y)), some (.int (G 0)), some (.int (nI (3 ^ m))), some (.int (nI (dig 3 m r0 y + 1))), o5', o6', o7'] [] (MP w K P' (upd (w.1 50) 2 2))) ∧
    ((∀ r', x ≤ r' → r' < 3 ^ m → ¬ sLp T V G n m r' = 0) → ∃ P' o5' o6' o7', (∀ k, m ≤ k → P' k = w.1 60 k) ∧ den (d + 21) 6068 68 [some (.ref 50), some (.int (nI y)), some (.int (G 0)), some (.int (nI (3 ^ m))), some (.int (-1)), some (.int (nI x)), o6, o7] [] (MP w K P (upd (w.1 50) 2 2)) = den (d + 21) 6068 143 [some (.ref 50), some (.int (nI y)), some (.int (G 0)), some (.int (nI (3 ^ m))), some (.int (-1)), o5', o6', o7'] [] (MP w K P' (upd (w.1 50) 2 2))) := by
  have hm4 := C.2.1.2.2.2
  have h256 := (pow_le4 (b := 3) (k := m) (by decide) (by decide) hm4).2
  have hF : upd (w.1 50) 2 2 1 = nI m := by rw [u_ne (by decide)]; exact C.2.1.2.1
  intro q
  induction q with
  | zero =>
    intro x P o6 o7 hx hP
    have e : x = 3 ^ m := by omega
    subst e
    have g1 := nI_le_n (Nat.le_refl (3 ^ m)) (by omega)
    refine ⟨fun r0 h1 h2 => by omega, fun _ => ⟨P, some (.int (nI (3 ^ m))), o6, o7, hP, ?_⟩⟩
    rw [e_6068_68]
    simp only [e_6068_70, e_6068_71, zk_int, zk_ref, zk_null, zk_none, zk_long, zisR_r, zisR_n, zcl_int, zcl_ref, zcl_null, zpush_s, zpush_n, zbs, zbn, true_or, or_true, not_false_eq_true, not_true_eq_false, ↓reduceIte, and_self, and_true, true_and, g1]
  | succ q ih =>
    intro x P o6 o7 hx hP
    have hxm : x < 3 ^ m := by omega
    have g1 := nI_ge_f hxm (by omega)
    have k1 := m_po_d (d := d + 21) (K := K) (P := P) (F := upd (w.1 50) 2 2) (a := nI y) (R := nI (3 ^ m)) (is := -1) (o6 := o6) (o7 := o7) C hxm hP hF
    obtain ⟨t1, t2⟩ := m_isContent (d := d) (MP_C (K := K) (r := x) C)
    have hP' : ∀ k, m ≤ k → zcpy (dp m x) (w.1 60) m k = w.1 60 k := fun k hk => if_neg (by omega)
    have hz := zis_nI (j := y) (n := 4) (by omega) (by decide)
    have hc := nI_clamp (n := y) (by omega)
    have ev : zcpy (dp m x) (w.1 60) m y = nI (dig 3 m x y + 1) := if_pos hy
    have hd := dig_lt (b := 3) (m := m) (r := x) (y := y) (by decide)
    obtain ⟨i1, i2⟩ := ih (x + 1) (zcpy (dp m x) (w.1 60) m) (some (.int (nI (x / 3 ^ m)))) (some (.int (-1))) (by omega) hP'
    by_cases h0 : sLp T V G n m x = 0
    · refine ⟨fun r0 h1 h2 h3 h4 => ?_, fun h => absurd h0 (h x (Nat.le_refl _) hxm)⟩
      have e7 : r0 = x := by
        rcases Nat.lt_or_ge x r0 with h | h
        · exact absurd h0 (h4 x (Nat.le_refl _) h)
        · omega
      subst e7
      have t := t1 h0
      have g2 := nI_neM (y := dig 3 m r0 y + 1) (by omega)
      refine ⟨zcpy (dp m r0) (w.1 60) m, some (.int (nI (r0 + 1))), some (.int (nI (r0 / 3 ^ m))), some (.int (-1)), hP', ?_⟩
      rw [e_6068_68]
      simp only [e_6068_70, e_6068_71, e_6068_74, e_6068_76, e_6068_77, zk_int, zk_ref, zk_null, zk_none, zk_long, zisR_r, zisR_n, zcl_int, zcl_ref, zcl_null, zpush_s, zpush_n, zbs, zbn, true_or, or_true, not_false_eq_true, not_true_eq_false, ↓reduceIte, and_self, and_true, true_and, g1, k1]
      simp only [e_6068_122, e_6068_123, e_6068_126, e_6068_129, e_6068_130, e_6068_133, e_6068_134, e_6068_135, e_6068_137, e_6068_140, zk_int, zk_ref, zk_null, zk_none, zk_long, zisR_r, zisR_n, zcl_int, zcl_ref, zcl_null, zpush_s, zpush_n, zbs, zbn, true_or, or_true, not_false_eq_true, not_true_eq_false, ↓reduceIte, and_self, and_true, true_and, zt_50, zr_50_17, zt_60, zn_60, zo_60, zl_60, zq_60, t, ie_0_1, ie_0_2, ie_0_3, ie_0_4, ie_0_5, ie_0_6, ie_0_7, ie_1_0, ie_1_2, ie_1_3, ie_1_4, ie_1_5, ie_1_6, ie_1_7, ie_2_0, ie_2_1, ie_2_3, ie_2_4, ie_2_5, ie_2_6, ie_2_7, ie_3_0, ie_3_1, ie_3_2, ie_3_4, ie_3_5, ie_3_6, ie_3_7, ie_4_0, ie_4_1, ie_4_2, ie_4_3, ie_4_5, ie_4_6, ie_4_7, ie_5_0, ie_5_1, ie_5_2, ie_5_3, ie_5_4, ie_5_6, ie_5_7, ie_6_0, ie_6_1, ie_6_2, ie_6_3, ie_6_4, ie_6_5, ie_6_7, ie_7_0, ie_7_1, ie_7_2, ie_7_3, ie_7_4, ie_7_5, ie_7_6, MP_60, hz, hc, ev, nI_1]
      rw [e_6068_68]
      simp only [e_6068_70, e_6068_71, e_6068_74, e_6068_76, e_6068_77, zk_int, zk_ref, zk_null, zk_none, zk_long, zisR_r, zisR_n, zcl_int, zcl_ref, zcl_null, zpush_s, zpush_n, zbs, zbn, true_or, or_true, not_false_eq_true, not_true_eq_false, ↓reduceIte, and_self, and_true, true_and, g2]
      split <;> rfl
    · have t := t2 h0
      have step : ∀ z, den (d + 21) 6068 68 [some (.ref 50), some (.int (nI y)), some (.int (G 0)), some (.int (nI (3 ^ m))), some (.int (-1)), some (.int (nI (x + 1))), some (.int (nI (x / 3 ^ m))), some (.int (-1))] [] (MP w K (zcpy (dp m x) (w.1 60) m) (upd (w.1 50) 2 2)) = z → den (d + 21) 6068 68 [some (.ref 50), some (.int (nI y)), some (.int (G 0)), some (.int (nI (3 ^ m))), some (.int (-1)), some (.int (nI x)), o6, o7] [] (MP w K P (upd (w.1 50) 2 2)) = z := by
        intro z hz
        rw [e_6068_68]
        simp only [e_6068_70, e_6068_71, e_6068_74, e_6068_76, e_6068_77, zk_int, zk_ref, zk_null, zk_none, zk_long, zisR_r, zisR_n, zcl_int, zcl_ref, zcl_null, zpush_s, zpush_n, zbs, zbn, true_or, or_true, not_false_eq_true, not_true_eq_false, ↓reduceIte, and_self, and_true, true_and, g1, k1]
        simp only [e_6068_122, e_6068_123, e_6068_126, e_6068_137, e_6068_140, zk_int, zk_ref, zk_null, zk_none, zk_long, zisR_r, zisR_n, zcl_int, zcl_ref, zcl_null, zpush_s, zpush_n, zbs, zbn, true_or, or_true, not_false_eq_true, not_true_eq_false, ↓reduceIte, and_self, and_true, true_and, zt_50, t, ie_0_1, ie_0_2, ie_0_3, ie_0_4, ie_0_5, ie_0_6, ie_0_7, ie_1_0, ie_1_2, ie_1_3, ie_1_4, ie_1_5, ie_1_6, ie_1_7, ie_2_0, ie_2_1, ie_2_3, ie_2_4, ie_2_5, ie_2_6, ie_2_7, ie_3_0, ie_3_1, ie_3_2, ie_3_4, ie_3_5, ie_3_6, ie_3_7, ie_4_0, ie_4_1, ie_4_2, ie_4_3, ie_4_5, ie_4_6, ie_4_7, ie_5_0, ie_5_1, ie_5_2, ie_5_3, ie_5_4, ie_5_6, ie_5_7, ie_6_0, ie_6_1, ie_6_2, ie_6_3, ie_6_4, ie_6_5, ie_6_7, ie_7_0, ie_7_1, ie_7_2, ie_7_3, ie_7_4, ie_7_5, ie_7_6, nI_1]
        exact hz
      refine ⟨fun r0 h1 h2 h3 h4 => ?_, fun h => ?_⟩
      · have h5 : x + 1 ≤ r0 := by
          rcases Nat.lt_or_ge x r0 with h | h
          · exact h
          · have e7 : r0 = x := by omega
            subst e7
            exact absurd h3 h0
        obtain ⟨P', o5', o6', o7', b1, b2⟩ := i1 r0 h5 h2 h3 (fun r' g1 g2 => h4 r' (by omega) g2)
        exact ⟨P', o5', o6', o7', b1, step _ b2⟩
      · obtain ⟨P', o5', o6', o7', b1, b2⟩ := i2 (fun r' g1 g2 => h r' (by omega) g2)
        exact ⟨P', o5', o6', o7', b1, step _ b2⟩
theorem m_po_kp {K : Nat → Int32} : zKp w (zuA w 74 K) := zKp_A (by unfold zKa; omega) (by omega) (by omega) (by omega)
theorem m_points {y r0 : Nat} (C : zMc w T V G n m) (hy : y < m) (hr : r0 < 3 ^ m) (h0 : sLp T V G n m r0 = 0) (h1 : ∀ r', r' < r0 → ¬ sLp T V G n m r' = 0) : ∃ w2, zKp w w2 ∧ cal (d + 21) 6068 [.ref 50, .int (nI y)] w = some (some (.int (nI (dig 3 m r0 y + 1))), w2) := by
  have hm4 := C.2.1.2.2.2
  obtain ⟨P', o5', o6', o7', b1, b2⟩ := (m_po_l (d := d) (K := zcpy (w.1 60) (w.1 74) m) C hy (3 ^ m) 0 (w.1 60) none none (by omega) (fun _ _ => rfl)).1 r0 (Nat.zero_le _) hr h0 (fun r' _ h => h1 r' h)
  refine ⟨_, m_po_kp (K := zcpy (w.1 60) (w.1 74) m), ?_⟩
  have q1 := m_isWaiter (d := d + 20) C.2.1 hy
  have k1 := m_po_h (d := d + 21) (a := nI y) C
  rw [nI_0, m_po_b C b1] at b2
  have eM : zuA (zuA w 74 (zcpy (w.1 60) (w.1 74) m)) 50 (upd ((zuA w 74 (zcpy (w.1 60) (w.1 74) m)).1 50) 2 2) = MP w (zcpy (w.1 60) (w.1 74) m) (w.1 60) (upd (w.1 50) 2 2) := by
    rw [← MP_0, MP_50, MP_u50]
  have hd := dig_lt (b := 3) (m := m) (r := r0) (y := y) (by decide)
  have g2 := nI_neM (y := dig 3 m r0 y + 1) (by omega)
  simp only [c_6068, e_6068_0, e_6068_1, e_6068_2, e_6068_5, e_6068_14, e_6068_15, e_6068_18, e_6068_19, e_6068_20, e_6068_21, e_6068_22, e_6068_24, e_6068_25, zk_int, zk_ref, zk_null, zk_none, zk_long, zisR_r, zisR_n, zcl_int, zcl_ref, zcl_null, zpush_s, zpush_n, zbs, zbn, true_or, or_true, not_false_eq_true, not_true_eq_false, ↓reduceIte, and_self, and_true, true_and, zt_50, q1, ie_0_1, ie_0_2, ie_0_3, ie_0_4, ie_0_5, ie_0_6, ie_0_7, ie_1_0, ie_1_2, ie_1_3, ie_1_4, ie_1_5, ie_1_6, ie_1_7, ie_2_0, ie_2_1, ie_2_3, ie_2_4, ie_2_5, ie_2_6, ie_2_7, ie_3_0, ie_3_1, ie_3_2, ie_3_4, ie_3_5, ie_3_6, ie_3_7, ie_4_0, ie_4_1, ie_4_2, ie_4_3, ie_4_5, ie_4_6, ie_4_7, ie_5_0, ie_5_1, ie_5_2, ie_5_3, ie_5_4, ie_5_6, ie_5_7, ie_6_0, ie_6_1, ie_6_2, ie_6_3, ie_6_4, ie_6_5, ie_6_7, ie_7_0, ie_7_1, ie_7_2, ie_7_3, ie_7_4, ie_7_5, ie_7_6, C.1.2.2.1, k1]
  simp only [e_6068_60, e_6068_61, e_6068_62, e_6068_65, e_6068_66, zk_int, zk_ref, zk_null, zk_none, zk_long, zisR_r, zisR_n, zcl_int, zcl_ref, zcl_null, zpush_s, zpush_n, zbs, zbn, true_or, or_true, not_false_eq_true, not_true_eq_false, ↓reduceIte, and_self, and_true, true_and, zt_50, zui_A, eM, b2]
  simp only [e_6068_180, e_6068_182, e_6068_183, e_6068_195, e_6068_197, zk_int, zk_ref, zk_null, zk_none, zk_long, zisR_r, zisR_n, zcl_int, zcl_ref, zcl_null, zpush_s, zpush_n, zbs, zbn, true_or, or_true, not_false_eq_true, not_true_eq_false, ↓reduceIte, and_self, and_true, true_and, g2]
theorem m_points_0 {y : Nat} (C : zMc w T V G n m) (hy : y < m) (h1 : ∀ r', r' < 3 ^ m → ¬ sLp T V G n m r' = 0) : ∃ w2, zKp w w2 ∧ cal (d + 21) 6068 [.ref 50, .int (nI y)] w = some (some (.int (-5)), mRf w2 5) := by
  have hm4 := C.2.1.2.2.2
  obtain ⟨P', o5', o6', o7', b1, b2⟩ := (m_po_l (d := d) (K := zcpy (w.1 60) (w.1 74) m) C hy (3 ^ m) 0 (w.1 60) none none (by omega) (fun _ _ => rfl)).2 (fun r' _ h => h1 r' h)
  refine ⟨_, m_po_kp (K := zcpy (w.1 60) (w.1 74) m), ?_⟩
  have q1 := m_isWaiter (d := d + 20) C.2.1 hy
  have q2 := m_no (d := d + 20) (w := zuA w 74 (zcpy (w.1 60) (w.1 74) m)) (j := 5) (c := -5) (by decide) (by decide)
  have k1 := m_po_h (d := d + 21) (a := nI y) C
  rw [nI_0, m_po_b C b1] at b2
  have eM : zuA (zuA w 74 (zcpy (w.1 60) (w.1 74) m)) 50 (upd ((zuA w 74 (zcpy (w.1 60) (w.1 74) m)).1 50) 2 2) = MP w (zcpy (w.1 60) (w.1 74) m) (w.1 60) (upd (w.1 50) 2 2) := by
    rw [← MP_0, MP_50, MP_u50]
  simp only [c_6068, e_6068_0, e_6068_1, e_6068_2, e_6068_5, e_6068_14, e_6068_15, e_6068_18, e_6068_19, e_6068_20, e_6068_21, e_6068_22, e_6068_24, e_6068_25, zk_int, zk_ref, zk_null, zk_none, zk_long, zisR_r, zisR_n, zcl_int, zcl_ref, zcl_null, zpush_s, zpush_n, zbs, zbn, true_or, or_true, not_false_eq_true, not_true_eq_false, ↓reduceIte, and_self, and_true, true_and, zt_50, q1, ie_0_1, ie_0_2, ie_0_3, ie_0_4, ie_0_5, ie_0_6, ie_0_7, ie_1_0, ie_1_2, ie_1_3, ie_1_4, ie_1_5, ie_1_6, ie_1_7, ie_2_0, ie_2_1, ie_2_3, ie_2_4, ie_2_5, ie_2_6, ie_2_7, ie_3_0, ie_3_1, ie_3_2, ie_3_4, ie_3_5, ie_3_6, ie_3_7, ie_4_0, ie_4_1, ie_4_2, ie_4_3, ie_4_5, ie_4_6, ie_4_7, ie_5_0, ie_5_1, ie_5_2, ie_5_3, ie_5_4, ie_5_6, ie_5_7, ie_6_0, ie_6_1, ie_6_2, ie_6_3, ie_6_4, ie_6_5, ie_6_7, ie_7_0, ie_7_1, ie_7_2, ie_7_3, ie_7_4, ie_7_5, ie_7_6, C.1.2.2.1, k1]
  simp only [e_6068_60, e_6068_61, e_6068_62, e_6068_65, e_6068_66, zk_int, zk_ref, zk_null, zk_none, zk_long, zisR_r, zisR_n, zcl_int, zcl_ref, zcl_null, zpush_s, zpush_n, zbs, zbn, true_or, or_true, not_false_eq_true, not_true_eq_false, ↓reduceIte, and_self, and_true, true_and, zt_50, zui_A, eM, b2]
  simp only [e_6068_180, e_6068_182, e_6068_183, e_6068_186, e_6068_187, e_6068_189, e_6068_192, e_6068_197, zk_int, zk_ref, zk_null, zk_none, zk_long, zisR_r, zisR_n, zcl_int, zcl_ref, zcl_null, zpush_s, zpush_n, zbs, zbn, true_or, or_true, not_false_eq_true, not_true_eq_false, ↓reduceIte, and_self, and_true, true_and, zt_50, q2]
end MM
