def M2 (w : zM) (K H F : Nat → Int32) : zM := zuA (zuA (zuA w 74 K) 75 H) 58 F
section MH
variable {d n m : Nat} {w : zM} {T V G : Nat → Int32}
theorem M2_58 (K H F : Nat → Int32) : (M2 w K H F).1 58 = F := zA_s _ _ _
theorem M2_75 (K H F : Nat → Int32) : (M2 w K H F).1 75 = H := by unfold M2; rw [zA_n _ _ (by decide), zA_s]
theorem M2_74 (K H F : Nat → Int32) : (M2 w K H F).1 74 = K := by unfold M2; rw [zA_n _ _ (by decide), zA_n _ _ (by decide), zA_s]
theorem M2_n (K H F : Nat → Int32) {a : Nat} (ha : a ≠ 58 ∧ a ≠ 74 ∧ a ≠ 75) : (M2 w K H F).1 a = w.1 a := by unfold M2; rw [zA_n _ _ ha.1, zA_n _ _ ha.2.2, zA_n _ _ ha.2.1]
theorem M2_u58 (K H F F' : Nat → Int32) : zuA (M2 w K H F) 58 F' = M2 w K H F' := zA_A _ _ _ _
theorem M2_u75 (K H F H' : Nat → Int32) : zuA (M2 w K H F) 75 H' = M2 w K H' F := by unfold M2; rw [zA_c _ _ _ (by decide : (58 : Nat) ≠ 75), zA_A]
theorem M2_C (K H : Nat → Int32) (C : zMc w T V G n m) : zMc (zuA (zuA w 74 K) 75 H) T V G n m :=
  ⟨zMs_k C.1 ⟨by rw [zA_n _ _ (by decide), zA_n _ _ (by decide)], by rw [zA_n _ _ (by decide), zA_n _ _ (by decide)]⟩ (fun a h1 h2 => by rw [zA_n _ _ (by omega), zA_n _ _ (by omega)]), zMn_k C.2.1 (by rw [zA_n _ _ (by decide), zA_n _ _ (by decide)]) (by rw [zA_n _ _ (by decide), zA_n _ _ (by decide)]), C.2.2⟩
theorem M2_y (K H : Nat → Int32) (r : Nat) : yE (zuA (zuA w 74 K) 75 H) m r = M2 w K H (zcpy (dg m r) (w.1 58) m) := by
  unfold yE M2
  rw [zA_n _ _ (by decide), zA_n _ _ (by decide)]
theorem M2_0 (K : Nat → Int32) : M2 w K (w.1 75) (w.1 58) = zuA w 74 K := by
  unfold M2
  have e1 : (zuA w 74 K).1 75 = w.1 75 := zA_n _ _ (by decide)
  have e2 : (zuA w 74 K).1 58 = w.1 58 := zA_n _ _ (by decide)
  rw [← e1, zA_id, ← e2, zA_id]
theorem M2_kp {K H : Nat → Int32} : zKp w (M2 w K H (w.1 58)) := by
  have h1 : zKp w (zuA (zuA w 74 K) 75 H) := zKp_t (zKp_A (a := 74) (by unfold zKa; omega) (by omega) (by omega) (by omega)) (zKp_A (a := 75) (by unfold zKa; omega) (by omega) (by omega) (by omega))
  have e2 : (zuA (zuA w 74 K) 75 H).1 58 = w.1 58 := by rw [zA_n _ _ (by decide), zA_n _ _ (by decide)]
  unfold M2
  rw [← e2, zA_id]
  exact h1
theorem zcpy_bk {f g F : Nat → Int32} (hF : ∀ k, 4 ≤ k → F k = f k) : zcpy (zcpy f g 4) F 4 = f := by
  funext k
  unfold zcpy
  by_cases h : k < 4
  · rw [if_pos h, if_pos h]
  · rw [if_neg h]; exact hF k (by omega)
theorem M2_back {K0 H F : Nat → Int32} (hF : ∀ k, 4 ≤ k → F k = w.1 58 k) : cal d 6060 [.ref 50, .int 1] (M2 w (zcpy (w.1 58) K0 4) H F) = some (none, M2 w (zcpy (w.1 58) K0 4) H (w.1 58)) := by
  rw [m_keepT, M2_u58, M2_74, M2_58, zcpy_bk hF]
theorem m_cpF {M p1 p2 : Nat} {w : zM} {H F : Nat → Int32} : ∀ j, zcpy F H j = zcpy F H j := fun _ => rfl
theorem m_rests_c {K H F : Nat → Int32} {a : Int32} {N x : Nat} : den d 6065 58 [some (.ref 50), some (.int a), some (.int (nI N)), some (.int (nI x)), some (.int 0)] [] (M2 w K H F) = den d 6065 84 [some (.ref 50), some (.int a), some (.int (nI N)), some (.int (nI x)), some (.int 4)] [] (M2 w K (zcpy F H 4) F) := by
  have key : ∀ r j, j + r = 4 → den d 6065 58 [some (.ref 50), some (.int a), some (.int (nI N)), some (.int (nI x)), some (.int (nI j))] [] (M2 w K (zcpy F H j) F) = den d 6065 84 [some (.ref 50), some (.int a), some (.int (nI N)), some (.int (nI x)), some (.int 4)] [] (M2 w K (zcpy F H 4) F) := by
    intro r
    induction r with
    | zero =>
      intro j hj
      have e : j = 4 := by omega
      subst e
      have g1 : ((4 : Int32) ≤ nI 4) = True := eq_true (by decide)
      rw [e_6065_58]
      simp only [e_6065_60, e_6065_61, zk_int, zk_ref, zk_null, zk_none, zk_long, zisR_r, zisR_n, zcl_int, zcl_ref, zcl_null, zpush_s, zpush_n, zbs, zbn, true_or, or_true, not_false_eq_true, not_true_eq_false, ↓reduceIte, and_self, and_true, true_and, g1]
      rfl
    | succ r ih =>
      intro j hj
      have hj4 : j < 4 := by omega
      have g1 : ((4 : Int32) ≤ nI j) = False := nI_ge_f (b := 4) hj4 (by decide)
      have hz := zis_nI hj4 (by decide)
      have hc := nI_clamp (n := j) (by omega)
      rw [e_6065_58]
      simp only [c_6065, e_6065_0, e_6065_1, e_6065_2, e_6065_5, e_6065_6, e_6065_7, e_6065_10, e_6065_13, e_6065_14, e_6065_15, e_6065_18, e_6065_19, e_6065_20, e_6065_21, e_6065_24, e_6065_25, e_6065_26, e_6065_27, e_6065_28, e_6065_29, e_6065_30, e_6065_33, e_6065_36, e_6065_37, e_6065_38, e_6065_41, e_6065_42, e_6065_45, e_6065_48, e_6065_51, e_6065_52, e_6065_55, e_6065_56, e_6065_60, e_6065_61, e_6065_64, e_6065_65, e_6065_68, e_6065_70, e_6065_71, e_6065_74, e_6065_76, e_6065_77, e_6065_78, e_6065_81, e_6065_87, e_6065_90, e_6065_93, e_6065_94, e_6065_95, e_6065_98, e_6065_99, e_6065_100, e_6065_103, e_6065_104, e_6065_105, e_6065_106, e_6065_109, e_6065_110, e_6065_112, e_6065_115, e_6065_118, e_6065_119, e_6065_122, e_6065_123, e_6065_124, zk_int, zk_ref, zk_null, zk_none, zk_long, zisR_r, zisR_n, zcl_int, zcl_ref, zcl_null, zpush_s, zpush_n, zbs, zbn, true_or, or_true, not_false_eq_true, not_true_eq_false, ↓reduceIte, and_self, and_true, true_and, zt_50, zr_50_15, zt_58, zn_58, zo_58, zl_58, zq_58, zr_50_37, zt_75, zn_75, zo_75, zl_75, zq_75, g1, hz, hc, zui_A, M2_58, M2_75, M2_u75, zcpy_s, nI_1]
      exact ih (j + 1) (by omega)
  have k0 := key 4 0 (by omega)
  rw [zcpy_0, nI_0] at k0
  exact k0
theorem m_rests_l {K : Nat → Int32} {a : Int32} {f0 : Int32} (C : zMc w T V G n m) : ∀ q x o4 H F, x + q = 4 ^ m → (∀ k, m ≤ k → F k = w.1 58 k) → (0 < (sFR (sGN T V G n m) m f0 x).1 → ∃ r, r < 4 ^ m ∧ (sFR (sGN T V G n m) m f0 x).2 = nI r ∧ ∀ v, v < m → H v = dg m r v) → ∃ H' F' o', (∀ k, m ≤ k → F' k = w.1 58 k) ∧ (0 < (sFR (sGN T V G n m) m f0 (4 ^ m)).1 → ∃ r, r < 4 ^ m ∧ (sFR (sGN T V G n m) m f0 (4 ^ m)).2 = nI r ∧ ∀ v, v < m → H' v = dg m r v) ∧ den (d + 25) 6065 28 [some (.ref 50), some (.int a), some (.int (nI (sFR (sGN T V G n m) m f0 x).1)), some (.int (nI x)), o4] [] (M2 w K H F) = den (d + 25) 6065 93 [some (.ref 50), some (.int a), some (.int (nI (sFR (sGN T V G n m) m f0 (4 ^ m)).1)), some (.int (nI (4 ^ m))), o'] [] (M2 w K H' F') := by
  have hm4 := C.2.1.2.2.2
  have h256 := (pow_le4 (b := 4) (k := m) (by decide) (by decide) hm4).2
  intro q
  induction q with
  | zero =>
    intro x o4 H F hx hF hH
    have e : x = 4 ^ m := by omega
    subst e
    have g1 := nI_le_n (Nat.le_refl (4 ^ m)) (by omega)
    have qe := m_efforts (d := d + 24) (w := M2 w K H F) (n := n) (m := m) (zMn_k C.2.1 (by rw [M2_n _ _ _ (by decide)]) (by rw [M2_n _ _ _ (by decide)]))
    refine ⟨H, F, o4, hF, hH, ?_⟩
    rw [e_6065_28]
    simp only [e_6065_29, e_6065_30, e_6065_33, zk_int, zk_ref, zk_null, zk_none, zk_long, zisR_r, zisR_n, zcl_int, zcl_ref, zcl_null, zpush_s, zpush_n, zbs, zbn, true_or, or_true, not_false_eq_true, not_true_eq_false, ↓reduceIte, and_self, and_true, true_and, zt_50, qe, g1]
  | succ q ih =>
    intro x o4 H F hx hF hH
    have hxm : x < 4 ^ m := by omega
    have g1 := nI_ge_f hxm (by omega)
    have CK := M2_C K H C
    have qe := m_efforts (d := d + 24) (w := M2 w K H F) (n := n) (m := m) (zMn_k C.2.1 (by rw [M2_n _ _ _ (by decide)]) (by rw [M2_n _ _ _ (by decide)]))
    have qt := m_tells (d := d + 24) (w := zuA (zuA w 74 K) 75 H) (F := F) CK.2.1 hxm (fun k hk => by rw [zA_n _ _ (by decide), zA_n _ _ (by decide)]; exact hF k hk)
    rw [M2_y] at qt
    have qt' : cal (d + 24) 6063 [.ref 50, .int (nI x)] (M2 w K H F) = some (none, M2 w K H (zcpy (dg m x) (w.1 58) m)) := qt
    obtain ⟨r1, r2⟩ := y_isRest (d := d + 2) CK hxm
    rw [M2_y] at r1 r2
    have hF' : ∀ k, m ≤ k → (zcpy (dg m x) (w.1 58) m) k = w.1 58 k := fun k hk => if_neg (by omega)
    by_cases hr : sIsR (sGN T V G n m) m x
    · have qr := r1 hr
      by_cases h0 : (sFR (sGN T V G n m) m f0 x).1 = 0
      · have es : sFR (sGN T V G n m) m f0 (x + 1) = (1, nI x) := by
          exact (if_pos hr).trans (by rw [h0, if_pos rfl])
        obtain ⟨H', F', o', b1, b2, b3⟩ := ih (x + 1) (some (.int 4)) (zcpy (zcpy (dg m x) (w.1 58) m) H 4) (zcpy (dg m x) (w.1 58) m) (by omega) hF' (fun _ => ⟨x, hxm, by rw [es], fun v hv => by
          show (if v < 4 then _ else _) = _
          rw [if_pos (by omega)]
          exact if_pos hv⟩)
        refine ⟨H', F', o', b1, b2, ?_⟩
        rw [← b3, es, h0, e_6065_28]
        have e0 : nI 0 = 0 := nI_0
        have c := m_rests_c (d := d + 25) (w := w) (K := K) (H := H) (F := zcpy (dg m x) (w.1 58) m) (a := a) (N := 0) (x := x)
        rw [e0] at c ⊢
        simp only [c_6065, e_6065_0, e_6065_1, e_6065_2, e_6065_5, e_6065_6, e_6065_7, e_6065_10, e_6065_13, e_6065_14, e_6065_15, e_6065_18, e_6065_19, e_6065_20, e_6065_21, e_6065_24, e_6065_25, e_6065_26, e_6065_27, e_6065_29, e_6065_30, e_6065_33, e_6065_36, e_6065_37, e_6065_38, e_6065_41, e_6065_42, e_6065_45, e_6065_48, e_6065_51, e_6065_52, e_6065_55, e_6065_56, e_6065_60, e_6065_61, e_6065_64, e_6065_65, e_6065_68, e_6065_70, e_6065_71, e_6065_74, e_6065_76, e_6065_77, e_6065_78, e_6065_81, e_6065_84, e_6065_87, e_6065_90, e_6065_93, e_6065_94, e_6065_95, e_6065_98, e_6065_99, e_6065_100, e_6065_103, e_6065_104, e_6065_105, e_6065_106, e_6065_109, e_6065_110, e_6065_112, e_6065_115, e_6065_118, e_6065_119, e_6065_122, e_6065_123, e_6065_124, zk_int, zk_ref, zk_null, zk_none, zk_long, zisR_r, zisR_n, zcl_int, zcl_ref, zcl_null, zpush_s, zpush_n, zbs, zbn, true_or, or_true, not_false_eq_true, not_true_eq_false, ↓reduceIte, and_self, and_true, true_and, zt_50, qe, g1, qt', qr, c, ie_0_1, ie_0_2, ie_0_3, ie_0_4, ie_0_5, ie_0_6, ie_0_7, ie_1_0, ie_1_2, ie_1_3, ie_1_4, ie_1_5, ie_1_6, ie_1_7, ie_2_0, ie_2_1, ie_2_3, ie_2_4, ie_2_5, ie_2_6, ie_2_7, ie_3_0, ie_3_1, ie_3_2, ie_3_4, ie_3_5, ie_3_6, ie_3_7, ie_4_0, ie_4_1, ie_4_2, ie_4_3, ie_4_5, ie_4_6, ie_4_7, ie_5_0, ie_5_1, ie_5_2, ie_5_3, ie_5_4, ie_5_6, ie_5_7, ie_6_0, ie_6_1, ie_6_2, ie_6_3, ie_6_4, ie_6_5, ie_6_7, ie_7_0, ie_7_1, ie_7_2, ie_7_3, ie_7_4, ie_7_5, ie_7_6, nI_1]
        rfl
      · have es : sFR (sGN T V G n m) m f0 (x + 1) = ((sFR (sGN T V G n m) m f0 x).1 + 1, (sFR (sGN T V G n m) m f0 x).2) := by
          exact (if_pos hr).trans (by rw [if_neg h0])
        have hle := sFR_le (sGN T V G n m) m f0 x
        have hn0 := nI_ne0' (n := (sFR (sGN T V G n m) m f0 x).1) (by omega) (by omega)
        obtain ⟨H', F', o', b1, b2, b3⟩ := ih (x + 1) o4 H (zcpy (dg m x) (w.1 58) m) (by omega) hF' (by rw [es]; intro _; exact hH (by omega))
        refine ⟨H', F', o', b1, b2, ?_⟩
        rw [← b3, es, e_6065_28]
        simp only [c_6065, e_6065_0, e_6065_1, e_6065_2, e_6065_5, e_6065_6, e_6065_7, e_6065_10, e_6065_13, e_6065_14, e_6065_15, e_6065_18, e_6065_19, e_6065_20, e_6065_21, e_6065_24, e_6065_25, e_6065_26, e_6065_27, e_6065_29, e_6065_30, e_6065_33, e_6065_36, e_6065_37, e_6065_38, e_6065_41, e_6065_42, e_6065_45, e_6065_48, e_6065_51, e_6065_52, e_6065_55, e_6065_56, e_6065_60, e_6065_61, e_6065_64, e_6065_65, e_6065_68, e_6065_70, e_6065_71, e_6065_74, e_6065_76, e_6065_77, e_6065_78, e_6065_81, e_6065_84, e_6065_87, e_6065_90, e_6065_93, e_6065_94, e_6065_95, e_6065_98, e_6065_99, e_6065_100, e_6065_103, e_6065_104, e_6065_105, e_6065_106, e_6065_109, e_6065_110, e_6065_112, e_6065_115, e_6065_118, e_6065_119, e_6065_122, e_6065_123, e_6065_124, zk_int, zk_ref, zk_null, zk_none, zk_long, zisR_r, zisR_n, zcl_int, zcl_ref, zcl_null, zpush_s, zpush_n, zbs, zbn, true_or, or_true, not_false_eq_true, not_true_eq_false, ↓reduceIte, and_self, and_true, true_and, zt_50, qe, g1, qt', qr, hn0, ie_0_1, ie_0_2, ie_0_3, ie_0_4, ie_0_5, ie_0_6, ie_0_7, ie_1_0, ie_1_2, ie_1_3, ie_1_4, ie_1_5, ie_1_6, ie_1_7, ie_2_0, ie_2_1, ie_2_3, ie_2_4, ie_2_5, ie_2_6, ie_2_7, ie_3_0, ie_3_1, ie_3_2, ie_3_4, ie_3_5, ie_3_6, ie_3_7, ie_4_0, ie_4_1, ie_4_2, ie_4_3, ie_4_5, ie_4_6, ie_4_7, ie_5_0, ie_5_1, ie_5_2, ie_5_3, ie_5_4, ie_5_6, ie_5_7, ie_6_0, ie_6_1, ie_6_2, ie_6_3, ie_6_4, ie_6_5, ie_6_7, ie_7_0, ie_7_1, ie_7_2, ie_7_3, ie_7_4, ie_7_5, ie_7_6, nI_1]
    · have qr := r2 hr
      have es : sFR (sGN T V G n m) m f0 (x + 1) = sFR (sGN T V G n m) m f0 x := by
        exact if_neg hr
      obtain ⟨H', F', o', b1, b2, b3⟩ := ih (x + 1) o4 H (zcpy (dg m x) (w.1 58) m) (by omega) hF' (by rw [es]; exact hH)
      refine ⟨H', F', o', b1, b2, ?_⟩
      rw [← b3, es, e_6065_28]
      simp only [c_6065, e_6065_0, e_6065_1, e_6065_2, e_6065_5, e_6065_6, e_6065_7, e_6065_10, e_6065_13, e_6065_14, e_6065_15, e_6065_18, e_6065_19, e_6065_20, e_6065_21, e_6065_24, e_6065_25, e_6065_26, e_6065_27, e_6065_29, e_6065_30, e_6065_33, e_6065_36, e_6065_37, e_6065_38, e_6065_41, e_6065_42, e_6065_45, e_6065_48, e_6065_51, e_6065_52, e_6065_55, e_6065_56, e_6065_60, e_6065_61, e_6065_64, e_6065_65, e_6065_68, e_6065_70, e_6065_71, e_6065_74, e_6065_76, e_6065_77, e_6065_78, e_6065_81, e_6065_84, e_6065_87, e_6065_90, e_6065_93, e_6065_94, e_6065_95, e_6065_98, e_6065_99, e_6065_100, e_6065_103, e_6065_104, e_6065_105, e_6065_106, e_6065_109, e_6065_110, e_6065_112, e_6065_115, e_6065_118, e_6065_119, e_6065_122, e_6065_123, e_6065_124, zk_int, zk_ref, zk_null, zk_none, zk_long, zisR_r, zisR_n, zcl_int, zcl_ref, zcl_null, zpush_s, zpush_n, zbs, zbn, true_or, or_true, not_false_eq_true, not_true_eq_false, ↓reduceIte, and_self, and_true, true_and, zt_50, qe, g1, qt', qr, nI_1]
theorem m_rests_h {a : Int32} (f0 : Int32) (C : zMc w T V G n m) : ∃ K H o', (0 < (sFR (sGN T V G n m) m f0 (4 ^ m)).1 → ∃ r, r < 4 ^ m ∧ (sFR (sGN T V G n m) m f0 (4 ^ m)).2 = nI r ∧ ∀ v, v < m → H v = dg m r v) ∧ den (d + 25) 6065 19 [some (.ref 50), some (.int a), none, none, none] [] w = den (d + 25) 6065 98 [some (.ref 50), some (.int a), some (.int (nI (sFR (sGN T V G n m) m f0 (4 ^ m)).1)), some (.int (nI (4 ^ m))), o'] [] (M2 w K H (w.1 58)) := by
  have hm4 := C.2.1.2.2.2
  obtain ⟨H', F', o', b1, b2, b3⟩ := m_rests_l (d := d) (K := zcpy (w.1 58) (w.1 74) 4) (a := a) (f0 := f0) C (4 ^ m) 0 none (w.1 75) (w.1 58) (by omega) (fun _ _ => rfl) (fun h => absurd h (by show ¬ 0 < 0; omega))
  refine ⟨zcpy (w.1 58) (w.1 74) 4, H', o', b2, ?_⟩
  have kF := m_keepF (d := d + 24) (w := w)
  have kT := M2_back (d := d + 24) (w := w) (K0 := w.1 74) (H := H') (F := F') (fun k hk => b1 k (by omega))
  have e0 : nI (sFR (sGN T V G n m) m f0 0).1 = 0 := nI_0
  rw [e0, nI_0, M2_0] at b3
  simp only [e_6065_19, e_6065_20, e_6065_21, e_6065_24, e_6065_25, e_6065_26, e_6065_27, zk_int, zk_ref, zk_null, zk_none, zk_long, zisR_r, zisR_n, zcl_int, zcl_ref, zcl_null, zpush_s, zpush_n, zbs, zbn, true_or, or_true, not_false_eq_true, not_true_eq_false, ↓reduceIte, and_self, and_true, true_and, zt_50, kF, b3]
  simp only [e_6065_93, e_6065_94, e_6065_95, zk_int, zk_ref, zk_null, zk_none, zk_long, zisR_r, zisR_n, zcl_int, zcl_ref, zcl_null, zpush_s, zpush_n, zbs, zbn, true_or, or_true, not_false_eq_true, not_true_eq_false, ↓reduceIte, and_self, and_true, true_and, zt_50, kT]
theorem m_rests_N (C : zMc w T V G n m) (f0 : Int32) : ∃ w2, zKp w w2 ∧ cal (d + 25) 6065 [.ref 50, .int (-1)] w = some (some (.int (nI (sFR (sGN T V G n m) m f0 (4 ^ m)).1)), w2) := by
  obtain ⟨K, H, o', -, h⟩ := m_rests_h (d := d) (a := -1) f0 C
  refine ⟨_, M2_kp (K := K) (H := H), ?_⟩
  simp only [c_6065, e_6065_0, e_6065_1, e_6065_2, zk_int, zk_ref, zk_null, zk_none, zk_long, zisR_r, zisR_n, zcl_int, zcl_ref, zcl_null, zpush_s, zpush_n, zbs, zbn, true_or, or_true, not_false_eq_true, not_true_eq_false, ↓reduceIte, and_self, and_true, true_and, h]
  simp only [e_6065_98, e_6065_99, e_6065_100, e_6065_103, e_6065_104, zk_int, zk_ref, zk_null, zk_none, zk_long, zisR_r, zisR_n, zcl_int, zcl_ref, zcl_null, zpush_s, zpush_n, zbs, zbn, true_or, or_true, not_false_eq_true, not_true_eq_false, ↓reduceIte, and_self, and_true, true_and]
theorem nI_neM {y : Nat} (h : y < 1000) : (nI y = -1) = False := by
  have e1 := nI_toInt (n := y) (by omega)
  have e2 : (-1 : Int32).toInt = -1 := by decide
  rw [ti_eq, e1, e2]
  exact eq_false (by omega)
theorem m_rests_0 {y : Nat} (C : zMc w T V G n m) (hy : y < m) (f0 : Int32) (h0 : (sFR (sGN T V G n m) m f0 (4 ^ m)).1 = 0) : ∃ w2, zKp w w2 ∧ cal (d + 25) 6065 [.ref 50, .int (nI y)] w = some (some (.int (-5)), mRf w2 5) := by
  have hm4 := C.2.1.2.2.2
  obtain ⟨K, H, o', -, h⟩ := m_rests_h (d := d) (a := nI y) f0 C
  refine ⟨_, M2_kp (K := K) (H := H), ?_⟩
  have g1 := nI_neM (y := y) (by omega)
  have q1 := m_isWaiter (d := d + 24) C.2.1 hy
  have q2 := m_no (d := d + 24) (w := M2 w K H (w.1 58)) (j := 5) (c := -5) (by decide) (by decide)
  have e0 : nI 0 = 0 := nI_0
  rw [h0, e0] at h
  simp only [c_6065, e_6065_0, e_6065_1, e_6065_2, e_6065_5, e_6065_6, e_6065_7, e_6065_10, zk_int, zk_ref, zk_null, zk_none, zk_long, zisR_r, zisR_n, zcl_int, zcl_ref, zcl_null, zpush_s, zpush_n, zbs, zbn, true_or, or_true, not_false_eq_true, not_true_eq_false, ↓reduceIte, and_self, and_true, true_and, g1, zt_50, q1, ie_0_1, ie_0_2, ie_0_3, ie_0_4, ie_0_5, ie_0_6, ie_0_7, ie_1_0, ie_1_2, ie_1_3, ie_1_4, ie_1_5, ie_1_6, ie_1_7, ie_2_0, ie_2_1, ie_2_3, ie_2_4, ie_2_5, ie_2_6, ie_2_7, ie_3_0, ie_3_1, ie_3_2, ie_3_4, ie_3_5, ie_3_6, ie_3_7, ie_4_0, ie_4_1, ie_4_2, ie_4_3, ie_4_5, ie_4_6, ie_4_7, ie_5_0, ie_5_1, ie_5_2, ie_5_3, ie_5_4, ie_5_6, ie_5_7, ie_6_0, ie_6_1, ie_6_2, ie_6_3, ie_6_4, ie_6_5, ie_6_7, ie_7_0, ie_7_1, ie_7_2, ie_7_3, ie_7_4, ie_7_5, ie_7_6, h]
  simp only [e_6065_98, e_6065_99, e_6065_100, e_6065_105, e_6065_106, e_6065_109, e_6065_110, e_6065_112, e_6065_115, e_6065_124, zk_int, zk_ref, zk_null, zk_none, zk_long, zisR_r, zisR_n, zcl_int, zcl_ref, zcl_null, zpush_s, zpush_n, zbs, zbn, true_or, or_true, not_false_eq_true, not_true_eq_false, ↓reduceIte, and_self, and_true, true_and, g1, zt_50, q2]
theorem m_rests_w {y : Nat} (C : zMc w T V G n m) (hy : y < m) (f0 : Int32) (h0 : 0 < (sFR (sGN T V G n m) m f0 (4 ^ m)).1) : ∃ w2 r, zKp w w2 ∧ r < 4 ^ m ∧ (sFR (sGN T V G n m) m f0 (4 ^ m)).2 = nI r ∧ cal (d + 25) 6065 [.ref 50, .int (nI y)] w = some (some (.int (nI (dig 4 m r y))), w2) := by
  have hm4 := C.2.1.2.2.2
  have h256 := (pow_le4 (b := 4) (k := m) (by decide) (by decide) hm4).2
  obtain ⟨K, H, o', b, h⟩ := m_rests_h (d := d) (a := nI y) f0 C
  obtain ⟨r, r1, r2, r3⟩ := b h0
  refine ⟨_, r, M2_kp (K := K) (H := H), r1, r2, ?_⟩
  have hle := sFR_le (sGN T V G n m) m f0 (4 ^ m)
  have g1 := nI_neM (y := y) (by omega)
  have q1 := m_isWaiter (d := d + 24) C.2.1 hy
  have hn0 := nI_ne0' (n := (sFR (sGN T V G n m) m f0 (4 ^ m)).1) h0 (by omega)
  have hz := zis_nI (j := y) (n := 4) (by omega) (by decide)
  have hc := nI_clamp (n := y) (by omega)
  have r4 := r3 y hy
  simp only [c_6065, e_6065_0, e_6065_1, e_6065_2, e_6065_5, e_6065_6, e_6065_7, e_6065_10, zk_int, zk_ref, zk_null, zk_none, zk_long, zisR_r, zisR_n, zcl_int, zcl_ref, zcl_null, zpush_s, zpush_n, zbs, zbn, true_or, or_true, not_false_eq_true, not_true_eq_false, ↓reduceIte, and_self, and_true, true_and, g1, zt_50, q1, ie_0_1, ie_0_2, ie_0_3, ie_0_4, ie_0_5, ie_0_6, ie_0_7, ie_1_0, ie_1_2, ie_1_3, ie_1_4, ie_1_5, ie_1_6, ie_1_7, ie_2_0, ie_2_1, ie_2_3, ie_2_4, ie_2_5, ie_2_6, ie_2_7, ie_3_0, ie_3_1, ie_3_2, ie_3_4, ie_3_5, ie_3_6, ie_3_7, ie_4_0, ie_4_1, ie_4_2, ie_4_3, ie_4_5, ie_4_6, ie_4_7, ie_5_0, ie_5_1, ie_5_2, ie_5_3, ie_5_4, ie_5_6, ie_5_7, ie_6_0, ie_6_1, ie_6_2, ie_6_3, ie_6_4, ie_6_5, ie_6_7, ie_7_0, ie_7_1, ie_7_2, ie_7_3, ie_7_4, ie_7_5, ie_7_6, h]
  simp only [e_6065_98, e_6065_99, e_6065_100, e_6065_105, e_6065_106, e_6065_118, e_6065_119, e_6065_122, e_6065_123, e_6065_124, zk_int, zk_ref, zk_null, zk_none, zk_long, zisR_r, zisR_n, zcl_int, zcl_ref, zcl_null, zpush_s, zpush_n, zbs, zbn, true_or, or_true, not_false_eq_true, not_true_eq_false, ↓reduceIte, and_self, and_true, true_and, g1, zt_50, zr_50_37, zt_75, zn_75, zo_75, zl_75, zq_75, hn0, hz, hc, M2_75, r4]
  rfl
theorem m_best_c {K H F : Nat → Int32} {a b c : Int32} {x : Nat} : den d 6066 87 [some (.ref 50), some (.int a), some (.int b), some (.int (nI x)), some (.int c), some (.int 0)] [] (M2 w K H F) = den d 6066 113 [some (.ref 50), some (.int a), some (.int b), some (.int (nI x)), some (.int c), some (.int 4)] [] (M2 w K (zcpy F H 4) F) := by
  have key : ∀ r j, j + r = 4 → den d 6066 87 [some (.ref 50), some (.int a), some (.int b), some (.int (nI x)), some (.int c), some (.int (nI j))] [] (M2 w K (zcpy F H j) F) = den d 6066 113 [some (.ref 50), some (.int a), some (.int b), some (.int (nI x)), some (.int c), some (.int 4)] [] (M2 w K (zcpy F H 4) F) := by
    intro r
    induction r with
    | zero =>
      intro j hj
      have e : j = 4 := by omega
      subst e
      have g1 : ((4 : Int32) ≤ nI 4) = True := eq_true (by decide)
      rw [e_6066_87]
      simp only [e_6066_89, e_6066_90, zk_int, zk_ref, zk_null, zk_none, zk_long, zisR_r, zisR_n, zcl_int, zcl_ref, zcl_null, zpush_s, zpush_n, zbs, zbn, true_or, or_true, not_false_eq_true, not_true_eq_false, ↓reduceIte, and_self, and_true, true_and, g1]
      rfl
    | succ r ih =>
      intro j hj
      have hj4 : j < 4 := by omega
      have g1 : ((4 : Int32) ≤ nI j) = False := nI_ge_f (b := 4) hj4 (by decide)
      have hz := zis_nI hj4 (by decide)
      have hc := nI_clamp (n := j) (by omega)
      rw [e_6066_87]
      simp only [c_6066, e_6066_0, e_6066_1, e_6066_2, e_6066_5, e_6066_8, e_6066_9, e_6066_10, e_6066_13, e_6066_14, e_6066_15, e_6066_16, e_6066_19, e_6066_20, e_6066_21, e_6066_22, e_6066_23, e_6066_24, e_6066_25, e_6066_28, e_6066_31, e_6066_32, e_6066_33, e_6066_36, e_6066_37, e_6066_39, e_6066_40, e_6066_42, e_6066_44, e_6066_45, e_6066_48, e_6066_51, e_6066_53, e_6066_54, e_6066_56, e_6066_59, e_6066_60, e_6066_62, e_6066_65, e_6066_68, e_6066_69, e_6066_72, e_6066_74, e_6066_75, e_6066_78, e_6066_81, e_6066_83, e_6066_84, e_6066_85, e_6066_89, e_6066_90, e_6066_93, e_6066_94, e_6066_97, e_6066_99, e_6066_100, e_6066_103, e_6066_105, e_6066_106, e_6066_107, e_6066_110, e_6066_116, e_6066_119, e_6066_120, e_6066_121, e_6066_124, e_6066_125, e_6066_128, e_6066_129, e_6066_130, zk_int, zk_ref, zk_null, zk_none, zk_long, zisR_r, zisR_n, zcl_int, zcl_ref, zcl_null, zpush_s, zpush_n, zbs, zbn, true_or, or_true, not_false_eq_true, not_true_eq_false, ↓reduceIte, and_self, and_true, true_and, zt_50, zr_50_15, zt_58, zn_58, zo_58, zl_58, zq_58, zr_50_37, zt_75, zn_75, zo_75, zl_75, zq_75, g1, hz, hc, zui_A, M2_58, M2_75, M2_u75, zcpy_s, nI_1]
      exact ih (j + 1) (by omega)
  have k0 := key 4 0 (by omega)
  rw [zcpy_0, nI_0] at k0
  exact k0
theorem m_best_s {K H : Nat → Int32} {a b : Int32} {x : Nat} (C : zMc w T V G n m) (hx : x < 4 ^ m) : den (d + 25) 6066 42 [some (.ref 50), some (.int a), some (.int b), some (.int (nI x)), some (.int 0), some (.int 0)] [] (M2 w K H (zcpy (dg m x) (w.1 58) m)) = den (d + 25) 6066 68 [some (.ref 50), some (.int a), some (.int b), some (.int (nI x)), some (.int (sSum (sGN T V G n m) m x)), some (.int (nI m))] [] (M2 w K H (zcpy (dg m x) (w.1 58) m)) := by
  have hm4 := C.2.1.2.2.2
  have CK := M2_C K H C
  have c1 : (M2 w K H (zcpy (dg m x) (w.1 58) m)).1 50 1 = nI m := by rw [M2_n _ _ _ (by decide)]; exact C.2.1.2.1
  have key : ∀ r j, j + r = m → den (d + 25) 6066 42 [some (.ref 50), some (.int a), some (.int b), some (.int (nI x)), some (.int (zsum (sGN T V G n m x) j)), some (.int (nI j))] [] (M2 w K H (zcpy (dg m x) (w.1 58) m)) = den (d + 25) 6066 68 [some (.ref 50), some (.int a), some (.int b), some (.int (nI x)), some (.int (sSum (sGN T V G n m) m x)), some (.int (nI m))] [] (M2 w K H (zcpy (dg m x) (w.1 58) m)) := by
    intro r
    induction r with
    | zero =>
      intro j hj
      have e : j = m := by omega
      subst e
      have g1 := nI_le_n (Nat.le_refl j) (by omega)
      rw [e_6066_42]
      simp only [e_6066_44, e_6066_45, e_6066_48, zk_int, zk_ref, zk_null, zk_none, zk_long, zisR_r, zisR_n, zcl_int, zcl_ref, zcl_null, zpush_s, zpush_n, zbs, zbn, true_or, or_true, not_false_eq_true, not_true_eq_false, ↓reduceIte, and_self, and_true, true_and, zt_50, c1, g1]
      rfl
    | succ r ih =>
      intro j hj
      have hjm : j < m := by omega
      have g1 := nI_ge_f hjm (by omega)
      have q := y_gainOf (d := d + 4) (r := x) CK hjm
      rw [M2_y] at q
      have i1 := ih (j + 1) (by omega)
      rw [← zsum_s] at i1
      rw [e_6066_42]
      simp only [c_6066, e_6066_0, e_6066_1, e_6066_2, e_6066_5, e_6066_8, e_6066_9, e_6066_10, e_6066_13, e_6066_14, e_6066_15, e_6066_16, e_6066_19, e_6066_20, e_6066_21, e_6066_22, e_6066_23, e_6066_24, e_6066_25, e_6066_28, e_6066_31, e_6066_32, e_6066_33, e_6066_36, e_6066_37, e_6066_39, e_6066_40, e_6066_44, e_6066_45, e_6066_48, e_6066_51, e_6066_53, e_6066_54, e_6066_56, e_6066_59, e_6066_60, e_6066_62, e_6066_65, e_6066_69, e_6066_72, e_6066_74, e_6066_75, e_6066_78, e_6066_81, e_6066_83, e_6066_84, e_6066_85, e_6066_87, e_6066_89, e_6066_90, e_6066_93, e_6066_94, e_6066_97, e_6066_99, e_6066_100, e_6066_103, e_6066_105, e_6066_106, e_6066_107, e_6066_110, e_6066_113, e_6066_116, e_6066_119, e_6066_120, e_6066_121, e_6066_124, e_6066_125, e_6066_128, e_6066_129, e_6066_130, zk_int, zk_ref, zk_null, zk_none, zk_long, zisR_r, zisR_n, zcl_int, zcl_ref, zcl_null, zpush_s, zpush_n, zbs, zbn, true_or, or_true, not_false_eq_true, not_true_eq_false, ↓reduceIte, and_self, and_true, true_and, zt_50, c1, g1, q, nI_1]
      exact i1
  have k0 := key m 0 (by omega)
  rw [nI_0] at k0
  exact k0
theorem m_best_l {K : Nat → Int32} {a : Int32} (C : zMc w T V G n m) : ∀ q x o4 o5 H F b, x + q = 4 ^ m → (∀ k, m ≤ k → F k = w.1 58 k) → (x = 0 ∨ (b = sSum (sGN T V G n m) m (sFB (sGN T V G n m) m (x - 1)) ∧ ∀ v, v < m → H v = dg m (sFB (sGN T V G n m) m (x - 1)) v)) → ∃ H' F' o' o2' b', (∀ k, m ≤ k → F' k = w.1 58 k) ∧ (∀ v, v < m → H' v = dg m (sFB (sGN T V G n m) m (4 ^ m - 1)) v) ∧ den (d + 25) 6066 23 [some (.ref 50), some (.int a), some (.int b), some (.int (nI x)), o4, o5] [] (M2 w K H F) = den (d + 25) 6066 119 [some (.ref 50), some (.int a), some (.int b'), some (.int (nI (4 ^ m))), o', o2'] [] (M2 w K H' F') := by
  have hm4 := C.2.1.2.2.2
  obtain ⟨h1p, h256⟩ := pow_le4 (b := 4) (k := m) (by decide) (by decide) hm4
  intro q
  induction q with
  | zero =>
    intro x o4 o5 H F b hx hF hH
    have e : x = 4 ^ m := by omega
    subst e
    have g1 := nI_le_n (Nat.le_refl (4 ^ m)) (by omega)
    have qe := m_efforts (d := d + 24) (w := M2 w K H F) (n := n) (m := m) (zMn_k C.2.1 (by rw [M2_n _ _ _ (by decide)]) (by rw [M2_n _ _ _ (by decide)]))
    refine ⟨H, F, o4, o5, b, hF, (hH.resolve_left (by omega)).2, ?_⟩
    rw [e_6066_23]
    simp only [e_6066_24, e_6066_25, e_6066_28, zk_int, zk_ref, zk_null, zk_none, zk_long, zisR_r, zisR_n, zcl_int, zcl_ref, zcl_null, zpush_s, zpush_n, zbs, zbn, true_or, or_true, not_false_eq_true, not_true_eq_false, ↓reduceIte, and_self, and_true, true_and, zt_50, qe, g1]
  | succ q ih =>
    intro x o4 o5 H F b hx hF hH
    have hxm : x < 4 ^ m := by omega
    have g1 := nI_ge_f hxm (by omega)
    have CK := M2_C K H C
    have qe := m_efforts (d := d + 24) (w := M2 w K H F) (n := n) (m := m) (zMn_k C.2.1 (by rw [M2_n _ _ _ (by decide)]) (by rw [M2_n _ _ _ (by decide)]))
    have qt := m_tells (d := d + 24) (w := zuA (zuA w 74 K) 75 H) (F := F) CK.2.1 hxm (fun k hk => by rw [zA_n _ _ (by decide), zA_n _ _ (by decide)]; exact hF k hk)
    rw [M2_y] at qt
    have qt' : cal (d + 24) 6063 [.ref 50, .int (nI x)] (M2 w K H F) = some (none, M2 w K H (zcpy (dg m x) (w.1 58) m)) := qt
    have hF' : ∀ k, m ≤ k → (zcpy (dg m x) (w.1 58) m) k = w.1 58 k := fun k hk => if_neg (by omega)
    have qs := m_best_s (d := d) (K := K) (H := H) (a := a) (b := b) C hxm
    have keep : ∀ b0, (x = 0 ∨ ¬ sSum (sGN T V G n m) m x ≤ b0) → b0 = b → (sFB (sGN T V G n m) m x = x) → ∃ H' F' o' o2' b', (∀ k, m ≤ k → F' k = w.1 58 k) ∧ (∀ v, v < m → H' v = dg m (sFB (sGN T V G n m) m (4 ^ m - 1)) v) ∧ den (d + 25) 6066 23 [some (.ref 50), some (.int a), some (.int b), some (.int (nI x)), o4, o5] [] (M2 w K H F) = den (d + 25) 6066 119 [some (.ref 50), some (.int a), some (.int b'), some (.int (nI (4 ^ m))), o', o2'] [] (M2 w K H' F') := by
      intro b0 hb eb es
      subst eb
      obtain ⟨H', F', o', o2', b', c1, c2, c3⟩ := ih (x + 1) (some (.int (sSum (sGN T V G n m) m x))) (some (.int 4)) (zcpy (zcpy (dg m x) (w.1 58) m) H 4) (zcpy (dg m x) (w.1 58) m) (sSum (sGN T V G n m) m x) (by omega) hF' (Or.inr ⟨by rw [Nat.add_sub_cancel, es], fun v hv => by
          rw [Nat.add_sub_cancel, es]
          show (if v < 4 then _ else _) = _
          rw [if_pos (by omega)]
          exact if_pos hv⟩)
      refine ⟨H', F', o', o2', b', c1, c2, ?_⟩
      have c := m_best_c (d := d + 25) (w := w) (K := K) (H := H) (F := zcpy (dg m x) (w.1 58) m) (a := a) (b := sSum (sGN T V G n m) m x) (c := sSum (sGN T V G n m) m x) (x := x)
      rw [← c3, e_6066_23]
      rcases Nat.eq_zero_or_pos x with hx0 | hx0
      · have g2 : (nI x ≤ 0) = True := by rw [hx0]; exact eq_true (by decide)
        simp only [c_6066, e_6066_0, e_6066_1, e_6066_2, e_6066_5, e_6066_8, e_6066_9, e_6066_10, e_6066_13, e_6066_14, e_6066_15, e_6066_16, e_6066_19, e_6066_20, e_6066_21, e_6066_22, e_6066_24, e_6066_25, e_6066_28, e_6066_31, e_6066_32, e_6066_33, e_6066_36, e_6066_37, e_6066_39, e_6066_40, e_6066_44, e_6066_45, e_6066_48, e_6066_51, e_6066_53, e_6066_54, e_6066_56, e_6066_59, e_6066_60, e_6066_62, e_6066_65, e_6066_68, e_6066_69, e_6066_72, e_6066_74, e_6066_75, e_6066_78, e_6066_81, e_6066_83, e_6066_84, e_6066_85, e_6066_89, e_6066_90, e_6066_93, e_6066_94, e_6066_97, e_6066_99, e_6066_100, e_6066_103, e_6066_105, e_6066_106, e_6066_107, e_6066_110, e_6066_113, e_6066_116, e_6066_119, e_6066_120, e_6066_121, e_6066_124, e_6066_125, e_6066_128, e_6066_129, e_6066_130, zk_int, zk_ref, zk_null, zk_none, zk_long, zisR_r, zisR_n, zcl_int, zcl_ref, zcl_null, zpush_s, zpush_n, zbs, zbn, true_or, or_true, not_false_eq_true, not_true_eq_false, ↓reduceIte, and_self, and_true, true_and, zt_50, qe, g1, qt', qs, c, g2, nI_1]
      · have g2 : (nI x ≤ 0) = False := nI_nle0 hx0 (by omega)
        have g3 : (b0 < sSum (sGN T V G n m) m x) = True := eq_true (Int32.not_le.mp (hb.resolve_left (by omega)))
        simp only [c_6066, e_6066_0, e_6066_1, e_6066_2, e_6066_5, e_6066_8, e_6066_9, e_6066_10, e_6066_13, e_6066_14, e_6066_15, e_6066_16, e_6066_19, e_6066_20, e_6066_21, e_6066_22, e_6066_24, e_6066_25, e_6066_28, e_6066_31, e_6066_32, e_6066_33, e_6066_36, e_6066_37, e_6066_39, e_6066_40, e_6066_44, e_6066_45, e_6066_48, e_6066_51, e_6066_53, e_6066_54, e_6066_56, e_6066_59, e_6066_60, e_6066_62, e_6066_65, e_6066_68, e_6066_69, e_6066_72, e_6066_74, e_6066_75, e_6066_78, e_6066_81, e_6066_83, e_6066_84, e_6066_85, e_6066_89, e_6066_90, e_6066_93, e_6066_94, e_6066_97, e_6066_99, e_6066_100, e_6066_103, e_6066_105, e_6066_106, e_6066_107, e_6066_110, e_6066_113, e_6066_116, e_6066_119, e_6066_120, e_6066_121, e_6066_124, e_6066_125, e_6066_128, e_6066_129, e_6066_130, zk_int, zk_ref, zk_null, zk_none, zk_long, zisR_r, zisR_n, zcl_int, zcl_ref, zcl_null, zpush_s, zpush_n, zbs, zbn, true_or, or_true, not_false_eq_true, not_true_eq_false, ↓reduceIte, and_self, and_true, true_and, zt_50, qe, g1, qt', qs, c, g2, g3, nI_1]
    rcases Nat.eq_zero_or_pos x with hx0 | hx0
    · exact keep b (Or.inl hx0) rfl (by rw [hx0]; rfl)
    · obtain ⟨hb, hHv⟩ := hH.resolve_left (by omega)
      obtain ⟨x', rfl⟩ : ∃ x', x = x' + 1 := ⟨x - 1, by omega⟩
      rw [Nat.add_sub_cancel] at hb hHv
      by_cases hc : sSum (sGN T V G n m) m (x' + 1) ≤ b
      · have es : sFB (sGN T V G n m) m (x' + 1) = sFB (sGN T V G n m) m x' := by
          show (if _ then _ else _) = _
          rw [if_pos (by rw [← hb]; exact hc)]
        obtain ⟨H', F', o', o2', b', c1, c2, c3⟩ := ih (x' + 1 + 1) (some (.int (sSum (sGN T V G n m) m (x' + 1)))) (some (.int (nI m))) H (zcpy (dg m (x' + 1)) (w.1 58) m) b (by omega) hF' (Or.inr ⟨by rw [Nat.add_sub_cancel, es]; exact hb, by rw [Nat.add_sub_cancel, es]; exact hHv⟩)
        refine ⟨H', F', o', o2', b', c1, c2, ?_⟩
        have g2 : (nI (x' + 1) ≤ 0) = False := nI_nle0 hx0 (by omega)
        have g3 : (b < sSum (sGN T V G n m) m (x' + 1)) = False := eq_false (Int32.not_lt.mpr hc)
        rw [← c3, e_6066_23]
        simp only [c_6066, e_6066_0, e_6066_1, e_6066_2, e_6066_5, e_6066_8, e_6066_9, e_6066_10, e_6066_13, e_6066_14, e_6066_15, e_6066_16, e_6066_19, e_6066_20, e_6066_21, e_6066_22, e_6066_24, e_6066_25, e_6066_28, e_6066_31, e_6066_32, e_6066_33, e_6066_36, e_6066_37, e_6066_39, e_6066_40, e_6066_44, e_6066_45, e_6066_48, e_6066_51, e_6066_53, e_6066_54, e_6066_56, e_6066_59, e_6066_60, e_6066_62, e_6066_65, e_6066_68, e_6066_69, e_6066_72, e_6066_74, e_6066_75, e_6066_78, e_6066_81, e_6066_83, e_6066_84, e_6066_85, e_6066_89, e_6066_90, e_6066_93, e_6066_94, e_6066_97, e_6066_99, e_6066_100, e_6066_103, e_6066_105, e_6066_106, e_6066_107, e_6066_110, e_6066_113, e_6066_116, e_6066_119, e_6066_120, e_6066_121, e_6066_124, e_6066_125, e_6066_128, e_6066_129, e_6066_130, zk_int, zk_ref, zk_null, zk_none, zk_long, zisR_r, zisR_n, zcl_int, zcl_ref, zcl_null, zpush_s, zpush_n, zbs, zbn, true_or, or_true, not_false_eq_true, not_true_eq_false, ↓reduceIte, and_self, and_true, true_and, zt_50, qe, g1, qt', qs, g2, g3, nI_1]
      · refine keep b (Or.inr hc) rfl ?_
        show (if _ then _ else _) = _
        rw [if_neg (by rw [← hb]; exact hc)]
theorem m_best {y : Nat} (C : zMc w T V G n m) (hy : y < m) : ∃ w2, zKp w w2 ∧ cal (d + 25) 6066 [.ref 50, .int (nI y)] w = some (some (.int (nI (dig 4 m (sFB (sGN T V G n m) m (4 ^ m - 1)) y))), w2) := by
  have hm4 := C.2.1.2.2.2
  obtain ⟨H', F', o', o2', b', c1, c2, c3⟩ := m_best_l (d := d) (K := zcpy (w.1 58) (w.1 74) 4) (a := nI y) C (4 ^ m) 0 none none (w.1 75) (w.1 58) 0 (by omega) (fun _ _ => rfl) (Or.inl rfl)
  refine ⟨_, M2_kp (K := zcpy (w.1 58) (w.1 74) 4) (H := H'), ?_⟩
  have kF := m_keepF (d := d + 24) (w := w)
  have kT := M2_back (d := d + 24) (w := w) (K0 := w.1 74) (H := H') (F := F') (fun k hk => c1 k (by omega))
  have q1 := m_isWaiter (d := d + 24) C.2.1 hy
  have hz := zis_nI (j := y) (n := 4) (by omega) (by decide)
  have hc := nI_clamp (n := y) (by omega)
  have r4 := c2 y hy
  rw [nI_0, M2_0] at c3
  simp only [c_6066, e_6066_0, e_6066_1, e_6066_2, e_6066_5, e_6066_14, e_6066_15, e_6066_16, e_6066_19, e_6066_20, e_6066_21, e_6066_22, zk_int, zk_ref, zk_null, zk_none, zk_long, zisR_r, zisR_n, zcl_int, zcl_ref, zcl_null, zpush_s, zpush_n, zbs, zbn, true_or, or_true, not_false_eq_true, not_true_eq_false, ↓reduceIte, and_self, and_true, true_and, zt_50, q1, ie_0_1, ie_0_2, ie_0_3, ie_0_4, ie_0_5, ie_0_6, ie_0_7, ie_1_0, ie_1_2, ie_1_3, ie_1_4, ie_1_5, ie_1_6, ie_1_7, ie_2_0, ie_2_1, ie_2_3, ie_2_4, ie_2_5, ie_2_6, ie_2_7, ie_3_0, ie_3_1, ie_3_2, ie_3_4, ie_3_5, ie_3_6, ie_3_7, ie_4_0, ie_4_1, ie_4_2, ie_4_3, ie_4_5, ie_4_6, ie_4_7, ie_5_0, ie_5_1, ie_5_2, ie_5_3, ie_5_4, ie_5_6, ie_5_7, ie_6_0, ie_6_1, ie_6_2, ie_6_3, ie_6_4, ie_6_5, ie_6_7, ie_7_0, ie_7_1, ie_7_2, ie_7_3, ie_7_4, ie_7_5, ie_7_6, kF, c3]
  simp only [e_6066_119, e_6066_120, e_6066_121, e_6066_124, e_6066_125, e_6066_128, e_6066_129, e_6066_130, zk_int, zk_ref, zk_null, zk_none, zk_long, zisR_r, zisR_n, zcl_int, zcl_ref, zcl_null, zpush_s, zpush_n, zbs, zbn, true_or, or_true, not_false_eq_true, not_true_eq_false, ↓reduceIte, and_self, and_true, true_and, zt_50, zr_50_37, zt_75, zn_75, zo_75, zl_75, zq_75, kT, hz, hc, M2_75, r4]
  rfl
end MH
