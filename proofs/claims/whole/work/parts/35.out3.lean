theorem q_rE1 {d n m : Nat} {w : zM} {F T V G gv : Nat → Int32} {o3 o4 : Option Value} (C : zTc F T n m) (C1 : zHc w 1 n m) (ef : Nat → Nat) (hef : ∀ j, j < m → w.1 3 (6 * j + 1) = nI (ef j)) : ∀ r j, j + r = m → den (d + 6) 2003 15 [some (.ref 13), some (.ref 1), some (.int (nI j)), o3, o4] [] (zO (zuA w 13 (upd (w.1 13) 2 (nI (rowOf ef j)))) F T V G gv) = den (d + 6) 2003 49 [some (.ref 13), some (.ref 1), some (.int (nI m)), o3, o4] [] (zO (zuA w 13 (upd (w.1 13) 2 (nI (rowOf ef m)))) F T V G gv) := by
  have hm4 : m ≤ 4 := C.2.2.2.1
  intro r
  induction r with
  | zero =>
    intro j hj
    have e : j = m := by omega
    subst e
    have l1 := nI_le_n (Nat.le_refl j) (by omega)
    rw [e_2003_15]
    simp only [e_2003_16, e_2003_17, e_2003_20, e_2003_23, zk_int, zk_ref, zk_null, zk_none, zk_long, zisR_r, zisR_n, zcl_int, zcl_ref, zcl_null, zpush_s, zpush_n, zbs, zbn, true_or, or_true, not_false_eq_true, not_true_eq_false, ↓reduceIte, and_self, and_true, true_and, zt_13, zr_13_0, zt_14, t_waiterCount C, l1]
  | succ r ih =>
    intro j hj
    have hjm : j < m := by omega
    have l1 := nI_ge_f hjm (by omega)
    have C1' : zHc (zuA w 13 (upd (w.1 13) 2 (nI (rowOf ef j)))) 1 n m := zHc_A C1 (by decide)
    have q1 := q_waiterPart_1 (d := d + 4) (w := zO (zuA w 13 (upd (w.1 13) 2 (nI (rowOf ef j)))) F T V G gv) (zHc_O C1') hjm
    rw [zO_n _ _ _ _ _ _ (by decide), zA_n _ _ (by decide), hef j hjm] at q1
    have e1 : (zO (zuA w 13 (upd (w.1 13) 2 (nI (rowOf ef j)))) F T V G gv).1 13 = upd (w.1 13) 2 (nI (rowOf ef j)) := by rw [zO_n _ _ _ _ _ _ (by decide), zA_s]
    have e2 : upd (w.1 13) 2 (nI (rowOf ef j)) 2 = nI (rowOf ef j) := if_pos rfl
    have e3 : nI (rowOf ef j) * 4 + nI (ef j) = nI (rowOf ef (j + 1)) := by
      show nI (rowOf ef j) * nI 4 + nI (ef j) = _
      rw [pk_mul, nI_add]
      rfl
    have e4 : ∀ f, zuA (zO (zuA w 13 (upd (w.1 13) 2 (nI (rowOf ef j)))) F T V G gv) 13 f = zO (zuA w 13 f) F T V G gv := fun f => by rw [zO_un _ _ _ _ _ _ _ (by decide), zA_A]
    rw [e_2003_15]
    simp only [c_2003, e_2003_0, e_2003_1, e_2003_4, e_2003_5, e_2003_8, e_2003_9, e_2003_10, e_2003_13, e_2003_14, e_2003_16, e_2003_17, e_2003_20, e_2003_23, e_2003_26, e_2003_27, e_2003_28, e_2003_31, e_2003_32, e_2003_33, e_2003_34, e_2003_35, e_2003_36, e_2003_39, e_2003_40, e_2003_43, e_2003_46, e_2003_50, e_2003_53, e_2003_54, e_2003_55, e_2003_56, e_2003_57, e_2003_58, e_2003_61, e_2003_62, e_2003_64, e_2003_66, e_2003_67, e_2003_70, e_2003_73, e_2003_76, e_2003_77, e_2003_80, e_2003_82, e_2003_83, e_2003_84, e_2003_85, e_2003_87, e_2003_90, e_2003_93, e_2003_96, e_2003_99, e_2003_100, e_2003_103, e_2003_106, e_2003_107, e_2003_109, e_2003_111, e_2003_112, e_2003_115, e_2003_118, e_2003_121, e_2003_122, e_2003_125, e_2003_126, e_2003_127, e_2003_128, e_2003_130, e_2003_131, e_2003_132, e_2003_135, e_2003_137, e_2003_140, e_2003_143, e_2003_146, e_2003_149, e_2003_152, e_2003_155, zk_int, zk_ref, zk_null, zk_none, zk_long, zisR_r, zisR_n, zcl_int, zcl_ref, zcl_null, zpush_s, zpush_n, zbs, zbn, true_or, or_true, not_false_eq_true, not_true_eq_false, ↓reduceIte, and_self, and_true, true_and, zt_13, zr_13_0, zt_14, zt_1, t_waiterCount C, l1, q1, e1, e2, e3, e4, zui_A, upd_u, nI_1]
    exact ih (j + 1) (by omega)
theorem q_rE2 {d n m R r : Nat} {w : zM} {F T V G gv : Nat → Int32} (C : zTc F T n m) (hr : r < 1000) : ∀ k j, j + k = m → den (d + 6) 2003 64 [some (.ref 13), some (.ref 1), some (.int (nI R)), some (.int (nI r)), some (.int (nI j))] [] (zO w F T (sSe V (fun v => nI (dig 4 m r v)) j) G gv) = den (d + 6) 2003 99 [some (.ref 13), some (.ref 1), some (.int (nI R)), some (.int (nI r)), some (.int (nI m))] [] (zO w F T (sSe V (fun v => nI (dig 4 m r v)) m) G gv) := by
  have hm4 : m ≤ 4 := C.2.2.2.1
  intro k
  induction k with
  | zero =>
    intro j hj
    have e : j = m := by omega
    subst e
    have l1 := nI_le_n (Nat.le_refl j) (by omega)
    rw [e_2003_64]
    simp only [e_2003_66, e_2003_67, e_2003_70, e_2003_73, zk_int, zk_ref, zk_null, zk_none, zk_long, zisR_r, zisR_n, zcl_int, zcl_ref, zcl_null, zpush_s, zpush_n, zbs, zbn, true_or, or_true, not_false_eq_true, not_true_eq_false, ↓reduceIte, and_self, and_true, true_and, zt_13, zr_13_0, zt_14, t_waiterCount C, l1]
  | succ k ih =>
    intro j hj
    have hjm : j < m := by omega
    have l1 := nI_ge_f hjm (by omega)
    have q1 := sSe_s V (fun v => nI (dig 4 m r v)) j
    have q2 := fun V => t_effortIn (d := d + 3) (w := w) (V := V) (G := G) (gv := gv) C hjm hr
    have q3 := fun V v => t_swp1 (d := d + 4) (w := w) (F := F) (T := T) (V := V) (G := G) (gv := gv) (y := j) (v := v) (by omega)
    rw [e_2003_64]
    simp only [c_2003, e_2003_0, e_2003_1, e_2003_4, e_2003_5, e_2003_8, e_2003_9, e_2003_10, e_2003_13, e_2003_14, e_2003_15, e_2003_16, e_2003_17, e_2003_20, e_2003_23, e_2003_26, e_2003_27, e_2003_28, e_2003_31, e_2003_32, e_2003_33, e_2003_34, e_2003_35, e_2003_36, e_2003_39, e_2003_40, e_2003_43, e_2003_46, e_2003_49, e_2003_50, e_2003_53, e_2003_54, e_2003_55, e_2003_56, e_2003_57, e_2003_58, e_2003_61, e_2003_62, e_2003_66, e_2003_67, e_2003_70, e_2003_73, e_2003_76, e_2003_77, e_2003_80, e_2003_82, e_2003_83, e_2003_84, e_2003_85, e_2003_87, e_2003_90, e_2003_93, e_2003_96, e_2003_100, e_2003_103, e_2003_106, e_2003_107, e_2003_109, e_2003_111, e_2003_112, e_2003_115, e_2003_118, e_2003_121, e_2003_122, e_2003_125, e_2003_126, e_2003_127, e_2003_128, e_2003_130, e_2003_131, e_2003_132, e_2003_135, e_2003_137, e_2003_140, e_2003_143, e_2003_146, e_2003_149, e_2003_152, e_2003_155, zk_int, zk_ref, zk_null, zk_none, zk_long, zisR_r, zisR_n, zcl_int, zcl_ref, zcl_null, zpush_s, zpush_n, zbs, zbn, true_or, or_true, not_false_eq_true, not_true_eq_false, ↓reduceIte, and_self, and_true, true_and, zt_13, zr_13_0, zt_14, t_waiterCount C, l1, q1, q2, q3, nI_1]
    exact ih (j + 1) (by omega)
def sGsF (g : Nat → Int32) (f : Nat → Int32) (r j : Nat) : Nat → Int32 := fun k => if k / 4 = r ∧ k % 4 < j then f (k % 4) else g k
theorem sGsF_s (g f : Nat → Int32) (r j : Nat) (hj : j < 4) : upd (sGsF g f r j) (4 * r + j) (f j) = sGsF g f r (j + 1) := by
  funext k
  unfold upd sGsF
  by_cases h : k = 4 * r + j
  · rw [if_pos h, if_pos (by omega)]
    have e : k % 4 = j := by omega
    rw [e]
  · rw [if_neg h]
    by_cases h2 : k / 4 = r ∧ k % 4 < j
    · rw [if_pos h2, if_pos (by omega)]
    · rw [if_neg h2, if_neg (by omega)]
theorem sGsF_0 (g f : Nat → Int32) (r : Nat) : sGsF g f r 0 = g := by
  funext k
  exact if_neg (by omega)
theorem q_rE3 {d n m R r : Nat} {w : zM} {F T V G gv g : Nat → Int32} (C : zTc F T n m) (hr : r < 256) : ∀ k j, j + k = m → den (d + 6) 2003 109 [some (.ref 13), some (.ref 1), some (.int (nI R)), some (.int (nI r)), some (.int (nI j))] [] (zO (zuA w 19 (sGsF g (sGn T V G n m) r j)) F T V G (zcpy (sGv T V G) gv n)) = den (d + 6) 2003 56 [some (.ref 13), some (.ref 1), some (.int (nI R)), some (.int (nI (r + 1))), some (.int (nI m))] [] (zO (zuA w 19 (sGsF g (sGn T V G n m) r m)) F T V G (zcpy (sGv T V G) gv n)) := by
  have hm4 : m ≤ 4 := C.2.2.2.1
  intro k
  induction k with
  | zero =>
    intro j hj
    have e : j = m := by omega
    subst e
    have l1 := nI_le_n (Nat.le_refl j) (by omega)
    rw [e_2003_109]
    simp only [c_2003, e_2003_0, e_2003_1, e_2003_4, e_2003_5, e_2003_8, e_2003_9, e_2003_10, e_2003_13, e_2003_14, e_2003_15, e_2003_16, e_2003_17, e_2003_20, e_2003_23, e_2003_26, e_2003_27, e_2003_28, e_2003_31, e_2003_32, e_2003_33, e_2003_34, e_2003_35, e_2003_36, e_2003_39, e_2003_40, e_2003_43, e_2003_46, e_2003_49, e_2003_50, e_2003_53, e_2003_54, e_2003_55, e_2003_57, e_2003_58, e_2003_61, e_2003_62, e_2003_64, e_2003_66, e_2003_67, e_2003_70, e_2003_73, e_2003_76, e_2003_77, e_2003_80, e_2003_82, e_2003_83, e_2003_84, e_2003_85, e_2003_87, e_2003_90, e_2003_93, e_2003_96, e_2003_99, e_2003_100, e_2003_103, e_2003_106, e_2003_107, e_2003_111, e_2003_112, e_2003_115, e_2003_118, e_2003_121, e_2003_122, e_2003_125, e_2003_126, e_2003_127, e_2003_128, e_2003_130, e_2003_131, e_2003_132, e_2003_135, e_2003_137, e_2003_140, e_2003_143, e_2003_146, e_2003_149, e_2003_152, e_2003_155, zk_int, zk_ref, zk_null, zk_none, zk_long, zisR_r, zisR_n, zcl_int, zcl_ref, zcl_null, zpush_s, zpush_n, zbs, zbn, true_or, or_true, not_false_eq_true, not_true_eq_false, ↓reduceIte, and_self, and_true, true_and, zt_13, zr_13_0, zt_14, t_waiterCount C, l1, nI_1]
  | succ k ih =>
    intro j hj
    have hjm : j < m := by omega
    have l1 := nI_ge_f hjm (by omega)
    have q1 := sGsF_s g (sGn T V G n m) r j (by omega)
    have q2 := t_gainOf (d := d + 1) (w := zuA w 19 (sGsF g (sGn T V G n m) r j)) (V := V) (G := G) (gv := gv) C hjm
    have q3 := fun v => q_put (d := d + 5) (a := 19) (j := 4 * r + j) (w := zO (zuA w 19 (sGsF g (sGn T V G n m) r j)) F T V G (zcpy (sGv T V G) gv n)) (v := v) zt_19 (by rw [zn_19]; omega) (by rw [zn_19]; decide)
    have e1 : (zO (zuA w 19 (sGsF g (sGn T V G n m) r j)) F T V G (zcpy (sGv T V G) gv n)).1 19 = sGsF g (sGn T V G n m) r j := by rw [zO_n _ _ _ _ _ _ (by decide), zA_s]
    have e2 : ∀ f, zuA (zO (zuA w 19 (sGsF g (sGn T V G n m) r j)) F T V G (zcpy (sGv T V G) gv n)) 19 f = zO (zuA w 19 f) F T V G (zcpy (sGv T V G) gv n) := fun f => by rw [zO_un _ _ _ _ _ _ _ (by decide), zA_A]
    have e3 : nI r * 4 + nI j = nI (4 * r + j) := by
      show nI r * nI 4 + nI j = _
      rw [pk_mul, nI_add, Nat.mul_comm]
    rw [e_2003_109]
    simp only [c_2003, e_2003_0, e_2003_1, e_2003_4, e_2003_5, e_2003_8, e_2003_9, e_2003_10, e_2003_13, e_2003_14, e_2003_15, e_2003_16, e_2003_17, e_2003_20, e_2003_23, e_2003_26, e_2003_27, e_2003_28, e_2003_31, e_2003_32, e_2003_33, e_2003_34, e_2003_35, e_2003_36, e_2003_39, e_2003_40, e_2003_43, e_2003_46, e_2003_49, e_2003_50, e_2003_53, e_2003_54, e_2003_55, e_2003_57, e_2003_58, e_2003_61, e_2003_62, e_2003_64, e_2003_66, e_2003_67, e_2003_70, e_2003_73, e_2003_76, e_2003_77, e_2003_80, e_2003_82, e_2003_83, e_2003_84, e_2003_85, e_2003_87, e_2003_90, e_2003_93, e_2003_96, e_2003_99, e_2003_100, e_2003_103, e_2003_106, e_2003_107, e_2003_111, e_2003_112, e_2003_115, e_2003_118, e_2003_121, e_2003_122, e_2003_125, e_2003_126, e_2003_127, e_2003_128, e_2003_130, e_2003_131, e_2003_132, e_2003_135, e_2003_137, e_2003_140, e_2003_143, e_2003_146, e_2003_149, e_2003_152, e_2003_155, zk_int, zk_ref, zk_null, zk_none, zk_long, zisR_r, zisR_n, zcl_int, zcl_ref, zcl_null, zpush_s, zpush_n, zbs, zbn, true_or, or_true, not_false_eq_true, not_true_eq_false, ↓reduceIte, and_self, and_true, true_and, zt_13, zr_13_0, zr_13_1, zt_14, t_waiterCount C, l1, q2, q3, e1, e2, e3, q1, nI_1]
    exact ih (j + 1) (by omega)
theorem q_rE4 {d n m R : Nat} {w : zM} {F T V G : Nat → Int32} (C : zTc F T n m) (hR : R ≤ 256) : ∀ k r o4 g e gv, r + k = R → (∀ r' y, r' < r → y < m → g (4 * r' + y) = sGN T V G n m r' y) → ∃ g2 e2 gv2, den (d + 6) 2003 56 [some (.ref 13), some (.ref 1), some (.int (nI R)), some (.int (nI r)), o4] [] (zO (zuA w 19 g) F T (sSe V e m) G gv) = some (none, zO (zuA w 19 g2) F T (sSe V e2 m) G gv2) ∧ (∀ r' y, r' < R → y < m → g2 (4 * r' + y) = sGN T V G n m r' y) := by
  have hm4 : m ≤ 4 := C.2.2.2.1
  intro k
  induction k with
  | zero =>
    intro r o4 g e gv hr hg
    have e1 : r = R := by omega
    subst e1
    have l1 := nI_le_n (Nat.le_refl r) (by omega)
    refine ⟨g, e, gv, ?_, hg⟩
    rw [e_2003_56]
    simp only [e_2003_57, e_2003_58, e_2003_155, zk_int, zk_ref, zk_null, zk_none, zk_long, zisR_r, zisR_n, zcl_int, zcl_ref, zcl_null, zpush_s, zpush_n, zbs, zbn, true_or, or_true, not_false_eq_true, not_true_eq_false, ↓reduceIte, and_self, and_true, true_and, l1]
  | succ k ih =>
    intro r o4 g e gv hr hg
    have hrR : r < R := by omega
    have l1 := nI_ge_f hrR (by omega)
    have k1 := q_rE2 (d := d) (R := R) (w := zuA w 19 g) (V := sSe V e m) (G := G) (gv := gv) C (r := r) (by omega) m 0 (by omega)
    rw [sSe_0, sSe_sSe] at k1
    have e0 : nI 0 = 0 := nI_0
    rw [e0] at k1
    have k2 := fun gv => q_rE3 (d := d) (R := R) (w := w) (V := sSe V (fun v => nI (dig 4 m r v)) m) (G := G) (gv := gv) (g := g) C (r := r) (by omega) m 0 (by omega)
    simp only [sGsF_0, e0] at k2
    obtain ⟨g2, e2, gv2, h1, h2⟩ := ih (r + 1) (some (.int (nI m))) (sGsF g (sGn T (sSe V (fun v => nI (dig 4 m r v)) m) G n m) r m) (fun v => nI (dig 4 m r v)) (zcpy (sGv T (sSe V (fun v => nI (dig 4 m r v)) m) G) gv n) (by omega) (by
      intro r' y hr' hy
      by_cases hrr : r' = r
      · subst hrr
        have e5 : (4 * r' + y) / 4 = r' ∧ (4 * r' + y) % 4 < m := by omega
        have e6 : (4 * r' + y) % 4 = y := by omega
        unfold sGsF
        rw [if_pos e5, e6]
        rfl
      · have e5 : ¬ ((4 * r' + y) / 4 = r ∧ (4 * r' + y) % 4 < m) := by omega
        unfold sGsF
        rw [if_neg e5]
        exact hg r' y (by omega) hy)
    refine ⟨g2, e2, gv2, ?_, h2⟩
    rw [e_2003_56]
    simp only [e_2003_57, e_2003_58, e_2003_61, e_2003_62, zk_int, zk_ref, zk_null, zk_none, zk_long, zisR_r, zisR_n, zcl_int, zcl_ref, zcl_null, zpush_s, zpush_n, zbs, zbn, true_or, or_true, not_false_eq_true, not_true_eq_false, ↓reduceIte, and_self, and_true, true_and, l1, k1]
    simp only [e_2003_99, e_2003_100, e_2003_103, e_2003_106, e_2003_107, zk_int, zk_ref, zk_null, zk_none, zk_long, zisR_r, zisR_n, zcl_int, zcl_ref, zcl_null, zpush_s, zpush_n, zbs, zbn, true_or, or_true, not_false_eq_true, not_true_eq_false, ↓reduceIte, and_self, and_true, true_and, zt_13, zr_13_0, zt_14, t_reckon C, k2, h1]
def sRE (w W' : zM) (n m : Nat) (ef : Nat → Nat) : Prop := ∃ g e gv, W' = zO (zuA (zuA w 13 (upd (w.1 13) 2 (nI (rowOf ef m)))) 19 g) (w.1 1) (w.1 2) (sSe (w.1 3) e m) (w.1 4) gv ∧ (∀ r y, r < 4 ^ m → y < m → g (4 * r + y) = sGN (w.1 2) (w.1 3) (w.1 4) n m r y)
theorem q_reckonEfforts {d n m : Nat} {w : zM} (H1 : zHz w 1) (H14 : zHz w 14) (C : zTc (w.1 1) (w.1 2) n m) (C1 : zHc w 1 n m) (ef : Nat → Nat) (hef : ∀ j, j < m → w.1 3 (6 * j + 1) = nI (ef j)) : ∃ W', cal (d + 6) 2003 [.ref 13, .ref 1] w = some (none, W') ∧ sRE w W' n m ef := by
  have hm4 : m ≤ 4 := C.2.2.2.1
  obtain ⟨p1, p2⟩ := pow_le4 (b := 4) (k := m) (by decide) (by decide) hm4
  have k1 := q_rE1 (d := d) (w := w) (F := w.1 1) (T := w.1 2) (V := w.1 3) (G := w.1 4) (gv := w.1 18) (o3 := none) (o4 := none) C C1 ef hef m 0 (by omega)
  obtain ⟨g2, e2, gv2, h1, h2⟩ := q_rE4 (d := d) (R := 4 ^ m) (w := zuA w 13 (upd (w.1 13) 2 (nI (rowOf ef m)))) (F := w.1 1) (T := w.1 2) (V := w.1 3) (G := w.1 4) C p2 (4 ^ m) 0 none (w.1 19) (fun v => w.1 3 (6 * v + 1)) (w.1 18) (by omega) (fun r' y h => by omega)
  refine ⟨_, ?_, g2, e2, gv2, rfl, h2⟩
  have e0 : nI 0 = 0 := nI_0
  have e1 : nI (rowOf ef 0) = 0 := nI_0
  rw [sSe_id, e0] at h1
  rw [e1, e0] at k1
  have e3 : zuA (zuA w 13 (upd (w.1 13) 2 (nI (rowOf ef m)))) 19 (w.1 19) = zuA w 13 (upd (w.1 13) 2 (nI (rowOf ef m))) := by
    have e4 : (zuA w 13 (upd (w.1 13) 2 (nI (rowOf ef m)))).1 19 = w.1 19 := zA_n _ _ (by decide)
    rw [← e4, zA_id]
  rw [e3] at h1
  have e5 : ∀ f, zuA (zO w (w.1 1) (w.1 2) (w.1 3) (w.1 4) (w.1 18)) 13 f = zO (zuA w 13 f) (w.1 1) (w.1 2) (w.1 3) (w.1 4) (w.1 18) := fun f => zO_un _ _ _ _ _ _ _ (by decide)
  have e6 : (zO w (w.1 1) (w.1 2) (w.1 3) (w.1 4) (w.1 18)).1 13 = w.1 13 := zO_n _ _ _ _ _ _ (by decide)
  simp only [c_2003, e_2003_0, e_2003_1, e_2003_4, e_2003_5, e_2003_8, e_2003_9, e_2003_10, e_2003_13, e_2003_14, zk_int, zk_ref, zk_null, zk_none, zk_long, zisR_r, zisR_n, zcl_int, zcl_ref, zcl_null, zpush_s, zpush_n, zbs, zbn, true_or, or_true, not_false_eq_true, not_true_eq_false, ↓reduceIte, and_self, and_true, true_and, zt_13, zr_13_0, zt_14, t_become H1 H14, zui_A, e5, e6, k1]
  have q1 := t_effortRows (d := d + 3) (w := zuA w 13 (upd (w.1 13) 2 (nI (rowOf ef m)))) (V := w.1 3) (G := w.1 4) (gv := w.1 18) C
  simp only [e_2003_49, e_2003_50, e_2003_53, e_2003_54, e_2003_55, zk_int, zk_ref, zk_null, zk_none, zk_long, zisR_r, zisR_n, zcl_int, zcl_ref, zcl_null, zpush_s, zpush_n, zbs, zbn, true_or, or_true, not_false_eq_true, not_true_eq_false, ↓reduceIte, and_self, and_true, true_and, zt_13, q1, h1]
