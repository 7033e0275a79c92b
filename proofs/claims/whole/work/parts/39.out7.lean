def sTe (T : Nat → Int32) (m e j : Nat) (B : Nat → Int32) : Nat → Int32 := fun k => if k % 5 = 4 ∧ k / 5 < j then nI ((sSrv T (k / 5) + e) % m) else B k
theorem sTe_s (T B : Nat → Int32) (m e j : Nat) : upd (sTe T m e j B) (5 * j + 4) (nI ((sSrv T j + e) % m)) = sTe T m e (j + 1) B := by
  funext k
  unfold upd sTe
  by_cases h : k = 5 * j + 4
  · rw [if_pos h, if_pos (by omega)]
    have e : k / 5 = j := by omega
    rw [e]
  · rw [if_neg h]
    by_cases h2 : k % 5 = 4 ∧ k / 5 < j
    · rw [if_pos h2, if_pos (by omega)]
    · rw [if_neg h2, if_neg (by omega)]
theorem sTe_0 (T B : Nat → Int32) (m e : Nat) : sTe T m e 0 B = B := by
  funext k
  exact if_neg (by omega)
theorem sTe_sTe (T B : Nat → Int32) (m e e' n : Nat) : sTe T m e n (sTe T m e' n B) = sTe T m e n B := by
  funext k
  unfold sTe
  by_cases h : k % 5 = 4 ∧ k / 5 < n
  · rw [if_pos h, if_pos h]
  · rw [if_neg h, if_neg h, if_neg h]
theorem sTe_C {F T : Nat → Int32} {n m : Nat} (C : zTc F T n m) (hm : 0 < m) (e : Nat) (B : Nat → Int32) : zTc F (sTe T m e n B) n m := by
  refine ⟨C.1, C.2.1, C.2.2.1, C.2.2.2.1, fun t ht => ⟨(sSrv T t + e) % m, Nat.mod_lt _ hm, ?_⟩⟩
  unfold sTe
  rw [if_pos (by omega)]
  have e1 : (5 * t + 4) / 5 = t := by omega
  rw [e1]
def sTuF (T V G : Nat → Int32) (n m y e : Nat) : Int32 := zsum (sOwnF (sTe T m e n T) (sGv (sTe T m e n T) V G) (nI y)) n
def sTu (T V G : Nat → Int32) (n m y N : Nat) : Int32 := zsum (sTuF T V G n m y) N
theorem nI_smod {a b m : Nat} (hm : 0 < m) (hm4 : m ≤ 4) (h : a + b < 2147483648) : nI a + nI b - (nI a + nI b) / nI m * nI m = nI ((a + b) % m) := by
  rw [nI_add]
  exact pk_rem (by omega) hm (by omega)
theorem q_tu1 {d n m e N y : Nat} {w : zM} {F B V G gv : Nat → Int32} {s : Int32} (C : zTc F (w.1 2) n m) (C1 : zHc w 1 n m) (he : e < 100) (hm : 0 < m) : ∀ k j, j + k = n → den (d + 5) 2028 34 [some (.ref 13), some (.ref 1), some (.int (nI y)), some (.int (nI N)), some (.int (nI m)), some (.int s), some (.int (nI e)), some (.int (nI j))] [] (zO w F (sTe (w.1 2) m e j B) V G gv) = den (d + 5) 2028 71 [some (.ref 13), some (.ref 1), some (.int (nI y)), some (.int (nI N)), some (.int (nI m)), some (.int s), some (.int (nI e)), some (.int (nI n))] [] (zO w F (sTe (w.1 2) m e n B) V G gv) := by
  have hn8 : n ≤ 8 := C.2.1
  have hm4 : m ≤ 4 := C.2.2.2.1
  have tc : ∀ T, cal (d + 4) 1002 [.ref 1] (zO w F T V G gv) = some (some (.int (nI n)), zO w F T V G gv) := by
    intro T
    have e1 : (zO w F T V G gv).1 1 3 = nI n := by rw [zO_n _ _ _ _ _ _ (by decide)]; exact C1.2.1
    simp only [c_1002, e_1002_0, e_1002_1, e_1002_4, zk_int, zk_ref, zk_null, zk_none, zk_long, zisR_r, zisR_n, zcl_int, zcl_ref, zcl_null, zpush_s, zpush_n, zbs, zbn, true_or, or_true, not_false_eq_true, not_true_eq_false, ↓reduceIte, and_self, and_true, true_and, zt_1, e1]
  intro k
  induction k with
  | zero =>
    intro j hj
    have e1 : j = n := by omega
    subst e1
    have l1 := nI_le_n (Nat.le_refl j) (by omega)
    rw [e_2028_34]
    simp only [e_2028_36, e_2028_37, e_2028_40, zk_int, zk_ref, zk_null, zk_none, zk_long, zisR_r, zisR_n, zcl_int, zcl_ref, zcl_null, zpush_s, zpush_n, zbs, zbn, true_or, or_true, not_false_eq_true, not_true_eq_false, ↓reduceIte, and_self, and_true, true_and, zt_1, tc, l1]
  | succ k ih =>
    intro j hj
    have hjn : j < n := by omega
    have l1 := nI_ge_f hjn (by omega)
    obtain ⟨x, hx, hx2⟩ := C.2.2.2.2 j hjn
    have es : sSrv (w.1 2) j = x := by unfold sSrv; rw [hx2, nI_clamp (by omega)]
    have q1 := fun T => q_tablePart_4 (d := d + 3) (w := zO w F T V G gv) (zHc_O C1) hjn
    have e2 : ∀ T, (zO w F T V G gv).1 (1 + 1) = w.1 2 := fun T => zO_n _ _ _ _ _ _ (by decide)
    simp only [e2, hx2] at q1
    have q2 := sTe_s (w.1 2) B m e j
    rw [es] at q2
    have q3 := fun T v => t_srv (d := d + 2) (w := w) (F := F) (T := T) (V := V) (G := G) (gv := gv) (t := j) (v := v) (by omega)
    have q4 := nI_smod (a := x) (b := e) hm hm4 (by omega)
    have z := nI_ne0' hm (by omega)
    rw [e_2028_34]
    simp only [c_2028, e_2028_0, e_2028_1, e_2028_4, e_2028_5, e_2028_8, e_2028_9, e_2028_12, e_2028_14, e_2028_15, e_2028_17, e_2028_18, e_2028_20, e_2028_22, e_2028_23, e_2028_26, e_2028_28, e_2028_31, e_2028_32, e_2028_36, e_2028_37, e_2028_40, e_2028_43, e_2028_44, e_2028_47, e_2028_49, e_2028_50, e_2028_52, e_2028_53, e_2028_56, e_2028_58, e_2028_59, e_2028_61, e_2028_62, e_2028_65, e_2028_68, e_2028_72, e_2028_75, e_2028_78, e_2028_80, e_2028_81, e_2028_84, e_2028_85, e_2028_88, e_2028_89, e_2028_91, e_2028_94, e_2028_97, e_2028_99, zk_int, zk_ref, zk_null, zk_none, zk_long, zisR_r, zisR_n, zcl_int, zcl_ref, zcl_null, zpush_s, zpush_n, zbs, zbn, true_or, or_true, not_false_eq_true, not_true_eq_false, ↓reduceIte, and_self, and_true, true_and, zt_13, zr_13_0, zt_14, zt_1, tc, l1, q1, q3, q4, q2, z, nI_1]
    exact ih (j + 1) (by omega)
theorem q_tu2 {d n m N y : Nat} {w : zM} {F V G : Nat → Int32} (C : zTc F (w.1 2) n m) (C1 : zHc w 1 n m) (hN : N ≤ 30) (hm : 0 < m) (hy : y < m) : ∀ k e gv o7 B, e + k = N → (B = w.1 2 ∨ ∃ e', B = sTe (w.1 2) m e' n (w.1 2)) → ∃ B2 gv2, (B2 = w.1 2 ∨ ∃ e2, B2 = sTe (w.1 2) m e2 n (w.1 2)) ∧ den (d + 5) 2028 20 [some (.ref 13), some (.ref 1), some (.int (nI y)), some (.int (nI N)), some (.int (nI m)), some (.int (sTu (w.1 2) V G n m y e)), some (.int (nI e)), o7] [] (zO w F B V G gv) = some (some (.int (sTu (w.1 2) V G n m y N)), zO w F B2 V G gv2) := by
  have hn8 : n ≤ 8 := C.2.1
  have hm4 : m ≤ 4 := C.2.2.2.1
  intro k
  induction k with
  | zero =>
    intro e gv o7 B he hB
    have e1 : e = N := by omega
    subst e1
    have l1 := nI_le_n (Nat.le_refl e) (by omega)
    refine ⟨B, gv, hB, ?_⟩
    simp only [c_2028, e_2028_0, e_2028_1, e_2028_4, e_2028_5, e_2028_8, e_2028_9, e_2028_12, e_2028_14, e_2028_15, e_2028_17, e_2028_18, e_2028_20, e_2028_22, e_2028_23, e_2028_26, e_2028_28, e_2028_31, e_2028_32, e_2028_36, e_2028_37, e_2028_40, e_2028_43, e_2028_44, e_2028_47, e_2028_49, e_2028_50, e_2028_52, e_2028_53, e_2028_56, e_2028_58, e_2028_59, e_2028_61, e_2028_62, e_2028_65, e_2028_68, e_2028_72, e_2028_75, e_2028_78, e_2028_80, e_2028_81, e_2028_84, e_2028_85, e_2028_88, e_2028_89, e_2028_91, e_2028_94, e_2028_97, e_2028_99, zk_int, zk_ref, zk_null, zk_none, zk_long, zisR_r, zisR_n, zcl_int, zcl_ref, zcl_null, zpush_s, zpush_n, zbs, zbn, true_or, or_true, not_false_eq_true, not_true_eq_false, ↓reduceIte, and_self, and_true, true_and, l1]
  | succ k ih =>
    intro e gv o7 B he hB
    have heN : e < N := by omega
    have l1 := nI_ge_f heN (by omega)
    have l2 := nI_nle0 hm (by omega)
    have k1 := q_tu1 (d := d) (N := N) (y := y) (w := w) (B := B) (V := V) (G := G) (gv := gv) (s := sTu (w.1 2) V G n m y e) C C1 (e := e) (by omega) hm n 0 (by omega)
    rw [sTe_0] at k1
    have eB : sTe (w.1 2) m e n B = sTe (w.1 2) m e n (w.1 2) := by
      rcases hB with rfl | ⟨e', rfl⟩
      · rfl
      · exact sTe_sTe _ _ _ _ _ _
    rw [eB] at k1
    have e0 : nI 0 = 0 := nI_0
    rw [e0] at k1
    have C' := sTe_C C hm e (w.1 2)
    have k2 := t_reckon (d := d) (w := w) (V := V) (G := G) (gv := gv) C'
    have k3 := t_ownOf (d := d + 2) (w := w) (V := V) (G := G) (gv := gv) (y := nI y) C'
    have k4 : sTu (w.1 2) V G n m y e + zsum (sOwnF (sTe (w.1 2) m e n (w.1 2)) (sGv (sTe (w.1 2) m e n (w.1 2)) V G) (nI y)) n = sTu (w.1 2) V G n m y (e + 1) := rfl
    obtain ⟨B2, gv2, hB2, h⟩ := ih (e + 1) (zcpy (sGv (sTe (w.1 2) m e n (w.1 2)) V G) gv n) (some (.int (nI n))) (sTe (w.1 2) m e n (w.1 2)) (by omega) (Or.inr ⟨e, rfl⟩)
    refine ⟨B2, gv2, hB2, ?_⟩
    rw [← h, e_2028_20]
    simp only [e_2028_22, e_2028_23, e_2028_26, e_2028_28, e_2028_31, e_2028_32, zk_int, zk_ref, zk_null, zk_none, zk_long, zisR_r, zisR_n, zcl_int, zcl_ref, zcl_null, zpush_s, zpush_n, zbs, zbn, true_or, or_true, not_false_eq_true, not_true_eq_false, ↓reduceIte, and_self, and_true, true_and, l1, l2, k1]
    simp only [c_2028, e_2028_0, e_2028_1, e_2028_4, e_2028_5, e_2028_8, e_2028_9, e_2028_12, e_2028_14, e_2028_15, e_2028_17, e_2028_18, e_2028_22, e_2028_23, e_2028_26, e_2028_28, e_2028_31, e_2028_32, e_2028_36, e_2028_37, e_2028_40, e_2028_43, e_2028_44, e_2028_47, e_2028_49, e_2028_50, e_2028_52, e_2028_53, e_2028_56, e_2028_58, e_2028_59, e_2028_61, e_2028_62, e_2028_65, e_2028_68, e_2028_71, e_2028_72, e_2028_75, e_2028_78, e_2028_80, e_2028_81, e_2028_84, e_2028_85, e_2028_88, e_2028_89, e_2028_91, e_2028_94, e_2028_97, e_2028_99, zk_int, zk_ref, zk_null, zk_none, zk_long, zisR_r, zisR_n, zcl_int, zcl_ref, zcl_null, zpush_s, zpush_n, zbs, zbn, true_or, or_true, not_false_eq_true, not_true_eq_false, ↓reduceIte, and_self, and_true, true_and, zt_13, zr_13_0, zt_14, k2, k3, k4, nI_1]
theorem q_turnsOf {d n m N y : Nat} {w : zM} (H1 : zHz w 1) (H14 : zHz w 14) (C : zTc (w.1 1) (w.1 2) n m) (C1 : zHc w 1 n m) (hN : N ≤ 30) (hy : y < m) : ∃ B2 gv2, (B2 = w.1 2 ∨ ∃ e2, B2 = sTe (w.1 2) m e2 n (w.1 2)) ∧ cal (d + 5) 2028 [.ref 13, .ref 1, .int (nI y), .int (nI N)] w = some (some (.int (sTu (w.1 2) (w.1 3) (w.1 4) n m y N)), zO w (w.1 1) B2 (w.1 3) (w.1 4) gv2) := by
  obtain ⟨B2, gv2, hB2, h⟩ := q_tu2 (d := d) (V := w.1 3) (G := w.1 4) C C1 hN (by omega) hy N 0 (w.1 18) none (w.1 2) (by omega) (Or.inl rfl)
  refine ⟨B2, gv2, hB2, ?_⟩
  have e0 : nI 0 = 0 := nI_0
  have e1 : sTu (w.1 2) (w.1 3) (w.1 4) n m y 0 = 0 := rfl
  rw [e1, e0] at h
  have wc : cal (d + 4) 1003 [.ref 1] (zO w (w.1 1) (w.1 2) (w.1 3) (w.1 4) (w.1 18)) = some (some (.int (nI m)), zO w (w.1 1) (w.1 2) (w.1 3) (w.1 4) (w.1 18)) := by
    have e1 : (zO w (w.1 1) (w.1 2) (w.1 3) (w.1 4) (w.1 18)).1 1 4 = nI m := by rw [zO_n _ _ _ _ _ _ (by decide)]; exact C1.2.2.2.1
    simp only [c_1003, e_1003_0, e_1003_1, e_1003_4, zk_int, zk_ref, zk_null, zk_none, zk_long, zisR_r, zisR_n, zcl_int, zcl_ref, zcl_null, zpush_s, zpush_n, zbs, zbn, true_or, or_true, not_false_eq_true, not_true_eq_false, ↓reduceIte, and_self, and_true, true_and, zt_1, e1]
  simp only [c_2028, e_2028_0, e_2028_1, e_2028_4, e_2028_5, e_2028_8, e_2028_9, e_2028_12, e_2028_14, e_2028_15, e_2028_17, e_2028_18, e_2028_22, e_2028_23, e_2028_26, e_2028_28, e_2028_31, e_2028_32, e_2028_36, e_2028_37, e_2028_40, e_2028_43, e_2028_44, e_2028_47, e_2028_49, e_2028_50, e_2028_52, e_2028_53, e_2028_56, e_2028_58, e_2028_59, e_2028_61, e_2028_62, e_2028_65, e_2028_68, e_2028_72, e_2028_75, e_2028_78, e_2028_80, e_2028_81, e_2028_84, e_2028_85, e_2028_88, e_2028_89, e_2028_91, e_2028_94, e_2028_97, e_2028_99, zk_int, zk_ref, zk_null, zk_none, zk_long, zisR_r, zisR_n, zcl_int, zcl_ref, zcl_null, zpush_s, zpush_n, zbs, zbn, true_or, or_true, not_false_eq_true, not_true_eq_false, ↓reduceIte, and_self, and_true, true_and, zt_13, zr_13_0, zt_14, zt_1, t_become H1 H14, wc]
  exact h
def sLa (T V G : Nat → Int32) (n m a : Nat) : Int32 := sLv T V (upd G 1 (nI a)) n m
theorem q_la {d n m : Nat} {w : zM} {F T V G : Nat → Int32} (C : zTc F T n m) : ∀ k a x gv, a + k = 31 →
    (∀ a0, a ≤ a0 → a0 < 31 → sLa T V G n m a0 = 0 → (∀ a', a ≤ a' → a' < a0 → ¬ sLa T V G n m a' = 0) → ∃ x2 gv2, den (d + 5) 2030 10 [some (.ref 13), some (.ref 1), some (.int (nI a))] [] (zO w F T V (upd G 1 x) gv) = some (some (.int (nI a0)), zO w F T V (upd G 1 x2) gv2)) ∧
    ((∀ a', a ≤ a' → a' < 31 → ¬ sLa T V G n m a' = 0) → ∃ x2 gv2, den (d + 5) 2030 10 [some (.ref 13), some (.ref 1), some (.int (nI a))] [] (zO w F T V (upd G 1 x) gv) = some (some (.int (-1)), zO w F T V (upd G 1 x2) gv2)) := by
  have e30 : ztab 1005 1 = 30 := by decide +kernel
  have q30 : ∀ w, cal (d + 4) 5054 [.ref 1005, .int 1] w = some (some (.int 30), w) := fun w => (q_atS (j := 1) zt_1005 (by rw [zn_1005]; decide) (by rw [zn_1005]; decide)).trans (congrArg (fun z => some (some (Value.int z), w)) e30)
  intro k
  induction k with
  | zero =>
    intro a x gv ha
    refine ⟨fun a0 h1 h2 => by omega, fun _ => ⟨x, gv, ?_⟩⟩
    have e1 : a = 31 := by omega
    subst e1
    have l1 : (30 : Int32) < nI 31 := by decide
    simp only [c_2030, e_2030_0, e_2030_1, e_2030_4, e_2030_5, e_2030_8, e_2030_9, e_2030_10, e_2030_11, e_2030_14, e_2030_15, e_2030_18, e_2030_21, e_2030_22, e_2030_25, e_2030_26, e_2030_27, e_2030_30, e_2030_31, e_2030_34, e_2030_37, e_2030_38, e_2030_41, e_2030_44, e_2030_47, e_2030_48, e_2030_49, e_2030_52, e_2030_55, e_2030_56, zk_int, zk_ref, zk_null, zk_none, zk_long, zisR_r, zisR_n, zcl_int, zcl_ref, zcl_null, zpush_s, zpush_n, zbs, zbn, true_or, or_true, not_false_eq_true, not_true_eq_false, ↓reduceIte, and_self, and_true, true_and, q30, l1]
  | succ k ih =>
    intro a x gv ha
    have l1 : ((30 : Int32) < nI a) = False := nI_lt_f (a := 30) (b := a) (by omega) (by omega)
    obtain ⟨i1, i2⟩ := ih (a + 1) (nI a) (zcpy (sGv T V (upd G 1 (nI a))) gv n) (by omega)
    have k2 := t_reckon (d := d) (w := w) (V := V) (G := upd G 1 (nI a)) (gv := gv) C
    have k3 := t_leaver (d := d) (w := w) (V := V) (G := upd G 1 (nI a)) (gv := gv) C
    by_cases hc : sLa T V G n m a = 0
    · refine ⟨fun a0 h1 h2 h3 h4 => ?_, fun h => absurd hc (h a (Nat.le_refl _) (by omega))⟩
      have e7 : a0 = a := by
        rcases Nat.lt_or_ge a a0 with h | h
        · exact absurd hc (h4 a (Nat.le_refl _) h)
        · omega
      subst e7
      have hc' : sLv T V (upd G 1 (nI a0)) n m = 0 := hc
      refine ⟨nI a0, zcpy (sGv T V (upd G 1 (nI a0))) gv n, ?_⟩
      rw [e_2030_10]
      simp only [c_2030, e_2030_0, e_2030_1, e_2030_4, e_2030_5, e_2030_8, e_2030_9, e_2030_11, e_2030_14, e_2030_15, e_2030_18, e_2030_21, e_2030_22, e_2030_25, e_2030_26, e_2030_27, e_2030_30, e_2030_31, e_2030_34, e_2030_37, e_2030_38, e_2030_41, e_2030_44, e_2030_47, e_2030_48, e_2030_49, e_2030_52, e_2030_55, e_2030_56, zk_int, zk_ref, zk_null, zk_none, zk_long, zisR_r, zisR_n, zcl_int, zcl_ref, zcl_null, zpush_s, zpush_n, zbs, zbn, true_or, or_true, not_false_eq_true, not_true_eq_false, ↓reduceIte, and_self, and_true, true_and, zt_13, zr_13_0, zt_14, q30, l1, t_settle1, upd_u, k2, k3, hc']
    · have hc' : ¬ sLv T V (upd G 1 (nI a)) n m = 0 := hc
      have step : ∀ z, den (d + 5) 2030 10 [some (.ref 13), some (.ref 1), some (.int (nI (a + 1)))] [] (zO w F T V (upd G 1 (nI a)) (zcpy (sGv T V (upd G 1 (nI a))) gv n)) = z → den (d + 5) 2030 10 [some (.ref 13), some (.ref 1), some (.int (nI a))] [] (zO w F T V (upd G 1 x) gv) = z := by
        intro z hz
        rw [e_2030_10]
        simp only [c_2030, e_2030_0, e_2030_1, e_2030_4, e_2030_5, e_2030_8, e_2030_9, e_2030_11, e_2030_14, e_2030_15, e_2030_18, e_2030_21, e_2030_22, e_2030_25, e_2030_26, e_2030_27, e_2030_30, e_2030_31, e_2030_34, e_2030_37, e_2030_38, e_2030_41, e_2030_44, e_2030_47, e_2030_48, e_2030_49, e_2030_52, e_2030_55, e_2030_56, zk_int, zk_ref, zk_null, zk_none, zk_long, zisR_r, zisR_n, zcl_int, zcl_ref, zcl_null, zpush_s, zpush_n, zbs, zbn, true_or, or_true, not_false_eq_true, not_true_eq_false, ↓reduceIte, and_self, and_true, true_and, zt_13, zr_13_0, zt_14, q30, l1, t_settle1, upd_u, k2, k3, hc', nI_1]
        exact hz
      refine ⟨fun a0 h1 h2 h3 h4 => ?_, fun h => ?_⟩
      · have h5 : a + 1 ≤ a0 := by
          rcases Nat.lt_or_ge a a0 with h | h
          · exact h
          · have e7 : a0 = a := by omega
            subst e7
            exact absurd h3 hc
        obtain ⟨G2, gv2, h6⟩ := i1 a0 h5 h2 h3 (fun r' g1 g2 => h4 r' (by omega) g2)
        exact ⟨G2, gv2, step _ h6⟩
      · obtain ⟨G2, gv2, h6⟩ := i2 (fun r' g1 g2 => h r' (by omega) g2)
        exact ⟨G2, gv2, step _ h6⟩
theorem q_la0 {d : Nat} {w : zM} (H1 : zHz w 1) (H14 : zHz w 14) : cal (d + 5) 2030 [.ref 13, .ref 1] w = den (d + 5) 2030 10 [some (.ref 13), some (.ref 1), some (.int (nI 0))] [] (zO w (w.1 1) (w.1 2) (w.1 3) (upd (w.1 4) 1 (w.1 4 1)) (w.1 18)) := by
  have e0 : nI 0 = 0 := nI_0
  rw [upd_id, e0]
  simp only [c_2030, e_2030_0, e_2030_1, e_2030_4, e_2030_5, e_2030_8, e_2030_9, e_2030_11, e_2030_14, e_2030_15, e_2030_18, e_2030_21, e_2030_22, e_2030_25, e_2030_26, e_2030_27, e_2030_30, e_2030_31, e_2030_34, e_2030_37, e_2030_38, e_2030_41, e_2030_44, e_2030_47, e_2030_48, e_2030_49, e_2030_52, e_2030_55, e_2030_56, zk_int, zk_ref, zk_null, zk_none, zk_long, zisR_r, zisR_n, zcl_int, zcl_ref, zcl_null, zpush_s, zpush_n, zbs, zbn, true_or, or_true, not_false_eq_true, not_true_eq_false, ↓reduceIte, and_self, and_true, true_and, zt_13, zr_13_0, zt_14, t_become H1 H14]
theorem q_leastAdded {d n m a0 : Nat} {w : zM} (H1 : zHz w 1) (H14 : zHz w 14) (C : zTc (w.1 1) (w.1 2) n m) (ha : a0 < 31) (h0 : sLa (w.1 2) (w.1 3) (w.1 4) n m a0 = 0) (h1 : ∀ a', a' < a0 → ¬ sLa (w.1 2) (w.1 3) (w.1 4) n m a' = 0) : ∃ x2 gv2, cal (d + 5) 2030 [.ref 13, .ref 1] w = some (some (.int (nI a0)), zO w (w.1 1) (w.1 2) (w.1 3) (upd (w.1 4) 1 x2) gv2) := by
  obtain ⟨G2, gv2, h⟩ := (q_la (d := d) (w := w) (V := w.1 3) (G := w.1 4) C 31 0 (w.1 4 1) (w.1 18) (by omega)).1 a0 (Nat.zero_le _) ha h0 (fun a' _ h => h1 a' h)
  exact ⟨G2, gv2, (q_la0 H1 H14).trans h⟩
theorem q_leastAdded_0 {d n m : Nat} {w : zM} (H1 : zHz w 1) (H14 : zHz w 14) (C : zTc (w.1 1) (w.1 2) n m) (h1 : ∀ a', a' < 31 → ¬ sLa (w.1 2) (w.1 3) (w.1 4) n m a' = 0) : ∃ x2 gv2, cal (d + 5) 2030 [.ref 13, .ref 1] w = some (some (.int (-1)), zO w (w.1 1) (w.1 2) (w.1 3) (upd (w.1 4) 1 x2) gv2) := by
  obtain ⟨G2, gv2, h⟩ := (q_la (d := d) (w := w) (V := w.1 3) (G := w.1 4) C 31 0 (w.1 4 1) (w.1 18) (by omega)).2 (fun a' _ h => h1 a' h)
  exact ⟨G2, gv2, (q_la0 H1 H14).trans h⟩
