section MP2
variable {d n m : Nat} {w : zM} {T V G : Nat → Int32}
theorem TW_0 (x : Int32) : TW w (w.1 56, x, w.1 50 41, w.1 77) = zuA w 50 (upd (w.1 50) 40 x) := by
  unfold TW
  have e1 : (zuA w 56 (w.1 56)) = w := zA_id _ _
  have e2 : upd (upd (w.1 50) 40 x) 41 (w.1 50 41) = upd (w.1 50) 40 x := by
    rw [upd_c _ _ _ (by decide : (40 : Nat) ≠ 41), upd_id]
  rw [e1, zA_id, e2]
theorem TW_kp {K f : Nat → Int32} {x y : Int32} : zKp w (TW (zuA w 76 K) (w.1 56, x, y, f)) := by
  have n56 : (zuA w 76 K).1 56 = w.1 56 := zA_n _ _ (by decide)
  have n50 : (zuA w 76 K).1 50 = w.1 50 := zA_n _ _ (by decide)
  unfold TW
  dsimp only
  rw [← n56, zA_id]
  refine zKp_t (zKp_A (a := 76) (by unfold zKa; omega) (by omega) (by omega) (by omega)) (zKp_t (zKp_A (a := 77) (by unfold zKa; omega) (by omega) (by omega) (by omega)) (zKp_50 (fun k hk => ?_)))
  rw [u_ne (by omega), u_ne (by omega), zA_n _ _ (by decide), zA_n _ _ (by decide), n50]
theorem m_td_a {k t ev : Int32} : den d 6072 40 [some (.ref 50), some (.int k), some (.int t), some (.int ev), some (.int 0)] [] w = den d 6072 67 [some (.ref 50), some (.int k), some (.int t), some (.int ev), some (.int 8)] [] (zuA w 76 (zcpy (w.1 56) (w.1 76) 8)) := by
  have n56 : ∀ F, (zuA w 76 F).1 56 = w.1 56 := fun F => zA_n _ _ (by decide)
  have key : ∀ r j, j + r = 8 → den d 6072 40 [some (.ref 50), some (.int k), some (.int t), some (.int ev), some (.int (nI j))] [] (zuA w 76 (zcpy (w.1 56) (w.1 76) j)) = den d 6072 67 [some (.ref 50), some (.int k), some (.int t), some (.int ev), some (.int 8)] [] (zuA w 76 (zcpy (w.1 56) (w.1 76) 8)) := by
    intro r
    induction r with
    | zero =>
      intro j hj
      have e : j = 8 := by omega
      subst e
      have g1 : ((8 : Int32) ≤ nI 8) = True := eq_true (by decide)
      rw [e_6072_40]
      simp only [e_6072_42, e_6072_44, zk_int, zk_ref, zk_null, zk_none, zk_long, zisR_r, zisR_n, zcl_int, zcl_ref, zcl_null, zpush_s, zpush_n, zbs, zbn, true_or, or_true, not_false_eq_true, not_true_eq_false, ↓reduceIte, and_self, and_true, true_and, g1]
      rfl
    | succ r ih =>
      intro j hj
      have hj8 : j < 8 := by omega
      have g1 : ((8 : Int32) ≤ nI j) = False := nI_ge_f (b := 8) hj8 (by decide)
      have hz := zis_nI hj8 (by decide)
      have hc := nI_clamp (n := j) (by omega)
      rw [e_6072_40]
      simp only [c_6072, e_6072_0, e_6072_1, e_6072_2, e_6072_5, e_6072_6, e_6072_7, e_6072_10, e_6072_13, e_6072_14, e_6072_15, e_6072_18, e_6072_19, e_6072_20, e_6072_21, e_6072_24, e_6072_25, e_6072_27, e_6072_30, e_6072_31, e_6072_33, e_6072_36, e_6072_37, e_6072_38, e_6072_42, e_6072_44, e_6072_47, e_6072_48, e_6072_51, e_6072_53, e_6072_54, e_6072_57, e_6072_59, e_6072_60, e_6072_61, e_6072_64, e_6072_68, e_6072_69, e_6072_72, e_6072_73, e_6072_74, e_6072_75, e_6072_76, e_6072_79, e_6072_80, e_6072_82, e_6072_84, e_6072_86, e_6072_89, e_6072_90, e_6072_93, e_6072_95, e_6072_96, e_6072_99, e_6072_101, e_6072_102, e_6072_103, e_6072_106, e_6072_109, e_6072_110, e_6072_113, e_6072_116, e_6072_117, e_6072_119, e_6072_122, e_6072_123, e_6072_124, e_6072_125, e_6072_128, e_6072_129, e_6072_132, e_6072_133, e_6072_134, e_6072_137, e_6072_138, e_6072_141, e_6072_142, e_6072_145, e_6072_146, e_6072_149, e_6072_150, e_6072_153, zk_int, zk_ref, zk_null, zk_none, zk_long, zisR_r, zisR_n, zcl_int, zcl_ref, zcl_null, zpush_s, zpush_n, zbs, zbn, true_or, or_true, not_false_eq_true, not_true_eq_false, ↓reduceIte, and_self, and_true, true_and, zt_50, zr_50_13, zt_56, zn_56, zo_56, zl_56, zq_56, zr_50_38, zt_76, zn_76, zo_76, zl_76, zq_76, g1, hz, hc, zui_A, zA_s, zA_A, n56, zcpy_s, nI_1]
      exact ih (j + 1) (by omega)
  have k0 := key 8 0 (by omega)
  rw [zcpy_0, zA_id, nI_0] at k0
  exact k0
theorem m_td_b {k t ev : Int32} {w1 : zM} {s : zSt4} : den d 6072 82 [some (.ref 50), some (.int k), some (.int t), some (.int ev), some (.int 0)] [] (TW w1 s) = den d 6072 109 [some (.ref 50), some (.int k), some (.int t), some (.int ev), some (.int 8)] [] (TW w1 (zcpy (w1.1 76) s.1 8, s.2)) := by
  have n76 : ∀ s, (TW w1 s).1 76 = w1.1 76 := fun s => by unfold TW; rw [zA_n _ _ (by decide), zA_n _ _ (by decide), zA_n _ _ (by decide)]
  have key : ∀ r j, j + r = 8 → den d 6072 82 [some (.ref 50), some (.int k), some (.int t), some (.int ev), some (.int (nI j))] [] (TW w1 (zcpy (w1.1 76) s.1 j, s.2)) = den d 6072 109 [some (.ref 50), some (.int k), some (.int t), some (.int ev), some (.int 8)] [] (TW w1 (zcpy (w1.1 76) s.1 8, s.2)) := by
    intro r
    induction r with
    | zero =>
      intro j hj
      have e : j = 8 := by omega
      subst e
      have g1 : ((8 : Int32) ≤ nI 8) = True := eq_true (by decide)
      rw [e_6072_82]
      simp only [e_6072_84, e_6072_86, zk_int, zk_ref, zk_null, zk_none, zk_long, zisR_r, zisR_n, zcl_int, zcl_ref, zcl_null, zpush_s, zpush_n, zbs, zbn, true_or, or_true, not_false_eq_true, not_true_eq_false, ↓reduceIte, and_self, and_true, true_and, g1]
      rfl
    | succ r ih =>
      intro j hj
      have hj8 : j < 8 := by omega
      have g1 : ((8 : Int32) ≤ nI j) = False := nI_ge_f (b := 8) hj8 (by decide)
      have hz := zis_nI hj8 (by decide)
      have hc := nI_clamp (n := j) (by omega)
      rw [e_6072_82]
      simp only [c_6072, e_6072_0, e_6072_1, e_6072_2, e_6072_5, e_6072_6, e_6072_7, e_6072_10, e_6072_13, e_6072_14, e_6072_15, e_6072_18, e_6072_19, e_6072_20, e_6072_21, e_6072_24, e_6072_25, e_6072_27, e_6072_30, e_6072_31, e_6072_33, e_6072_36, e_6072_37, e_6072_38, e_6072_40, e_6072_42, e_6072_44, e_6072_47, e_6072_48, e_6072_51, e_6072_53, e_6072_54, e_6072_57, e_6072_59, e_6072_60, e_6072_61, e_6072_64, e_6072_67, e_6072_68, e_6072_69, e_6072_72, e_6072_73, e_6072_74, e_6072_75, e_6072_76, e_6072_79, e_6072_80, e_6072_84, e_6072_86, e_6072_89, e_6072_90, e_6072_93, e_6072_95, e_6072_96, e_6072_99, e_6072_101, e_6072_102, e_6072_103, e_6072_106, e_6072_110, e_6072_113, e_6072_116, e_6072_117, e_6072_119, e_6072_122, e_6072_123, e_6072_124, e_6072_125, e_6072_128, e_6072_129, e_6072_132, e_6072_133, e_6072_134, e_6072_137, e_6072_138, e_6072_141, e_6072_142, e_6072_145, e_6072_146, e_6072_149, e_6072_150, e_6072_153, zk_int, zk_ref, zk_null, zk_none, zk_long, zisR_r, zisR_n, zcl_int, zcl_ref, zcl_null, zpush_s, zpush_n, zbs, zbn, true_or, or_true, not_false_eq_true, not_true_eq_false, ↓reduceIte, and_self, and_true, true_and, zt_50, zr_50_13, zt_56, zn_56, zo_56, zl_56, zq_56, zr_50_38, zt_76, zn_76, zo_76, zl_76, zq_76, g1, hz, hc, zui_A, TW_56, n76, TW_u56, zcpy_s, nI_1]
      exact ih (j + 1) (by omega)
  have k0 := key 8 0 (by omega)
  rw [zcpy_0, nI_0] at k0
  exact k0
theorem m_td_h {k t ev : Int32} (C : zMc w T V G n m) (hev : ev = 0 ∨ ev = 1) : ∃ w2, zKp w w2 ∧ w2.1 50 40 = (tF n m k ev T V G n 0 (w.1 56, 0, w.1 50 41, w.1 77)).2.1 ∧ w2.1 50 41 = (tF n m k ev T V G n 0 (w.1 56, 0, w.1 50 41, w.1 77)).2.2.1 ∧ w2.1 77 = (tF n m k ev T V G n 0 (w.1 56, 0, w.1 50 41, w.1 77)).2.2.2 ∧ den (d + 30) 6072 37 [some (.ref 50), some (.int k), some (.int t), some (.int ev), none] [] w = den (d + 30) 6072 109 [some (.ref 50), some (.int k), some (.int t), some (.int ev), some (.int 8)] [] w2 := by
  have hn8 := C.2.1.2.2.1
  have CK : zMc (zuA w 76 (zcpy (w.1 56) (w.1 76) 8)) T V G n m := MT_C0 _ C
  have n56 : (zuA w 76 (zcpy (w.1 56) (w.1 76) 8)).1 56 = w.1 56 := zA_n _ _ (by decide)
  have n50 : (zuA w 76 (zcpy (w.1 56) (w.1 76) 8)).1 50 = w.1 50 := zA_n _ _ (by decide)
  have n77 : (zuA w 76 (zcpy (w.1 56) (w.1 76) 8)).1 77 = w.1 77 := zA_n _ _ (by decide)
  have n76 : (zuA w 76 (zcpy (w.1 56) (w.1 76) 8)).1 76 = zcpy (w.1 56) (w.1 76) 8 := zA_s _ _ _
  have tr := m_tries (d := d + (8 - n)) (k := k) CK hev n 0 (w.1 56, 0, w.1 50 41, w.1 77) (by omega) (fun i hi => by omega) (fun i _ => by rw [n56]) (Or.inl rfl)
  have ed : d + (8 - n) + 21 + n = d + 29 := by omega
  rw [ed, nI_0] at tr
  have t0 := TW_0 (w := zuA w 76 (zcpy (w.1 56) (w.1 76) 8)) 0
  rw [n56, n77, n50] at t0
  rw [t0] at tr
  have kp := (tF_k (n := n) (m := m) (k := k) (ev := ev) (T := T) (V := V) (G := G) n 0 (w.1 56, 0, w.1 50 41, w.1 77) (by omega) (Or.inl rfl)).2
  have ta := m_td_a (d := d + 30) (w := w) (k := k) (t := t) (ev := ev)
  have tb := m_td_b (d := d + 30) (w1 := zuA w 76 (zcpy (w.1 56) (w.1 76) 8)) (s := tF n m k ev T V G n 0 (w.1 56, 0, w.1 50 41, w.1 77)) (k := k) (t := t) (ev := ev)
  have eb : zcpy (zcpy (w.1 56) (w.1 76) 8) (tF n m k ev T V G n 0 (w.1 56, 0, w.1 50 41, w.1 77)).1 8 = w.1 56 := by
    funext i
    unfold zcpy
    by_cases h : i < 8
    · rw [if_pos h, if_pos h]
    · rw [if_neg h]; exact kp i (Or.inr (by omega))
  rw [n76, eb] at tb
  have z0 : (0 : Int32) = 0 ∨ (0 : Int32) = 1 := Or.inl rfl
  refine ⟨TW (zuA w 76 (zcpy (w.1 56) (w.1 76) 8)) (w.1 56, (tF n m k ev T V G n 0 (w.1 56, 0, w.1 50 41, w.1 77)).2), TW_kp, TW_fd _, TW_bt _, TW_77 _, ?_⟩
  simp only [e_6072_37, e_6072_38, zk_int, zk_ref, zk_null, zk_none, zk_long, zisR_r, zisR_n, zcl_int, zcl_ref, zcl_null, zpush_s, zpush_n, zbs, zbn, true_or, or_true, not_false_eq_true, not_true_eq_false, ↓reduceIte, and_self, and_true, true_and, ta]
  simp only [e_6072_67, e_6072_68, e_6072_69, e_6072_72, e_6072_73, e_6072_74, e_6072_75, e_6072_76, e_6072_79, e_6072_80, zk_int, zk_ref, zk_null, zk_none, zk_long, zisR_r, zisR_n, zcl_int, zcl_ref, zcl_null, zpush_s, zpush_n, zbs, zbn, true_or, or_true, not_false_eq_true, not_true_eq_false, ↓reduceIte, and_self, and_true, true_and, zt_50, z0, zui_A, n50, tr, tb]
def tFs (n m : Nat) (k ev : Int32) (w : zM) (T V G : Nat → Int32) : zSt4 := tF n m k ev T V G n 0 (w.1 56, 0, w.1 50 41, w.1 77)
theorem m_td_in {k t ev : Int32} (C : zMn w n m) (ht : t = -1 ∨ ∃ j, j < n ∧ t = nI j) (h1 : 1 ≤ k) (h8 : k ≤ 8) : cal (d + 30) 6072 [.ref 50, .int k, .int t, .int ev] w = den (d + 30) 6072 37 [some (.ref 50), some (.int k), some (.int t), some (.int ev), none] [] w := by
  have hn8 := C.2.2.1
  have g1 : (k < 1) = False := eq_false (Int32.not_lt.mpr h1)
  rcases ht with rfl | ⟨j, hj, rfl⟩
  · simp only [c_6072, e_6072_0, e_6072_1, e_6072_2, e_6072_19, e_6072_20, e_6072_21, e_6072_24, e_6072_25, e_6072_27, zk_int, zk_ref, zk_null, zk_none, zk_long, zisR_r, zisR_n, zcl_int, zcl_ref, zcl_null, zpush_s, zpush_n, zbs, zbn, true_or, or_true, not_false_eq_true, not_true_eq_false, ↓reduceIte, and_self, and_true, true_and, g1, h8]
  · have g2 := nI_neM (y := j) (by omega)
    have q1 := m_isTable (d := d + 29) C hj
    simp only [c_6072, e_6072_0, e_6072_1, e_6072_2, e_6072_5, e_6072_6, e_6072_7, e_6072_10, e_6072_19, e_6072_20, e_6072_21, e_6072_24, e_6072_25, e_6072_27, zk_int, zk_ref, zk_null, zk_none, zk_long, zisR_r, zisR_n, zcl_int, zcl_ref, zcl_null, zpush_s, zpush_n, zbs, zbn, true_or, or_true, not_false_eq_true, not_true_eq_false, ↓reduceIte, and_self, and_true, true_and, ie_0_1, ie_0_2, ie_0_3, ie_0_4, ie_0_5, ie_0_6, ie_0_7, ie_1_0, ie_1_2, ie_1_3, ie_1_4, ie_1_5, ie_1_6, ie_1_7, ie_2_0, ie_2_1, ie_2_3, ie_2_4, ie_2_5, ie_2_6, ie_2_7, ie_3_0, ie_3_1, ie_3_2, ie_3_4, ie_3_5, ie_3_6, ie_3_7, ie_4_0, ie_4_1, ie_4_2, ie_4_3, ie_4_5, ie_4_6, ie_4_7, ie_5_0, ie_5_1, ie_5_2, ie_5_3, ie_5_4, ie_5_6, ie_5_7, ie_6_0, ie_6_1, ie_6_2, ie_6_3, ie_6_4, ie_6_5, ie_6_7, ie_7_0, ie_7_1, ie_7_2, ie_7_3, ie_7_4, ie_7_5, ie_7_6, zt_50, g1, g2, q1, h8]
theorem m_told_5 {k t ev : Int32} (C : zMc w T V G n m) (hev : ev = 0 ∨ ev = 1) (ht : t = -1 ∨ ∃ j, j < n ∧ t = nI j) (h1 : 1 ≤ k) (h8 : k ≤ 8) (hf : (tFs n m k ev w T V G).2.1 = 0) : ∃ w2, zKp w w2 ∧ cal (d + 30) 6072 [.ref 50, .int k, .int t, .int ev] w = some (some (.int (-5)), mRf w2 5) := by
  obtain ⟨w2, k1, k2, k3, k4, k5⟩ := m_td_h (d := d) (k := k) (t := t) C hev
  have k2' : w2.1 50 40 = 0 := k2.trans hf
  have q2 := m_no (d := d + 29) (w := w2) (j := 5) (c := -5) (by decide) (by decide)
  refine ⟨w2, k1, ?_⟩
  rw [m_td_in C.2.1 ht h1 h8, k5]
  simp only [e_6072_109, e_6072_110, e_6072_113, e_6072_116, e_6072_117, e_6072_119, e_6072_122, zk_int, zk_ref, zk_null, zk_none, zk_long, zisR_r, zisR_n, zcl_int, zcl_ref, zcl_null, zpush_s, zpush_n, zbs, zbn, true_or, or_true, not_false_eq_true, not_true_eq_false, ↓reduceIte, and_self, and_true, true_and, zt_50, k2', q2]
theorem m_told_v {k ev : Int32} (C : zMc w T V G n m) (hev : ev = 0 ∨ ev = 1) (h1 : 1 ≤ k) (h8 : k ≤ 8) (hf : ¬ (tFs n m k ev w T V G).2.1 = 0) : ∃ w2, zKp w w2 ∧ cal (d + 30) 6072 [.ref 50, .int k, .int (-1), .int ev] w = some (some (.int (if ev = 0 then (tFs n m k ev w T V G).2.2.1 else - (tFs n m k ev w T V G).2.2.1)), w2) := by
  obtain ⟨w2, k1, k2, k3, k4, k5⟩ := m_td_h (d := d) (k := k) (t := -1) C hev
  have k2' : (w2.1 50 40 = 0) = False := eq_false (by rw [k2]; exact hf)
  have k3' : w2.1 50 41 = (tFs n m k ev w T V G).2.2.1 := k3
  refine ⟨w2, k1, ?_⟩
  rw [m_td_in C.2.1 (Or.inl rfl) h1 h8, k5]
  rcases hev with rfl | rfl
  · rw [if_pos rfl]
    simp only [e_6072_109, e_6072_110, e_6072_113, e_6072_123, e_6072_124, e_6072_125, e_6072_137, e_6072_138, e_6072_149, e_6072_150, e_6072_153, zk_int, zk_ref, zk_null, zk_none, zk_long, zisR_r, zisR_n, zcl_int, zcl_ref, zcl_null, zpush_s, zpush_n, zbs, zbn, true_or, or_true, not_false_eq_true, not_true_eq_false, ↓reduceIte, and_self, and_true, true_and, zt_50, k2', k3']
  · rw [if_neg (by decide)]
    simp only [e_6072_109, e_6072_110, e_6072_113, e_6072_123, e_6072_124, e_6072_125, e_6072_137, e_6072_138, e_6072_141, e_6072_142, e_6072_145, e_6072_146, e_6072_153, zk_int, zk_ref, zk_null, zk_none, zk_long, zisR_r, zisR_n, zcl_int, zcl_ref, zcl_null, zpush_s, zpush_n, zbs, zbn, true_or, or_true, not_false_eq_true, not_true_eq_false, ↓reduceIte, and_self, and_true, true_and, ie_0_1, ie_0_2, ie_0_3, ie_0_4, ie_0_5, ie_0_6, ie_0_7, ie_1_0, ie_1_2, ie_1_3, ie_1_4, ie_1_5, ie_1_6, ie_1_7, ie_2_0, ie_2_1, ie_2_3, ie_2_4, ie_2_5, ie_2_6, ie_2_7, ie_3_0, ie_3_1, ie_3_2, ie_3_4, ie_3_5, ie_3_6, ie_3_7, ie_4_0, ie_4_1, ie_4_2, ie_4_3, ie_4_5, ie_4_6, ie_4_7, ie_5_0, ie_5_1, ie_5_2, ie_5_3, ie_5_4, ie_5_6, ie_5_7, ie_6_0, ie_6_1, ie_6_2, ie_6_3, ie_6_4, ie_6_5, ie_6_7, ie_7_0, ie_7_1, ie_7_2, ie_7_3, ie_7_4, ie_7_5, ie_7_6, zt_50, k2', k3']
theorem m_told_t {k ev : Int32} {j : Nat} (C : zMc w T V G n m) (hev : ev = 0 ∨ ev = 1) (hj : j < n) (h1 : 1 ≤ k) (h8 : k ≤ 8) (hf : ¬ (tFs n m k ev w T V G).2.1 = 0) : ∃ w2, zKp w w2 ∧ cal (d + 30) 6072 [.ref 50, .int k, .int (nI j), .int ev] w = some (some (.int ((tFs n m k ev w T V G).2.2.2 j)), w2) := by
  have hn8 := C.2.1.2.2.1
  obtain ⟨w2, k1, k2, k3, k4, k5⟩ := m_td_h (d := d) (k := k) (t := nI j) C hev
  have k2' : (w2.1 50 40 = 0) = False := eq_false (by rw [k2]; exact hf)
  have k4' : w2.1 77 = (tFs n m k ev w T V G).2.2.2 := k4
  have g2 := nI_neM (y := j) (by omega)
  have hz := zis_nI (j := j) (n := 8) (by omega) (by decide)
  have hc := nI_clamp (n := j) (by omega)
  refine ⟨w2, k1, ?_⟩
  rw [m_td_in C.2.1 (Or.inr ⟨j, hj, rfl⟩) h1 h8, k5]
  simp only [e_6072_109, e_6072_110, e_6072_113, e_6072_123, e_6072_124, e_6072_125, e_6072_128, e_6072_129, e_6072_132, e_6072_133, e_6072_134, e_6072_153, zk_int, zk_ref, zk_null, zk_none, zk_long, zisR_r, zisR_n, zcl_int, zcl_ref, zcl_null, zpush_s, zpush_n, zbs, zbn, true_or, or_true, not_false_eq_true, not_true_eq_false, ↓reduceIte, and_self, and_true, true_and, zt_50, zr_50_39, zt_77, zn_77, zo_77, zl_77, zq_77, k2', g2, hz, hc, k4']
theorem m_told_1 {k t ev : Int32} (C : zMn w n m) (hn1 : ¬ t = -1) (ht : t < 0 ∨ nI n ≤ t) : cal (d + 30) 6072 [.ref 50, .int k, .int t, .int ev] w = some (some (.int (-1)), mRf w 1) := by
  have q1 := m_isTable_o (d := d + 29) C ht
  have q2 := m_no (d := d + 29) (w := w) (j := 1) (c := -1) (by decide) (by decide)
  simp only [c_6072, e_6072_0, e_6072_1, e_6072_2, e_6072_5, e_6072_6, e_6072_7, e_6072_10, e_6072_13, e_6072_14, e_6072_15, e_6072_18, zk_int, zk_ref, zk_null, zk_none, zk_long, zisR_r, zisR_n, zcl_int, zcl_ref, zcl_null, zpush_s, zpush_n, zbs, zbn, true_or, or_true, not_false_eq_true, not_true_eq_false, ↓reduceIte, and_self, and_true, true_and, zt_50, hn1, q1, q2]
theorem m_told_6 {k t ev : Int32} (C : zMn w n m) (ht : t = -1 ∨ ∃ j, j < n ∧ t = nI j) (hk : k < 1 ∨ 8 < k) : cal (d + 30) 6072 [.ref 50, .int k, .int t, .int ev] w = some (some (.int (-6)), mRf w 6) := by
  have hn8 := C.2.2.1
  have q2 := m_no (d := d + 29) (w := w) (j := 6) (c := -6) (by decide) (by decide)
  have fin : den (d + 30) 6072 19 [some (.ref 50), some (.int k), some (.int t), some (.int ev), none] [] w = some (some (.int (-6)), mRf w 6) := by
    by_cases h1 : k < 1
    · simp only [e_6072_19, e_6072_20, e_6072_21, e_6072_30, e_6072_31, e_6072_33, e_6072_36, zk_int, zk_ref, zk_null, zk_none, zk_long, zisR_r, zisR_n, zcl_int, zcl_ref, zcl_null, zpush_s, zpush_n, zbs, zbn, true_or, or_true, not_false_eq_true, not_true_eq_false, ↓reduceIte, and_self, and_true, true_and, zt_50, h1, q2]
    · have h2 : (k ≤ 8) = False := eq_false (Int32.not_le.mpr (hk.resolve_left h1))
      simp only [e_6072_19, e_6072_20, e_6072_21, e_6072_24, e_6072_25, e_6072_27, e_6072_30, e_6072_31, e_6072_33, e_6072_36, zk_int, zk_ref, zk_null, zk_none, zk_long, zisR_r, zisR_n, zcl_int, zcl_ref, zcl_null, zpush_s, zpush_n, zbs, zbn, true_or, or_true, not_false_eq_true, not_true_eq_false, ↓reduceIte, and_self, and_true, true_and, zt_50, h1, h2, q2]
  rcases ht with rfl | ⟨j, hj, rfl⟩
  · simp only [c_6072, e_6072_0, e_6072_1, e_6072_2, zk_int, zk_ref, zk_null, zk_none, zk_long, zisR_r, zisR_n, zcl_int, zcl_ref, zcl_null, zpush_s, zpush_n, zbs, zbn, true_or, or_true, not_false_eq_true, not_true_eq_false, ↓reduceIte, and_self, and_true, true_and, fin]
  · have g2 := nI_neM (y := j) (by omega)
    have q1 := m_isTable (d := d + 29) C hj
    simp only [c_6072, e_6072_0, e_6072_1, e_6072_2, e_6072_5, e_6072_6, e_6072_7, e_6072_10, zk_int, zk_ref, zk_null, zk_none, zk_long, zisR_r, zisR_n, zcl_int, zcl_ref, zcl_null, zpush_s, zpush_n, zbs, zbn, true_or, or_true, not_false_eq_true, not_true_eq_false, ↓reduceIte, and_self, and_true, true_and, ie_0_1, ie_0_2, ie_0_3, ie_0_4, ie_0_5, ie_0_6, ie_0_7, ie_1_0, ie_1_2, ie_1_3, ie_1_4, ie_1_5, ie_1_6, ie_1_7, ie_2_0, ie_2_1, ie_2_3, ie_2_4, ie_2_5, ie_2_6, ie_2_7, ie_3_0, ie_3_1, ie_3_2, ie_3_4, ie_3_5, ie_3_6, ie_3_7, ie_4_0, ie_4_1, ie_4_2, ie_4_3, ie_4_5, ie_4_6, ie_4_7, ie_5_0, ie_5_1, ie_5_2, ie_5_3, ie_5_4, ie_5_6, ie_5_7, ie_6_0, ie_6_1, ie_6_2, ie_6_3, ie_6_4, ie_6_5, ie_6_7, ie_7_0, ie_7_1, ie_7_2, ie_7_3, ie_7_4, ie_7_5, ie_7_6, zt_50, g2, q1, fin]
end MP2
