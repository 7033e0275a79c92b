section PT
variable {d n m : Nat} {w w1 w2 X : zM} {S : Nat → Int32} {L : Int32} {T V G : Nat → Int32}
theorem fBad_ok {L : Nat → Int32} : ∀ r v, fBad L r v = -1 → v + r < 1000 → ∀ i, v ≤ i → i < v + r → 0 ≤ L i ∧ L i ≤ 3 := by
  intro r
  induction r with
  | zero => intro v _ _ i h1 h2; omega
  | succ r ih =>
    intro v hb hv i h1 h2
    by_cases hok : 0 ≤ L v ∧ L v ≤ 3
    · have e : fBad L (r + 1) v = fBad L r (v + 1) := if_pos hok
      rw [e] at hb
      by_cases hi : i = v
      · subst hi; exact hok
      · exact ih (v + 1) hb (by omega) i (by omega) (by omega)
    · have e : fBad L (r + 1) v = nI v := if_neg hok
      rw [e] at hb
      exact absurd hb (nI_neN (by omega))
theorem m_ro_b {s x c : Int32} (hw : cal (d + 1) 6015 [.ref 50, .int s] w = some (some (.int c), w)) (hc : ¬ c = 0) : cal (d + 2) 6080 [.ref 50, .int s, .int x] w = some (some (.int c), w) := by
  simp only [c_6080, e_6080_0, e_6080_1, e_6080_2, e_6080_5, e_6080_6, e_6080_7, e_6080_10, e_6080_11, e_6080_12, e_6080_13, e_6080_16, e_6080_17, e_6080_18, e_6080_19, e_6080_22, e_6080_25, e_6080_27, e_6080_28, e_6080_29, e_6080_30, e_6080_33, e_6080_34, e_6080_38, e_6080_39, e_6080_42, e_6080_45, e_6080_46, e_6080_49, e_6080_50, e_6080_53, e_6080_54, e_6080_55, e_6080_57, e_6080_60, e_6080_63, e_6080_64, e_6080_65, e_6080_67, e_6080_70, e_6080_71, e_6080_74, e_6080_75, e_6080_77, e_6080_80, e_6080_83, e_6080_86, e_6080_87, e_6080_90, e_6080_91, e_6080_94, e_6080_95, e_6080_96, e_6080_99, e_6080_100, e_6080_101, e_6080_102, e_6080_103, e_6080_106, e_6080_107, e_6080_111, e_6080_112, e_6080_115, e_6080_118, e_6080_119, e_6080_122, e_6080_124, e_6080_125, e_6080_126, e_6080_128, e_6080_131, e_6080_132, e_6080_135, e_6080_138, e_6080_139, e_6080_140, e_6080_141, e_6080_144, e_6080_147, e_6080_148, e_6080_149, e_6080_152, e_6080_153, zk_int, zk_ref, zk_null, zk_none, zk_long, zisR_r, zisR_n, zcl_int, zcl_ref, zcl_null, zpush_s, zpush_n, zbs, zbn, true_or, or_true, not_false_eq_true, not_true_eq_false, ↓reduceIte, and_self, and_true, true_and, zt_50, hw, hc]
theorem m_ro_5 {j z : Nat} {x : Int32} (hj : j < 8) (h1 : w.1 64 j = 1) (hz : w.1 66 j = nI z) (hz1 : z ≤ 160) (hm : w.1 50 1 = nI m) (hm4 : m ≤ 4) (hmz : ¬ m ≤ z) : cal (d + 2) 6080 [.ref 50, .int (nI j), .int x] w = some (some (.int (-5)), w) := by
  have q := m_wants_1 (d := d) hj h1
  have hzj := zis_nI (j := j) (n := 8) hj (by decide)
  have hcj := nI_clamp (n := j) (by omega)
  have g1 : (nI m ≤ nI z) = False := nI_ge_f (by omega) (by omega)
  simp only [c_6080, e_6080_0, e_6080_1, e_6080_2, e_6080_5, e_6080_6, e_6080_7, e_6080_10, e_6080_11, e_6080_12, e_6080_13, e_6080_16, e_6080_17, e_6080_18, e_6080_19, e_6080_22, e_6080_25, e_6080_27, e_6080_28, e_6080_29, e_6080_30, e_6080_33, e_6080_34, e_6080_38, e_6080_39, e_6080_42, e_6080_45, e_6080_46, e_6080_49, e_6080_50, e_6080_53, e_6080_54, e_6080_55, e_6080_57, e_6080_60, e_6080_63, e_6080_64, e_6080_65, e_6080_67, e_6080_70, e_6080_71, e_6080_74, e_6080_75, e_6080_77, e_6080_80, e_6080_83, e_6080_86, e_6080_87, e_6080_90, e_6080_91, e_6080_94, e_6080_95, e_6080_96, e_6080_99, e_6080_100, e_6080_101, e_6080_102, e_6080_103, e_6080_106, e_6080_107, e_6080_111, e_6080_112, e_6080_115, e_6080_118, e_6080_119, e_6080_122, e_6080_124, e_6080_125, e_6080_126, e_6080_128, e_6080_131, e_6080_132, e_6080_135, e_6080_138, e_6080_139, e_6080_140, e_6080_141, e_6080_144, e_6080_147, e_6080_148, e_6080_149, e_6080_152, e_6080_153, zk_int, zk_ref, zk_null, zk_none, zk_long, zisR_r, zisR_n, zcl_int, zcl_ref, zcl_null, zpush_s, zpush_n, zbs, zbn, true_or, or_true, not_false_eq_true, not_true_eq_false, ↓reduceIte, and_self, and_true, true_and, zt_50, zt_50, zr_50_23, zt_66, zn_66, zo_66, zl_66, zq_66, q, hzj, hcj, hz, hm, g1]
theorem m_ro_w {j z : Nat} {x : Int32} {L : Nat → Int32} (hj : j < 8) (h1 : w.1 64 j = 1) (hz : w.1 66 j = nI z) (hz1 : z ≤ 160) (hm : w.1 50 1 = nI m) (hm4 : m ≤ 4) (hmz : m ≤ z) (hL : ∀ i, i < z → (w.2 68 (160 * j + i)).toInt32 = L i) : ∃ v', cal (d + 2) 6080 [.ref 50, .int (nI j), .int x] w = den (d + 2) 6080 86 [some (.ref 50), some (.int (nI j)), some (.int x), some (.int 0), some (.int v')] [] (zui w 50 42 (fBad L m 0)) := by
  have q := m_wants_1 (d := d) hj h1
  have hzj := zis_nI (j := j) (n := 8) hj (by decide)
  have hcj := nI_clamp (n := j) (by omega)
  have g1 : (nI m ≤ nI z) = True := eq_true (nI_le hmz (by omega))
  obtain ⟨v', h⟩ := m_ro_l (d := d + 1) (X := w) (x := x) hj hz1 hmz hm hL m 0 (by omega)
  refine ⟨v', ?_⟩
  rw [← h]
  have e0 : nI 0 = 0 := rfl
  rw [e0]
  simp only [c_6080, e_6080_0, e_6080_1, e_6080_2, e_6080_5, e_6080_6, e_6080_7, e_6080_12, e_6080_13, e_6080_16, e_6080_17, e_6080_18, e_6080_19, e_6080_22, e_6080_28, e_6080_29, e_6080_30, e_6080_33, e_6080_34, zk_int, zk_ref, zk_null, zk_none, zk_long, zisR_r, zisR_n, zcl_int, zcl_ref, zcl_null, zpush_s, zpush_n, zbs, zbn, true_or, or_true, not_false_eq_true, not_true_eq_false, ↓reduceIte, and_self, and_true, true_and, zt_50, zt_50, zr_50_23, zt_66, zn_66, zo_66, zl_66, zq_66, q, hzj, hcj, hz, hm, g1]
theorem m_ro_0 {x s a b : Int32} (h : ¬ X.1 50 42 = -1 ∨ x = -1) : den (d + 2) 6080 86 [some (.ref 50), some (.int s), some (.int x), some (.int a), some (.int b)] [] X = some (some (.int 0), X) := by
  by_cases h1 : X.1 50 42 = -1
  · have h2 := h.resolve_left (fun f => f h1)
    simp only [e_6080_86, e_6080_87, e_6080_90, e_6080_91, e_6080_94, e_6080_95, e_6080_96, e_6080_99, e_6080_100, zk_int, zk_ref, zk_null, zk_none, zk_long, zisR_r, zisR_n, zcl_int, zcl_ref, zcl_null, zpush_s, zpush_n, zbs, zbn, true_or, or_true, not_false_eq_true, not_true_eq_false, ↓reduceIte, and_self, and_true, true_and, zt_50, h1, h2]
  · simp only [e_6080_86, e_6080_87, e_6080_90, e_6080_91, e_6080_99, e_6080_100, zk_int, zk_ref, zk_null, zk_none, zk_long, zisR_r, zisR_n, zcl_int, zcl_ref, zcl_null, zpush_s, zpush_n, zbs, zbn, true_or, or_true, not_false_eq_true, not_true_eq_false, ↓reduceIte, and_self, and_true, true_and, zt_50, h1]
theorem p_judge {x : Int32} (A : zRl w S L n m) : zPr d 5035 6081 [.int x] w S L := by
  have C := rl_C A
  have M := rl_M A
  have hm4 := rl_m A
  have hn8 := rl_n A
  rcases ix_c x (by decide : 8 < 1000) with hx | ⟨j, hj, rfl⟩
  · have a := f_shelfAt_o (d := d + 39) (w := w) hx
    have t := f_toldRef_n (d := d + 37) (w := w)
    have f := f_refuse (d := d + 38) (w := w) (c := -1) (j := 1) (by decide) (by decide)
    have hc : cal (d + 40) 5035 [.ref 0, .int x] w = some (some (.int (-1)), fRf w 1) := by
      simp only [c_5035, e_5035_0, e_5035_1, e_5035_2, e_5035_5, e_5035_6, e_5035_7, e_5035_8, e_5035_11, e_5035_12, e_5035_13n, e_5035_13r, e_5035_16, e_5035_17, e_5035_20, e_5035_21, e_5035_22, e_5035_25, e_5035_28, e_5035_29, e_5035_30, e_5035_33, zk_int, zk_ref, zk_null, zk_none, zk_long, zisR_r, zisR_n, zcl_int, zcl_ref, zcl_null, zpush_s, zpush_n, zbs, zbn, true_or, or_true, not_false_eq_true, not_true_eq_false, ↓reduceIte, and_self, and_true, true_and, zt_0, a, t, f]
    have q := m_ro_b (d := d + 37) (x := -1) (m_wants_o (d := d + 37) (w := fRf w 1) hx) (by decide)
    have r := m_no (d := d + 39) (w := fRf w 1) (j := 1) (c := -1) (by decide) (by decide)
    have n0 : ((-1 : Int32) = 0) = False := eq_false (by decide)
    refine pr_f A (by decide) hc (zKp_r _) ?_ (zKp_r _)
    simp only [c_6081, e_6081_0, e_6081_1, e_6081_2, e_6081_3, e_6081_6, e_6081_7, e_6081_8, e_6081_11, e_6081_12, e_6081_13, e_6081_16, e_6081_19, e_6081_20, e_6081_23, zk_int, zk_ref, zk_null, zk_none, zk_long, zisR_r, zisR_n, zcl_int, zcl_ref, zcl_null, zpush_s, zpush_n, zbs, zbn, true_or, or_true, not_false_eq_true, not_true_eq_false, ↓reduceIte, and_self, and_true, true_and, zt_50, q, r, n0]
  · have a := f_shelfAt (d := d + 39) (w := w) hj
    have th := (zSs_f (zSs_j hj)).1
    rcases A.2.2.1 j hj with ⟨h1, h2⟩ | ⟨h1, s', z', g1, g2, g3, g4, g5, g6, g7⟩ | ⟨h1, t', g1, g2, g3⟩
    · have t := f_toldRef_b (d := d + 37) (w := w) (zSs_j hj) (by rw [h2]; decide)
      rw [if_pos h2] at t
      have f := f_refuse (d := d + 38) (w := w) (c := -3) (j := 3) (by decide) (by decide)
      have n0 : ((-3 : Int32) = 0) = False := eq_false (by decide)
      have hc : cal (d + 40) 5035 [.ref 0, .int (nI j)] w = some (some (.int (-3)), fRf w 3) := by
        simp only [c_5035, e_5035_0, e_5035_1, e_5035_2, e_5035_5, e_5035_6, e_5035_7, e_5035_8, e_5035_11, e_5035_12, e_5035_13n, e_5035_13r, e_5035_16, e_5035_17, e_5035_20, e_5035_21, e_5035_22, e_5035_25, e_5035_28, e_5035_29, e_5035_30, e_5035_33, zk_int, zk_ref, zk_null, zk_none, zk_long, zisR_r, zisR_n, zcl_int, zcl_ref, zcl_null, zpush_s, zpush_n, zbs, zbn, true_or, or_true, not_false_eq_true, not_true_eq_false, ↓reduceIte, and_self, and_true, true_and, zt_0, th, a, t, f, n0]
      have q := m_ro_b (d := d + 37) (x := -1) (m_wants_0 (d := d + 37) (w := fRf w 3) hj (by rw [fRf_n (by decide)]; exact h1)) (by decide)
      have r := m_no (d := d + 39) (w := fRf w 3) (j := 3) (c := -3) (by decide) (by decide)
      refine pr_f A (by decide) hc (zKp_r _) ?_ (zKp_r _)
      simp only [c_6081, e_6081_0, e_6081_1, e_6081_2, e_6081_3, e_6081_6, e_6081_7, e_6081_8, e_6081_11, e_6081_12, e_6081_13, e_6081_16, e_6081_19, e_6081_20, e_6081_23, zk_int, zk_ref, zk_null, zk_none, zk_long, zisR_r, zisR_n, zcl_int, zcl_ref, zcl_null, zpush_s, zpush_n, zbs, zbn, true_or, or_true, not_false_eq_true, not_true_eq_false, ↓reduceIte, and_self, and_true, true_and, zt_50, q, r, n0]
    · have h100 : 100 ≤ w.1 (34 + 2 * j) 1 := by rw [g4]; exact nI_le (a := 100) (by omega) (by omega)
      have t := f_toldRef (d := d + 37) (w := w) C (zSs_j hj) g5 g2 h100
      by_cases hmz : m ≤ z'
      · rw [if_pos hmz] at t
        have X := rTL_X hj g5 g2
        have f := f_firstWrong (d := d + 37) C X
        have hc : cal (d + 40) 5035 [.ref 0, .int (nI j)] w = some (some (.int (fBad (rTL w j z') m 0)), w) := by
          simp only [c_5035, e_5035_0, e_5035_1, e_5035_2, e_5035_5, e_5035_6, e_5035_7, e_5035_8, e_5035_11, e_5035_12, e_5035_13n, e_5035_13r, e_5035_16, e_5035_17, e_5035_20, e_5035_21, e_5035_22, e_5035_25, e_5035_28, e_5035_29, e_5035_30, e_5035_33, zk_int, zk_ref, zk_null, zk_none, zk_long, zisR_r, zisR_n, zcl_int, zcl_ref, zcl_null, zpush_s, zpush_n, zbs, zbn, true_or, or_true, not_false_eq_true, not_true_eq_false, ↓reduceIte, and_self, and_true, true_and, zt_0, th, a, t, f]
        obtain ⟨v', q⟩ := m_ro_w (d := d + 37) (x := -1) (L := rTL w j z') hj h1 g6 g2 M.2.1.2.1 hm4 hmz (fun i hi => by rw [(g7 i hi).1]; exact (if_pos hi).symm)
        have q2 := m_ro_0 (d := d + 37) (X := zui w 50 42 (fBad (rTL w j z') m 0)) (x := -1) (s := nI j) (a := 0) (b := v') (Or.inr rfl)
        rw [q2] at q
        have e42 : (zui w 50 42 (fBad (rTL w j z') m 0)).1 50 42 = fBad (rTL w j z') m 0 := by rw [zi_s, u_eq]
        refine pr_k A hc (zKp_r _) ?_ (kp_42 (v := fBad (rTL w j z') m 0))
        simp only [c_6081, e_6081_0, e_6081_1, e_6081_2, e_6081_3, e_6081_6, e_6081_7, e_6081_8, e_6081_11, e_6081_12, e_6081_13, e_6081_16, e_6081_19, e_6081_20, e_6081_23, zk_int, zk_ref, zk_null, zk_none, zk_long, zisR_r, zisR_n, zcl_int, zcl_ref, zcl_null, zpush_s, zpush_n, zbs, zbn, true_or, or_true, not_false_eq_true, not_true_eq_false, ↓reduceIte, and_self, and_true, true_and, zt_50, q, e42]
      · rw [if_neg hmz] at t
        have f := f_refuse (d := d + 38) (w := w) (c := -5) (j := 5) (by decide) (by decide)
        have n0 : ((-5 : Int32) = 0) = False := eq_false (by decide)
        have hc : cal (d + 40) 5035 [.ref 0, .int (nI j)] w = some (some (.int (-5)), fRf w 5) := by
          simp only [c_5035, e_5035_0, e_5035_1, e_5035_2, e_5035_5, e_5035_6, e_5035_7, e_5035_8, e_5035_11, e_5035_12, e_5035_13n, e_5035_13r, e_5035_16, e_5035_17, e_5035_20, e_5035_21, e_5035_22, e_5035_25, e_5035_28, e_5035_29, e_5035_30, e_5035_33, zk_int, zk_ref, zk_null, zk_none, zk_long, zisR_r, zisR_n, zcl_int, zcl_ref, zcl_null, zpush_s, zpush_n, zbs, zbn, true_or, or_true, not_false_eq_true, not_true_eq_false, ↓reduceIte, and_self, and_true, true_and, zt_0, th, a, t, f, n0]
        have q := m_ro_5 (d := d + 37) (w := fRf w 5) (x := -1) hj (by rw [fRf_n (by decide)]; exact h1) (by rw [fRf_n (by decide)]; exact g6) g2 (by rw [fRf_n (by decide)]; exact M.2.1.2.1) hm4 hmz
        have r := m_no (d := d + 39) (w := fRf w 5) (j := 5) (c := -5) (by decide) (by decide)
        refine pr_f A (by decide) hc (zKp_r _) ?_ (zKp_r _)
        simp only [c_6081, e_6081_0, e_6081_1, e_6081_2, e_6081_3, e_6081_6, e_6081_7, e_6081_8, e_6081_11, e_6081_12, e_6081_13, e_6081_16, e_6081_19, e_6081_20, e_6081_23, zk_int, zk_ref, zk_null, zk_none, zk_long, zisR_r, zisR_n, zcl_int, zcl_ref, zcl_null, zpush_s, zpush_n, zbs, zbn, true_or, or_true, not_false_eq_true, not_true_eq_false, ↓reduceIte, and_self, and_true, true_and, zt_50, q, r, n0]
    · have hne : ¬ w.1 (34 + 2 * j) 1 = -1 := by rw [g3]; exact nI_neN (by omega)
      have t := f_toldRef_b (d := d + 37) (w := w) (zSs_j hj) (by rw [g3]; exact nI_ge (b := 100) (by omega) (by decide))
      rw [if_neg hne] at t
      have f := f_refuse (d := d + 38) (w := w) (c := -2) (j := 2) (by decide) (by decide)
      have n0 : ((-2 : Int32) = 0) = False := eq_false (by decide)
      have hc : cal (d + 40) 5035 [.ref 0, .int (nI j)] w = some (some (.int (-2)), fRf w 2) := by
        simp only [c_5035, e_5035_0, e_5035_1, e_5035_2, e_5035_5, e_5035_6, e_5035_7, e_5035_8, e_5035_11, e_5035_12, e_5035_13n, e_5035_13r, e_5035_16, e_5035_17, e_5035_20, e_5035_21, e_5035_22, e_5035_25, e_5035_28, e_5035_29, e_5035_30, e_5035_33, zk_int, zk_ref, zk_null, zk_none, zk_long, zisR_r, zisR_n, zcl_int, zcl_ref, zcl_null, zpush_s, zpush_n, zbs, zbn, true_or, or_true, not_false_eq_true, not_true_eq_false, ↓reduceIte, and_self, and_true, true_and, zt_0, th, a, t, f, n0]
      have q := m_ro_b (d := d + 37) (x := -1) (m_wants_2 (d := d + 37) (w := fRf w 2) hj (by rw [fRf_n (by decide)]; exact h1)) (by decide)
      have r := m_no (d := d + 39) (w := fRf w 2) (j := 2) (c := -2) (by decide) (by decide)
      refine pr_f A (by decide) hc (zKp_r _) ?_ (zKp_r _)
      simp only [c_6081, e_6081_0, e_6081_1, e_6081_2, e_6081_3, e_6081_6, e_6081_7, e_6081_8, e_6081_11, e_6081_12, e_6081_13, e_6081_16, e_6081_19, e_6081_20, e_6081_23, zk_int, zk_ref, zk_null, zk_none, zk_long, zisR_r, zisR_n, zcl_int, zcl_ref, zcl_null, zpush_s, zpush_n, zbs, zbn, true_or, or_true, not_false_eq_true, not_true_eq_false, ↓reduceIte, and_self, and_true, true_and, zt_50, q, r, n0]
theorem m_ro_t {j z y : Nat} {b : Int32} {e : Nat → Int32} (hj : j < 8) (hz : z ≤ 160) (hmz : m ≤ z) (C : zMc X T V G n m) (h42 : X.1 50 42 = -1) (hL : ∀ i, i < z → (X.2 68 (160 * j + i)).toInt32 = e i) (he : ∀ i, i < m → zBt (e i) 0 3) (hy : y < m) : ∃ W, den (d + 39) 6080 86 [some (.ref 50), some (.int (nI j)), some (.int (nI y)), some (.int 0), some (.int b)] [] X = some (some (.int 0), W) ∧ zKp X W ∧ W.1 50 42 = -1 ∧ W.1 50 43 = sGn T (sSe V e m) G n m y := by
  have hm4 := C.2.1.2.2.2
  have hm1 := C.2.1.2.1
  have kF := m_keepF (d := d + 38) (w := X)
  have x58 : (zuA X 74 (zcpy (X.1 58) (X.1 74) 4)).1 58 = X.1 58 := zA_n _ _ (by decide)
  have x50 : (zuA X 74 (zcpy (X.1 58) (X.1 74) 4)).1 50 = X.1 50 := zA_n _ _ (by decide)
  have x74 : (zuA X 74 (zcpy (X.1 58) (X.1 74) 4)).1 74 = zcpy (X.1 58) (X.1 74) 4 := zA_s _ _ _
  have xn : ∀ a, a ≠ 74 → (zuA X 74 (zcpy (X.1 58) (X.1 74) 4)).1 a = X.1 a := fun a h => zA_n _ _ h
  have x2 : (zuA X 74 (zcpy (X.1 58) (X.1 74) 4)).2 = X.2 := rfl
  generalize zuA X 74 (zcpy (X.1 58) (X.1 74) 4) = X' at kF x58 x50 x74 xn x2
  have key : ∀ r v, v + r = m → den (d + 39) 6080 109 [some (.ref 50), some (.int (nI j)), some (.int (nI y)), some (.int 0), some (.int (nI v))] [] (zuA X' 58 (zcpy e (X'.1 58) v)) = den (d + 39) 6080 138 [some (.ref 50), some (.int (nI j)), some (.int (nI y)), some (.int 0), some (.int (nI m))] [] (zuA X' 58 (zcpy e (X'.1 58) m)) := by
    have e1 : ∀ F, (zuA X' 58 F).1 50 1 = nI m := fun F => by rw [zA_n _ _ (by decide), x50]; exact hm1
    intro r
    induction r with
    | zero =>
      intro v hv
      have e : v = m := by omega
      subst e
      have g1 := nI_le_n (Nat.le_refl v) (by omega)
      rw [e_6080_109]
      simp only [e_6080_111, e_6080_112, e_6080_115, zk_int, zk_ref, zk_null, zk_none, zk_long, zisR_r, zisR_n, zcl_int, zcl_ref, zcl_null, zpush_s, zpush_n, zbs, zbn, true_or, or_true, not_false_eq_true, not_true_eq_false, ↓reduceIte, and_self, and_true, true_and, zt_50, e1, g1]
    | succ r ih =>
      intro v hv
      have hvm : v < m := by omega
      have g1 := nI_ge_f hvm (by omega)
      have hzv := zis_nI (j := v) (n := 4) (by omega) (by decide)
      have hcv := nI_clamp (n := v) (by omega)
      have q := m_intAt (d := d + 38) (w := zuA X' 58 (zcpy e (X'.1 58) v)) (i := v) hj (by omega)
      have q' : cal (d + 38) 6016 [.ref 50, .int (nI j), .int (nI v)] (zuA X' 58 (zcpy e (X'.1 58) v)) = some (some (.int (e v)), zuA X' 58 (zcpy e (X'.1 58) v)) := by
        rw [← hL v (by omega), ← x2]; exact q
      rw [e_6080_109]
      simp only [c_6080, e_6080_0, e_6080_1, e_6080_2, e_6080_5, e_6080_6, e_6080_7, e_6080_10, e_6080_11, e_6080_12, e_6080_13, e_6080_16, e_6080_17, e_6080_18, e_6080_19, e_6080_22, e_6080_25, e_6080_27, e_6080_28, e_6080_29, e_6080_30, e_6080_33, e_6080_34, e_6080_38, e_6080_39, e_6080_42, e_6080_45, e_6080_46, e_6080_49, e_6080_50, e_6080_53, e_6080_54, e_6080_55, e_6080_57, e_6080_60, e_6080_63, e_6080_64, e_6080_65, e_6080_67, e_6080_70, e_6080_71, e_6080_74, e_6080_75, e_6080_77, e_6080_80, e_6080_83, e_6080_86, e_6080_87, e_6080_90, e_6080_91, e_6080_94, e_6080_95, e_6080_96, e_6080_99, e_6080_100, e_6080_101, e_6080_102, e_6080_103, e_6080_106, e_6080_107, e_6080_111, e_6080_112, e_6080_115, e_6080_118, e_6080_119, e_6080_122, e_6080_124, e_6080_125, e_6080_126, e_6080_128, e_6080_131, e_6080_132, e_6080_135, e_6080_139, e_6080_140, e_6080_141, e_6080_144, e_6080_147, e_6080_148, e_6080_149, e_6080_152, e_6080_153, zk_int, zk_ref, zk_null, zk_none, zk_long, zisR_r, zisR_n, zcl_int, zcl_ref, zcl_null, zpush_s, zpush_n, zbs, zbn, true_or, or_true, not_false_eq_true, not_true_eq_false, ↓reduceIte, and_self, and_true, true_and, zt_50, zr_50_15, zt_58, zn_58, zo_58, zl_58, zq_58, e1, g1, hzv, hcv, q', zui_A, zA_s, zA_A, zcpy_s, nI_1]
      exact ih (v + 1) (by omega)
  have k0 := key m 0 (by omega)
  rw [zcpy_0, zA_id, nI_0] at k0
  have Ms : zMs X' T V G := zMs_k C.1 ⟨by rw [x50], by rw [x50]⟩ (fun a h1 h2 => xn a (by omega))
  have CY : zMc (zuA X' 58 (zcpy e (X'.1 58) m)) T (sSe V e m) G n m := ⟨zMs_e Ms hm4, zMn_k C.2.1 (by rw [zA_n _ _ (by decide), x50]) (by rw [zA_n _ _ (by decide), x50]), zRg_e C.2.2 he⟩
  have g := m_gainOf (d := d + 18) CY hy
  have y50 : (zuA X' 58 (zcpy e (X'.1 58) m)).1 50 = X.1 50 := by rw [zA_n _ _ (by decide), x50]
  have y58 : (zuA X' 58 (zcpy e (X'.1 58) m)).1 58 = zcpy e (X.1 58) m := by rw [zA_s, x58]
  have y74 : (zuA X' 58 (zcpy e (X'.1 58) m)).1 74 = zcpy (X.1 58) (X.1 74) 4 := by rw [zA_n _ _ (by decide), x74]
  have yn : ∀ a, a ≠ 74 → a ≠ 58 → (zuA X' 58 (zcpy e (X'.1 58) m)).1 a = X.1 a := fun a h1 h2 => by rw [zA_n _ _ h2, xn a h1]
  have y2 : (zuA X' 58 (zcpy e (X'.1 58) m)).2 = X.2 := x2
  generalize zuA X' 58 (zcpy e (X'.1 58) m) = Y at k0 CY g y50 y58 y74 yn y2
  have kT := m_keepT (d := d + 38) (w := zui Y 50 43 (sGn T (sSe V e m) G n m y))
  have z58 : (zui Y 50 43 (sGn T (sSe V e m) G n m y)).1 58 = zcpy e (X.1 58) m := by rw [zi_n _ (by decide), y58]
  have z74 : (zui Y 50 43 (sGn T (sSe V e m) G n m y)).1 74 = zcpy (X.1 58) (X.1 74) 4 := by rw [zi_n _ (by decide), y74]
  rw [z58, z74, zcpy_bk (F := zcpy e (X.1 58) m) (fun k hk => if_neg (by omega))] at kT
  have nM : ¬ nI y = -1 := nI_neN (by omega)
  have em : ((-1 : Int32) = -1) = True := eq_true rfl
  refine ⟨zuA (zui Y 50 43 (sGn T (sSe V e m) G n m y)) 58 (X.1 58), ?_, ⟨fun a ha => ?_, fun k hk => ?_, ?_, fun a ha => ?_, fun h1 h14 => ?_, fun h26 => ?_⟩, ?_, ?_⟩
  · simp only [e_6080_86, e_6080_87, e_6080_90, e_6080_91, e_6080_94, e_6080_95, e_6080_96, e_6080_101, e_6080_102, e_6080_103, e_6080_106, e_6080_107, zk_int, zk_ref, zk_null, zk_none, zk_long, zisR_r, zisR_n, zcl_int, zcl_ref, zcl_null, zpush_s, zpush_n, zbs, zbn, true_or, or_true, not_false_eq_true, not_true_eq_false, ↓reduceIte, and_self, and_true, true_and, zt_50, h42, em, nM, kF, k0]
    simp only [e_6080_138, e_6080_139, e_6080_140, e_6080_141, e_6080_144, e_6080_147, e_6080_148, e_6080_149, e_6080_152, e_6080_153, zk_int, zk_ref, zk_null, zk_none, zk_long, zisR_r, zisR_n, zcl_int, zcl_ref, zcl_null, zpush_s, zpush_n, zbs, zbn, true_or, or_true, not_false_eq_true, not_true_eq_false, ↓reduceIte, and_self, and_true, true_and, zt_50, g, kT]
  · by_cases h58 : a = 58
    · subst h58; exact zA_s _ _ _
    · unfold zKa at ha
      rw [zA_n _ _ h58, zi_n _ (by omega), yn a (by omega) h58]
  · rw [zA_n _ _ (by decide), zi_s, u_ne (by omega), y50]
  · rw [zA_n _ _ (by decide), zi_n _ (by decide), yn _ (by decide) (by decide)]
  · show Y.2 a = X.2 a
    rw [y2]
  · exact zHz_k (fun b g1 g2 => by rw [zA_n _ _ (by omega), zi_n _ (by omega), yn _ (by omega) (by omega)]) h14
  · exact zHz_k (fun b g1 g2 => by rw [zA_n _ _ (by omega), zi_n _ (by omega), yn _ (by omega) (by omega)]) h26
  · rw [zA_n _ _ (by decide), zi_s, u_ne (by decide), y50]; exact h42
  · rw [zA_n _ _ (by decide), zi_s, u_eq]
theorem p_told {x y0 : Int32} (A : zRl w S L n m) : zPr d 5036 6082 [.int x, .int y0] w S L := by
  have C := rl_C A
  have M := rl_M A
  have hm4 := rl_m A
  have hn8 := rl_n A
  have hz := rl_z1 A
  have n1 : ((-1 : Int32) = 0) = False := eq_false (by decide)
  have f1 := f_refuseFar (d := d + 37) (w := w) (c := -1) (j := 1) (by decide) (by decide)
  have r1 := m_noLow (d := d + 39) (w := fRf w 1) (j := 1) (c := -1) (by decide) (by decide)
  rcases ix_c x (by decide : 8 < 1000) with hx | ⟨j, hj, rfl⟩
  · have a := f_shelfAt_o (d := d + 39) (w := w) hx
    have t := f_toldRef_n (d := d + 37) (w := w)
    have hc : cal (d + 40) 5036 [.ref 0, .int x, .int y0] w = some (some (.int (-1 + -1000000)), fRf w 1) := by
      rcases ix_c y0 (by omega : m < 1000) with hy | ⟨y, hy, rfl⟩
      · have b := q_hasWaiter_o (d := d + 39) C hy
        simp only [c_5036, e_5036_0, e_5036_1, e_5036_2, e_5036_5, e_5036_6, e_5036_7, e_5036_10, e_5036_11, e_5036_14, e_5036_17, e_5036_18, e_5036_19, e_5036_22, e_5036_25, e_5036_26, e_5036_28, e_5036_29n, e_5036_29r, e_5036_32, e_5036_34, e_5036_37, e_5036_38, e_5036_40, e_5036_43, e_5036_44, e_5036_45, e_5036_46, e_5036_49, e_5036_50, e_5036_53, e_5036_54, e_5036_56, e_5036_59, e_5036_60, e_5036_61, e_5036_64, e_5036_65, e_5036_68, e_5036_69, e_5036_70, e_5036_73, zk_int, zk_ref, zk_null, zk_none, zk_long, zisR_r, zisR_n, zcl_int, zcl_ref, zcl_null, zpush_s, zpush_n, zbs, zbn, true_or, or_true, not_false_eq_true, not_true_eq_false, ↓reduceIte, and_self, and_true, true_and, zt_0, zr_0_0, zt_1, a, b, f1]
      · have b := q_hasWaiter (d := d + 39) C hy
        simp only [c_5036, e_5036_0, e_5036_1, e_5036_2, e_5036_5, e_5036_6, e_5036_7, e_5036_10, e_5036_11, e_5036_14, e_5036_17, e_5036_18, e_5036_19, e_5036_22, e_5036_25, e_5036_26, e_5036_28, e_5036_29n, e_5036_29r, e_5036_32, e_5036_34, e_5036_37, e_5036_38, e_5036_40, e_5036_43, e_5036_44, e_5036_45, e_5036_46, e_5036_49, e_5036_50, e_5036_53, e_5036_54, e_5036_56, e_5036_59, e_5036_60, e_5036_61, e_5036_64, e_5036_65, e_5036_68, e_5036_69, e_5036_70, e_5036_73, zk_int, zk_ref, zk_null, zk_none, zk_long, zisR_r, zisR_n, zcl_int, zcl_ref, zcl_null, zpush_s, zpush_n, zbs, zbn, true_or, or_true, not_false_eq_true, not_true_eq_false, ↓reduceIte, and_self, and_true, true_and, ie_0_1, ie_0_2, ie_0_3, ie_0_4, ie_0_5, ie_0_6, ie_0_7, ie_1_0, ie_1_2, ie_1_3, ie_1_4, ie_1_5, ie_1_6, ie_1_7, ie_2_0, ie_2_1, ie_2_3, ie_2_4, ie_2_5, ie_2_6, ie_2_7, ie_3_0, ie_3_1, ie_3_2, ie_3_4, ie_3_5, ie_3_6, ie_3_7, ie_4_0, ie_4_1, ie_4_2, ie_4_3, ie_4_5, ie_4_6, ie_4_7, ie_5_0, ie_5_1, ie_5_2, ie_5_3, ie_5_4, ie_5_6, ie_5_7, ie_6_0, ie_6_1, ie_6_2, ie_6_3, ie_6_4, ie_6_5, ie_6_7, ie_7_0, ie_7_1, ie_7_2, ie_7_3, ie_7_4, ie_7_5, ie_7_6, zt_0, zr_0_0, zt_1, a, b, t, f1]
    have q := m_isShelf_o (d := d + 39) (w := fRf w 1) hx
    refine pr_f A (by decide) hc (zKp_r _) ?_ (zKp_r _)
    simp only [c_6082, e_6082_0, e_6082_1, e_6082_2, e_6082_5, e_6082_8, e_6082_9, e_6082_10, e_6082_13, e_6082_16, e_6082_17, e_6082_18, e_6082_21, e_6082_22, e_6082_23, e_6082_24, e_6082_25, e_6082_28, e_6082_29, e_6082_30, e_6082_33, e_6082_34, e_6082_37, e_6082_38, e_6082_41, e_6082_43, e_6082_44, e_6082_45, e_6082_48, e_6082_49, e_6082_50, e_6082_53, e_6082_56, e_6082_57, e_6082_60, zk_int, zk_ref, zk_null, zk_none, zk_long, zisR_r, zisR_n, zcl_int, zcl_ref, zcl_null, zpush_s, zpush_n, zbs, zbn, true_or, or_true, not_false_eq_true, not_true_eq_false, ↓reduceIte, and_self, and_true, true_and, zt_50, q, r1]
    rfl
  · have a := f_shelfAt (d := d + 39) (w := w) hj
    have th := (zSs_f (zSs_j hj)).1
    have q1 := fun w => m_isShelf (d := d + 39) (w := w) hj
    rcases ix_c y0 (by omega : m < 1000) with hy | ⟨y, hy, rfl⟩
    · have b := q_hasWaiter_o (d := d + 39) C hy
      have hc : cal (d + 40) 5036 [.ref 0, .int (nI j), .int y0] w = some (some (.int (-1 + -1000000)), fRf w 1) := by
        simp only [c_5036, e_5036_0, e_5036_1, e_5036_2, e_5036_5, e_5036_6, e_5036_7, e_5036_10, e_5036_11, e_5036_14, e_5036_17, e_5036_18, e_5036_19, e_5036_22, e_5036_25, e_5036_26, e_5036_28, e_5036_29n, e_5036_29r, e_5036_32, e_5036_34, e_5036_37, e_5036_38, e_5036_40, e_5036_43, e_5036_44, e_5036_45, e_5036_46, e_5036_49, e_5036_50, e_5036_53, e_5036_54, e_5036_56, e_5036_59, e_5036_60, e_5036_61, e_5036_64, e_5036_65, e_5036_68, e_5036_69, e_5036_70, e_5036_73, zk_int, zk_ref, zk_null, zk_none, zk_long, zisR_r, zisR_n, zcl_int, zcl_ref, zcl_null, zpush_s, zpush_n, zbs, zbn, true_or, or_true, not_false_eq_true, not_true_eq_false, ↓reduceIte, and_self, and_true, true_and, zt_0, zr_0_0, zt_1, th, a, b, f1, n1]
      have q2 := m_isWaiter_o (d := d + 39) (zMc_f (j := 1) M).2.1 hy
      refine pr_f A (by decide) hc (zKp_r _) ?_ (zKp_r _)
      simp only [c_6082, e_6082_0, e_6082_1, e_6082_2, e_6082_5, e_6082_8, e_6082_9, e_6082_10, e_6082_13, e_6082_16, e_6082_17, e_6082_18, e_6082_21, e_6082_22, e_6082_23, e_6082_24, e_6082_25, e_6082_28, e_6082_29, e_6082_30, e_6082_33, e_6082_34, e_6082_37, e_6082_38, e_6082_41, e_6082_43, e_6082_44, e_6082_45, e_6082_48, e_6082_49, e_6082_50, e_6082_53, e_6082_56, e_6082_57, e_6082_60, zk_int, zk_ref, zk_null, zk_none, zk_long, zisR_r, zisR_n, zcl_int, zcl_ref, zcl_null, zpush_s, zpush_n, zbs, zbn, true_or, or_true, not_false_eq_true, not_true_eq_false, ↓reduceIte, and_self, and_true, true_and, ie_0_1, ie_0_2, ie_0_3, ie_0_4, ie_0_5, ie_0_6, ie_0_7, ie_1_0, ie_1_2, ie_1_3, ie_1_4, ie_1_5, ie_1_6, ie_1_7, ie_2_0, ie_2_1, ie_2_3, ie_2_4, ie_2_5, ie_2_6, ie_2_7, ie_3_0, ie_3_1, ie_3_2, ie_3_4, ie_3_5, ie_3_6, ie_3_7, ie_4_0, ie_4_1, ie_4_2, ie_4_3, ie_4_5, ie_4_6, ie_4_7, ie_5_0, ie_5_1, ie_5_2, ie_5_3, ie_5_4, ie_5_6, ie_5_7, ie_6_0, ie_6_1, ie_6_2, ie_6_3, ie_6_4, ie_6_5, ie_6_7, ie_7_0, ie_7_1, ie_7_2, ie_7_3, ie_7_4, ie_7_5, ie_7_6, zt_50, q1, q2, r1]
      rfl
    · have b := q_hasWaiter (d := d + 39) C hy
      rcases A.2.2.1 j hj with ⟨h1, h2⟩ | ⟨h1, s', z', g1, g2, g3, g4, g5, g6, g7⟩ | ⟨h1, t', g1, g2, g3⟩
      · have t := f_toldRef_b (d := d + 37) (w := w) (zSs_j hj) (by rw [h2]; decide)
        rw [if_pos h2] at t
        have f := f_refuseFar (d := d + 37) (w := w) (c := -3) (j := 3) (by decide) (by decide)
        have n0 : ((-3 : Int32) = 0) = False := eq_false (by decide)
        have hc : cal (d + 40) 5036 [.ref 0, .int (nI j), .int (nI y)] w = some (some (.int (-3 + -1000000)), fRf w 3) := by
          simp only [c_5036, e_5036_0, e_5036_1, e_5036_2, e_5036_5, e_5036_6, e_5036_7, e_5036_10, e_5036_11, e_5036_14, e_5036_17, e_5036_18, e_5036_19, e_5036_22, e_5036_25, e_5036_26, e_5036_28, e_5036_29n, e_5036_29r, e_5036_32, e_5036_34, e_5036_37, e_5036_38, e_5036_40, e_5036_43, e_5036_44, e_5036_45, e_5036_46, e_5036_49, e_5036_50, e_5036_53, e_5036_54, e_5036_56, e_5036_59, e_5036_60, e_5036_61, e_5036_64, e_5036_65, e_5036_68, e_5036_69, e_5036_70, e_5036_73, zk_int, zk_ref, zk_null, zk_none, zk_long, zisR_r, zisR_n, zcl_int, zcl_ref, zcl_null, zpush_s, zpush_n, zbs, zbn, true_or, or_true, not_false_eq_true, not_true_eq_false, ↓reduceIte, and_self, and_true, true_and, ie_0_1, ie_0_2, ie_0_3, ie_0_4, ie_0_5, ie_0_6, ie_0_7, ie_1_0, ie_1_2, ie_1_3, ie_1_4, ie_1_5, ie_1_6, ie_1_7, ie_2_0, ie_2_1, ie_2_3, ie_2_4, ie_2_5, ie_2_6, ie_2_7, ie_3_0, ie_3_1, ie_3_2, ie_3_4, ie_3_5, ie_3_6, ie_3_7, ie_4_0, ie_4_1, ie_4_2, ie_4_3, ie_4_5, ie_4_6, ie_4_7, ie_5_0, ie_5_1, ie_5_2, ie_5_3, ie_5_4, ie_5_6, ie_5_7, ie_6_0, ie_6_1, ie_6_2, ie_6_3, ie_6_4, ie_6_5, ie_6_7, ie_7_0, ie_7_1, ie_7_2, ie_7_3, ie_7_4, ie_7_5, ie_7_6, zt_0, zr_0_0, zt_1, th, a, b, t, f, n0]
        have q := m_ro_b (d := d + 37) (x := nI y) (m_wants_0 (d := d + 37) (w := fRf w 3) hj (by rw [fRf_n (by decide)]; exact h1)) (by decide)
        have q2 := m_isWaiter (d := d + 39) (zMc_f (j := 3) M).2.1 hy
        have r := m_noLow (d := d + 39) (w := fRf w 3) (j := 3) (c := -3) (by decide) (by decide)
        refine pr_f A (by decide) hc (zKp_r _) ?_ (zKp_r _)
        simp only [c_6082, e_6082_0, e_6082_1, e_6082_2, e_6082_5, e_6082_8, e_6082_9, e_6082_10, e_6082_13, e_6082_16, e_6082_17, e_6082_18, e_6082_21, e_6082_22, e_6082_23, e_6082_24, e_6082_25, e_6082_28, e_6082_29, e_6082_30, e_6082_33, e_6082_34, e_6082_37, e_6082_38, e_6082_41, e_6082_43, e_6082_44, e_6082_45, e_6082_48, e_6082_49, e_6082_50, e_6082_53, e_6082_56, e_6082_57, e_6082_60, zk_int, zk_ref, zk_null, zk_none, zk_long, zisR_r, zisR_n, zcl_int, zcl_ref, zcl_null, zpush_s, zpush_n, zbs, zbn, true_or, or_true, not_false_eq_true, not_true_eq_false, ↓reduceIte, and_self, and_true, true_and, ie_0_1, ie_0_2, ie_0_3, ie_0_4, ie_0_5, ie_0_6, ie_0_7, ie_1_0, ie_1_2, ie_1_3, ie_1_4, ie_1_5, ie_1_6, ie_1_7, ie_2_0, ie_2_1, ie_2_3, ie_2_4, ie_2_5, ie_2_6, ie_2_7, ie_3_0, ie_3_1, ie_3_2, ie_3_4, ie_3_5, ie_3_6, ie_3_7, ie_4_0, ie_4_1, ie_4_2, ie_4_3, ie_4_5, ie_4_6, ie_4_7, ie_5_0, ie_5_1, ie_5_2, ie_5_3, ie_5_4, ie_5_6, ie_5_7, ie_6_0, ie_6_1, ie_6_2, ie_6_3, ie_6_4, ie_6_5, ie_6_7, ie_7_0, ie_7_1, ie_7_2, ie_7_3, ie_7_4, ie_7_5, ie_7_6, zt_50, q1, q2, q, r, n0]
        rfl
      · have h100 : 100 ≤ w.1 (34 + 2 * j) 1 := by rw [g4]; exact nI_le (a := 100) (by omega) (by omega)
        have t := f_toldRef (d := d + 37) (w := w) C (zSs_j hj) g5 g2 h100
        by_cases hmz : m ≤ z'
        · rw [if_pos hmz] at t
          have X := rTL_X hj g5 g2
          have f := f_firstWrong (d := d + 37) C X
          by_cases hb : fBad (rTL w j z') m 0 = -1
          · rw [hb] at f
            have gT := q_gainByTold (d := d + 34) hz (rl_z14 A) (rl_Tc A) hy (zSs_j hj) g5 g2 hmz
            obtain ⟨gv, gT⟩ := gT
            have em : ((-1 : Int32) = -1) = True := eq_true rfl
            have eE : sSe (w.1 3) (fun v => (w.2 (34 + 2 * j + 1) v).toInt32) m = sSe (w.1 3) (rTL w j z') m := by
              funext k
              unfold sSe rTL
              by_cases hk : k % 6 = 1 ∧ k / 6 < m
              · rw [if_pos hk, if_pos hk, if_pos (by omega)]
              · rw [if_neg hk, if_neg hk]
            rw [eE] at gT
            have hc : cal (d + 40) 5036 [.ref 0, .int (nI j), .int (nI y)] w = some (some (.int (sGn (w.1 2) (sSe (w.1 3) (rTL w j z') m) (w.1 4) n m y)), zO w (w.1 1) (w.1 2) (sSe (w.1 3) (rTL w j z') m) (w.1 4) gv) := by
              simp only [c_5036, e_5036_0, e_5036_1, e_5036_2, e_5036_5, e_5036_6, e_5036_7, e_5036_10, e_5036_11, e_5036_14, e_5036_17, e_5036_18, e_5036_19, e_5036_22, e_5036_25, e_5036_26, e_5036_28, e_5036_29n, e_5036_29r, e_5036_32, e_5036_34, e_5036_37, e_5036_38, e_5036_40, e_5036_43, e_5036_44, e_5036_45, e_5036_46, e_5036_49, e_5036_50, e_5036_53, e_5036_54, e_5036_56, e_5036_59, e_5036_60, e_5036_61, e_5036_64, e_5036_65, e_5036_68, e_5036_69, e_5036_70, e_5036_73, zk_int, zk_ref, zk_null, zk_none, zk_long, zisR_r, zisR_n, zcl_int, zcl_ref, zcl_null, zpush_s, zpush_n, zbs, zbn, true_or, or_true, not_false_eq_true, not_true_eq_false, ↓reduceIte, and_self, and_true, true_and, ie_0_1, ie_0_2, ie_0_3, ie_0_4, ie_0_5, ie_0_6, ie_0_7, ie_1_0, ie_1_2, ie_1_3, ie_1_4, ie_1_5, ie_1_6, ie_1_7, ie_2_0, ie_2_1, ie_2_3, ie_2_4, ie_2_5, ie_2_6, ie_2_7, ie_3_0, ie_3_1, ie_3_2, ie_3_4, ie_3_5, ie_3_6, ie_3_7, ie_4_0, ie_4_1, ie_4_2, ie_4_3, ie_4_5, ie_4_6, ie_4_7, ie_5_0, ie_5_1, ie_5_2, ie_5_3, ie_5_4, ie_5_6, ie_5_7, ie_6_0, ie_6_1, ie_6_2, ie_6_3, ie_6_4, ie_6_5, ie_6_7, ie_7_0, ie_7_1, ie_7_2, ie_7_3, ie_7_4, ie_7_5, ie_7_6, zt_0, zr_0_0, zr_0_3, zt_13, zt_1, th, a, b, t, f, gT, em]
            have hok := fBad_ok m 0 hb (by omega)
            have k1 : zKp w (zO w (w.1 1) (w.1 2) (sSe (w.1 3) (rTL w j z') m) (w.1 4) gv) := kp_O A hz.1 (fun k hk => by
              unfold sSe
              rw [if_neg (by omega)]
              exact hz.2.1 k hk) hz.2.2.1 rfl
            have M1 := zMc_kp k1 M
            have o64 : (zO w (w.1 1) (w.1 2) (sSe (w.1 3) (rTL w j z') m) (w.1 4) gv).1 64 = w.1 64 := zO_n _ _ _ _ _ _ (by decide)
            have o66 : (zO w (w.1 1) (w.1 2) (sSe (w.1 3) (rTL w j z') m) (w.1 4) gv).1 66 = w.1 66 := zO_n _ _ _ _ _ _ (by decide)
            have o2 : (zO w (w.1 1) (w.1 2) (sSe (w.1 3) (rTL w j z') m) (w.1 4) gv).2 = w.2 := rfl
            generalize zO w (w.1 1) (w.1 2) (sSe (w.1 3) (rTL w j z') m) (w.1 4) gv = Z at hc k1 M1 o64 o66 o2
            have hLL : ∀ i, i < z' → (Z.2 68 (160 * j + i)).toInt32 = rTL w j z' i := fun i hi => by rw [o2, (g7 i hi).1]; exact (if_pos hi).symm
            obtain ⟨v', q⟩ := m_ro_w (d := d + 37) (w := Z) (x := nI y) (L := rTL w j z') hj (by rw [o64]; exact h1) (by rw [o66]; exact g6) g2 M1.2.1.2.1 hm4 hmz hLL
            rw [hb] at q
            have k2 : zKp Z (zui Z 50 42 (-1)) := kp_42
            have he : ∀ i, i < m → zBt (rTL w j z' i) 0 3 := fun i hi => by
              obtain ⟨b1, b2⟩ := hok i (by omega) (by omega)
              rw [ti_le, ti_0] at b1
              rw [ti_le] at b2
              exact ⟨b1, b2⟩
            obtain ⟨W, t1, t2, t3, t4⟩ := m_ro_t (d := d) (X := zui Z 50 42 (-1)) (b := v') hj g2 hmz (zMc_kp k2 M1) (by rw [zi_s, u_eq]) hLL he hy
            have q' := q.trans t1
            have q2 := m_isWaiter (d := d + 39) M1.2.1 hy
            refine pr_k A hc k1 ?_ (zKp_t k2 t2)
            simp only [c_6082, e_6082_0, e_6082_1, e_6082_2, e_6082_5, e_6082_8, e_6082_9, e_6082_10, e_6082_13, e_6082_16, e_6082_17, e_6082_18, e_6082_21, e_6082_22, e_6082_23, e_6082_24, e_6082_25, e_6082_28, e_6082_29, e_6082_30, e_6082_33, e_6082_34, e_6082_37, e_6082_38, e_6082_41, e_6082_43, e_6082_44, e_6082_45, e_6082_48, e_6082_49, e_6082_50, e_6082_53, e_6082_56, e_6082_57, e_6082_60, zk_int, zk_ref, zk_null, zk_none, zk_long, zisR_r, zisR_n, zcl_int, zcl_ref, zcl_null, zpush_s, zpush_n, zbs, zbn, true_or, or_true, not_false_eq_true, not_true_eq_false, ↓reduceIte, and_self, and_true, true_and, ie_0_1, ie_0_2, ie_0_3, ie_0_4, ie_0_5, ie_0_6, ie_0_7, ie_1_0, ie_1_2, ie_1_3, ie_1_4, ie_1_5, ie_1_6, ie_1_7, ie_2_0, ie_2_1, ie_2_3, ie_2_4, ie_2_5, ie_2_6, ie_2_7, ie_3_0, ie_3_1, ie_3_2, ie_3_4, ie_3_5, ie_3_6, ie_3_7, ie_4_0, ie_4_1, ie_4_2, ie_4_3, ie_4_5, ie_4_6, ie_4_7, ie_5_0, ie_5_1, ie_5_2, ie_5_3, ie_5_4, ie_5_6, ie_5_7, ie_6_0, ie_6_1, ie_6_2, ie_6_3, ie_6_4, ie_6_5, ie_6_7, ie_7_0, ie_7_1, ie_7_2, ie_7_3, ie_7_4, ie_7_5, ie_7_6, zt_50, q1, q2, q', t3, t4, em]
          · have f6 := f_refuseFar (d := d + 37) (w := w) (c := -6) (j := 6) (by decide) (by decide)
            have n0 : ((-6 : Int32) = 0) = False := eq_false (by decide)
            have hc : cal (d + 40) 5036 [.ref 0, .int (nI j), .int (nI y)] w = some (some (.int (-6 + -1000000)), fRf w 6) := by
              simp only [c_5036, e_5036_0, e_5036_1, e_5036_2, e_5036_5, e_5036_6, e_5036_7, e_5036_10, e_5036_11, e_5036_14, e_5036_17, e_5036_18, e_5036_19, e_5036_22, e_5036_25, e_5036_26, e_5036_28, e_5036_29n, e_5036_29r, e_5036_32, e_5036_34, e_5036_37, e_5036_38, e_5036_40, e_5036_43, e_5036_44, e_5036_45, e_5036_46, e_5036_49, e_5036_50, e_5036_53, e_5036_54, e_5036_56, e_5036_59, e_5036_60, e_5036_61, e_5036_64, e_5036_65, e_5036_68, e_5036_69, e_5036_70, e_5036_73, zk_int, zk_ref, zk_null, zk_none, zk_long, zisR_r, zisR_n, zcl_int, zcl_ref, zcl_null, zpush_s, zpush_n, zbs, zbn, true_or, or_true, not_false_eq_true, not_true_eq_false, ↓reduceIte, and_self, and_true, true_and, ie_0_1, ie_0_2, ie_0_3, ie_0_4, ie_0_5, ie_0_6, ie_0_7, ie_1_0, ie_1_2, ie_1_3, ie_1_4, ie_1_5, ie_1_6, ie_1_7, ie_2_0, ie_2_1, ie_2_3, ie_2_4, ie_2_5, ie_2_6, ie_2_7, ie_3_0, ie_3_1, ie_3_2, ie_3_4, ie_3_5, ie_3_6, ie_3_7, ie_4_0, ie_4_1, ie_4_2, ie_4_3, ie_4_5, ie_4_6, ie_4_7, ie_5_0, ie_5_1, ie_5_2, ie_5_3, ie_5_4, ie_5_6, ie_5_7, ie_6_0, ie_6_1, ie_6_2, ie_6_3, ie_6_4, ie_6_5, ie_6_7, ie_7_0, ie_7_1, ie_7_2, ie_7_3, ie_7_4, ie_7_5, ie_7_6, zt_0, zr_0_0, zt_1, th, a, b, t, f, hb, f6]
            obtain ⟨v', q⟩ := m_ro_w (d := d + 37) (w := fRf w 6) (x := nI y) (L := rTL w j z') hj (by rw [fRf_n (by decide)]; exact h1) (by rw [fRf_n (by decide)]; exact g6) g2 (by rw [fRf_n (by decide)]; exact M.2.1.2.1) hm4 hmz (fun i hi => by rw [fRf_2, (g7 i hi).1]; exact (if_pos hi).symm)
            have e42 : (zui (fRf w 6) 50 42 (fBad (rTL w j z') m 0)).1 50 42 = fBad (rTL w j z') m 0 := by rw [zi_s, u_eq]
            have q3 := m_ro_0 (d := d + 37) (X := zui (fRf w 6) 50 42 (fBad (rTL w j z') m 0)) (x := nI y) (s := nI j) (a := 0) (b := v') (Or.inl (by rw [e42]; exact hb))
            have q' := q.trans q3
            have q2 := m_isWaiter (d := d + 39) (zMc_f (j := 6) M).2.1 hy
            have r := m_noLow (d := d + 39) (w := zui (fRf w 6) 50 42 (fBad (rTL w j z') m 0)) (j := 6) (c := -6) (by decide) (by decide)
            refine pr_f A (by decide) hc (zKp_r _) ?_ (kp_42 (v := fBad (rTL w j z') m 0))
            simp only [c_6082, e_6082_0, e_6082_1, e_6082_2, e_6082_5, e_6082_8, e_6082_9, e_6082_10, e_6082_13, e_6082_16, e_6082_17, e_6082_18, e_6082_21, e_6082_22, e_6082_23, e_6082_24, e_6082_25, e_6082_28, e_6082_29, e_6082_30, e_6082_33, e_6082_34, e_6082_37, e_6082_38, e_6082_41, e_6082_43, e_6082_44, e_6082_45, e_6082_48, e_6082_49, e_6082_50, e_6082_53, e_6082_56, e_6082_57, e_6082_60, zk_int, zk_ref, zk_null, zk_none, zk_long, zisR_r, zisR_n, zcl_int, zcl_ref, zcl_null, zpush_s, zpush_n, zbs, zbn, true_or, or_true, not_false_eq_true, not_true_eq_false, ↓reduceIte, and_self, and_true, true_and, ie_0_1, ie_0_2, ie_0_3, ie_0_4, ie_0_5, ie_0_6, ie_0_7, ie_1_0, ie_1_2, ie_1_3, ie_1_4, ie_1_5, ie_1_6, ie_1_7, ie_2_0, ie_2_1, ie_2_3, ie_2_4, ie_2_5, ie_2_6, ie_2_7, ie_3_0, ie_3_1, ie_3_2, ie_3_4, ie_3_5, ie_3_6, ie_3_7, ie_4_0, ie_4_1, ie_4_2, ie_4_3, ie_4_5, ie_4_6, ie_4_7, ie_5_0, ie_5_1, ie_5_2, ie_5_3, ie_5_4, ie_5_6, ie_5_7, ie_6_0, ie_6_1, ie_6_2, ie_6_3, ie_6_4, ie_6_5, ie_6_7, ie_7_0, ie_7_1, ie_7_2, ie_7_3, ie_7_4, ie_7_5, ie_7_6, zt_50, q1, q2, q', e42, hb, r, n0]
            rfl
        · rw [if_neg hmz] at t
          have f := f_refuseFar (d := d + 37) (w := w) (c := -5) (j := 5) (by decide) (by decide)
          have n0 : ((-5 : Int32) = 0) = False := eq_false (by decide)
          have hc : cal (d + 40) 5036 [.ref 0, .int (nI j), .int (nI y)] w = some (some (.int (-5 + -1000000)), fRf w 5) := by
            simp only [c_5036, e_5036_0, e_5036_1, e_5036_2, e_5036_5, e_5036_6, e_5036_7, e_5036_10, e_5036_11, e_5036_14, e_5036_17, e_5036_18, e_5036_19, e_5036_22, e_5036_25, e_5036_26, e_5036_28, e_5036_29n, e_5036_29r, e_5036_32, e_5036_34, e_5036_37, e_5036_38, e_5036_40, e_5036_43, e_5036_44, e_5036_45, e_5036_46, e_5036_49, e_5036_50, e_5036_53, e_5036_54, e_5036_56, e_5036_59, e_5036_60, e_5036_61, e_5036_64, e_5036_65, e_5036_68, e_5036_69, e_5036_70, e_5036_73, zk_int, zk_ref, zk_null, zk_none, zk_long, zisR_r, zisR_n, zcl_int, zcl_ref, zcl_null, zpush_s, zpush_n, zbs, zbn, true_or, or_true, not_false_eq_true, not_true_eq_false, ↓reduceIte, and_self, and_true, true_and, ie_0_1, ie_0_2, ie_0_3, ie_0_4, ie_0_5, ie_0_6, ie_0_7, ie_1_0, ie_1_2, ie_1_3, ie_1_4, ie_1_5, ie_1_6, ie_1_7, ie_2_0, ie_2_1, ie_2_3, ie_2_4, ie_2_5, ie_2_6, ie_2_7, ie_3_0, ie_3_1, ie_3_2, ie_3_4, ie_3_5, ie_3_6, ie_3_7, ie_4_0, ie_4_1, ie_4_2, ie_4_3, ie_4_5, ie_4_6, ie_4_7, ie_5_0, ie_5_1, ie_5_2, ie_5_3, ie_5_4, ie_5_6, ie_5_7, ie_6_0, ie_6_1, ie_6_2, ie_6_3, ie_6_4, ie_6_5, ie_6_7, ie_7_0, ie_7_1, ie_7_2, ie_7_3, ie_7_4, ie_7_5, ie_7_6, zt_0, zr_0_0, zt_1, th, a, b, t, f, n0]
          have q := m_ro_5 (d := d + 37) (w := fRf w 5) (x := nI y) hj (by rw [fRf_n (by decide)]; exact h1) (by rw [fRf_n (by decide)]; exact g6) g2 (by rw [fRf_n (by decide)]; exact M.2.1.2.1) hm4 hmz
          have q2 := m_isWaiter (d := d + 39) (zMc_f (j := 5) M).2.1 hy
          have r := m_noLow (d := d + 39) (w := fRf w 5) (j := 5) (c := -5) (by decide) (by decide)
          refine pr_f A (by decide) hc (zKp_r _) ?_ (zKp_r _)
          simp only [c_6082, e_6082_0, e_6082_1, e_6082_2, e_6082_5, e_6082_8, e_6082_9, e_6082_10, e_6082_13, e_6082_16, e_6082_17, e_6082_18, e_6082_21, e_6082_22, e_6082_23, e_6082_24, e_6082_25, e_6082_28, e_6082_29, e_6082_30, e_6082_33, e_6082_34, e_6082_37, e_6082_38, e_6082_41, e_6082_43, e_6082_44, e_6082_45, e_6082_48, e_6082_49, e_6082_50, e_6082_53, e_6082_56, e_6082_57, e_6082_60, zk_int, zk_ref, zk_null, zk_none, zk_long, zisR_r, zisR_n, zcl_int, zcl_ref, zcl_null, zpush_s, zpush_n, zbs, zbn, true_or, or_true, not_false_eq_true, not_true_eq_false, ↓reduceIte, and_self, and_true, true_and, ie_0_1, ie_0_2, ie_0_3, ie_0_4, ie_0_5, ie_0_6, ie_0_7, ie_1_0, ie_1_2, ie_1_3, ie_1_4, ie_1_5, ie_1_6, ie_1_7, ie_2_0, ie_2_1, ie_2_3, ie_2_4, ie_2_5, ie_2_6, ie_2_7, ie_3_0, ie_3_1, ie_3_2, ie_3_4, ie_3_5, ie_3_6, ie_3_7, ie_4_0, ie_4_1, ie_4_2, ie_4_3, ie_4_5, ie_4_6, ie_4_7, ie_5_0, ie_5_1, ie_5_2, ie_5_3, ie_5_4, ie_5_6, ie_5_7, ie_6_0, ie_6_1, ie_6_2, ie_6_3, ie_6_4, ie_6_5, ie_6_7, ie_7_0, ie_7_1, ie_7_2, ie_7_3, ie_7_4, ie_7_5, ie_7_6, zt_50, q1, q2, q, r, n0]
          rfl
      · have hne : ¬ w.1 (34 + 2 * j) 1 = -1 := by rw [g3]; exact nI_neN (by omega)
        have t := f_toldRef_b (d := d + 37) (w := w) (zSs_j hj) (by rw [g3]; exact nI_ge (b := 100) (by omega) (by decide))
        rw [if_neg hne] at t
        have f := f_refuseFar (d := d + 37) (w := w) (c := -2) (j := 2) (by decide) (by decide)
        have n0 : ((-2 : Int32) = 0) = False := eq_false (by decide)
        have hc : cal (d + 40) 5036 [.ref 0, .int (nI j), .int (nI y)] w = some (some (.int (-2 + -1000000)), fRf w 2) := by
          simp only [c_5036, e_5036_0, e_5036_1, e_5036_2, e_5036_5, e_5036_6, e_5036_7, e_5036_10, e_5036_11, e_5036_14, e_5036_17, e_5036_18, e_5036_19, e_5036_22, e_5036_25, e_5036_26, e_5036_28, e_5036_29n, e_5036_29r, e_5036_32, e_5036_34, e_5036_37, e_5036_38, e_5036_40, e_5036_43, e_5036_44, e_5036_45, e_5036_46, e_5036_49, e_5036_50, e_5036_53, e_5036_54, e_5036_56, e_5036_59, e_5036_60, e_5036_61, e_5036_64, e_5036_65, e_5036_68, e_5036_69, e_5036_70, e_5036_73, zk_int, zk_ref, zk_null, zk_none, zk_long, zisR_r, zisR_n, zcl_int, zcl_ref, zcl_null, zpush_s, zpush_n, zbs, zbn, true_or, or_true, not_false_eq_true, not_true_eq_false, ↓reduceIte, and_self, and_true, true_and, ie_0_1, ie_0_2, ie_0_3, ie_0_4, ie_0_5, ie_0_6, ie_0_7, ie_1_0, ie_1_2, ie_1_3, ie_1_4, ie_1_5, ie_1_6, ie_1_7, ie_2_0, ie_2_1, ie_2_3, ie_2_4, ie_2_5, ie_2_6, ie_2_7, ie_3_0, ie_3_1, ie_3_2, ie_3_4, ie_3_5, ie_3_6, ie_3_7, ie_4_0, ie_4_1, ie_4_2, ie_4_3, ie_4_5, ie_4_6, ie_4_7, ie_5_0, ie_5_1, ie_5_2, ie_5_3, ie_5_4, ie_5_6, ie_5_7, ie_6_0, ie_6_1, ie_6_2, ie_6_3, ie_6_4, ie_6_5, ie_6_7, ie_7_0, ie_7_1, ie_7_2, ie_7_3, ie_7_4, ie_7_5, ie_7_6, zt_0, zr_0_0, zt_1, th, a, b, t, f, n0]
        have q := m_ro_b (d := d + 37) (x := nI y) (m_wants_2 (d := d + 37) (w := fRf w 2) hj (by rw [fRf_n (by decide)]; exact h1)) (by decide)
        have q2 := m_isWaiter (d := d + 39) (zMc_f (j := 2) M).2.1 hy
        have r := m_noLow (d := d + 39) (w := fRf w 2) (j := 2) (c := -2) (by decide) (by decide)
        refine pr_f A (by decide) hc (zKp_r _) ?_ (zKp_r _)
        simp only [c_6082, e_6082_0, e_6082_1, e_6082_2, e_6082_5, e_6082_8, e_6082_9, e_6082_10, e_6082_13, e_6082_16, e_6082_17, e_6082_18, e_6082_21, e_6082_22, e_6082_23, e_6082_24, e_6082_25, e_6082_28, e_6082_29, e_6082_30, e_6082_33, e_6082_34, e_6082_37, e_6082_38, e_6082_41, e_6082_43, e_6082_44, e_6082_45, e_6082_48, e_6082_49, e_6082_50, e_6082_53, e_6082_56, e_6082_57, e_6082_60, zk_int, zk_ref, zk_null, zk_none, zk_long, zisR_r, zisR_n, zcl_int, zcl_ref, zcl_null, zpush_s, zpush_n, zbs, zbn, true_or, or_true, not_false_eq_true, not_true_eq_false, ↓reduceIte, and_self, and_true, true_and, ie_0_1, ie_0_2, ie_0_3, ie_0_4, ie_0_5, ie_0_6, ie_0_7, ie_1_0, ie_1_2, ie_1_3, ie_1_4, ie_1_5, ie_1_6, ie_1_7, ie_2_0, ie_2_1, ie_2_3, ie_2_4, ie_2_5, ie_2_6, ie_2_7, ie_3_0, ie_3_1, ie_3_2, ie_3_4, ie_3_5, ie_3_6, ie_3_7, ie_4_0, ie_4_1, ie_4_2, ie_4_3, ie_4_5, ie_4_6, ie_4_7, ie_5_0, ie_5_1, ie_5_2, ie_5_3, ie_5_4, ie_5_6, ie_5_7, ie_6_0, ie_6_1, ie_6_2, ie_6_3, ie_6_4, ie_6_5, ie_6_7, ie_7_0, ie_7_1, ie_7_2, ie_7_3, ie_7_4, ie_7_5, ie_7_6, zt_50, q1, q2, q, r, n0]
        rfl
end PT
