def rIv (n m : Nat) (T V G : Nat → Int32) : Prop := zRg T V G n m ∧ (∀ x, x < m → zBt (V (6 * x + 0)) 0 6) ∧ (∀ k, 40 ≤ k → T k = 0) ∧ (∀ k, 24 ≤ k → V k = 0) ∧ ∀ k, 5 ≤ k → G k = 0
def rIh (H : rHo) : Prop := rIv H.1 H.2.1 H.2.2.1 H.2.2.2.1 H.2.2.2.2
theorem up5 {G : Nat → Int32} {a : Nat} {v : Int32} (ha : a < 5) (h : ∀ k, 5 ≤ k → G k = 0) : ∀ k, 5 ≤ k → upd G a v k = 0 := fun k hk => by
  rw [u_ne (by omega)]
  exact h k hk
theorem bt_of {v : Int32} {a b : Int32} {i j : Int} (h : a ≤ v ∧ v ≤ b) (ha : a.toInt = i) (hb : b.toInt = j) : zBt v i j := by
  obtain ⟨h1, h2⟩ := h
  rw [ti_le] at h1 h2
  unfold zBt
  omega
section QF
variable {d n m j z p p0 : Nat} {w w1 w2 X X0 : zM} {L N : Nat → Int32} {T V G : Nat → Int32}
theorem rTh_iv {i : Nat} {H : rHo} (hi : i < 5) (hr : ¬ ((i = 0 ∧ ¬ H.2.1 < 4) ∨ (i = 1 ∧ ¬ H.1 < 8))) (hk : ∀ k, k < rCnt i → rOk H.2.1 i k (N k)) (I : rIh H) : rIh (rTh H i N) := by
  obtain ⟨R, s6, tT, tV, tG⟩ := I
  rcases (by omega : i = 0 ∨ i = 1 ∨ i = 2 ∨ i = 3 ∨ i = 4) with rfl | rfl | rfl | rfl | rfl
  · have hm : H.2.1 < 4 := by omega
    have ok : sOkW (N 0) (N 1) (N 2) := ⟨hk 0 (by decide), hk 1 (by decide), hk 2 (by decide)⟩
    exact ⟨zRg_W R hm ok, sk_W s6 ok, tT, sWtr_z hm tV, tG⟩
  · have hn : H.1 < 8 := by omega
    have hm4 : H.2.1 ≤ 4 := R.2.2.2.2.2.2.2.2
    have h4 : 0 ≤ N 4 ∧ N 4 ≤ nI H.2.1 - 1 := hk 4 (by decide)
    obtain ⟨y, hy, hN⟩ := nI_of4 h4.1 ((i32_lt_sub hm4 h4.1).mp h4.2) hm4
    have e : rTh H 1 N = (H.1 + 1, H.2.1, upd (sGst H.2.2.1 H.1 (N 0) (N 1) (N 2) (N 3)) (5 * H.1 + 4) (N 4), H.2.2.2.1, H.2.2.2.2) := rfl
    rw [e, hN]
    exact ⟨zRg_T R hn (kind_b (hk 0 (by decide))) (sOkT_b ⟨hk 1 (by decide), hk 2 (by decide), hk 3 (by decide)⟩) hy, s6, sTbl_z hn tT, tV, tG⟩
  · exact ⟨zRg_G0 R (bt_of (a := 0) (b := 3) (hk 0 (by decide)) (by decide) (by decide)), s6, tT, tV, up5 (by decide) tG⟩
  · exact ⟨zRg_G1 R (bt_of (a := 0) (b := 30) (hk 0 (by decide)) (by decide) (by decide)), s6, tT, tV, up5 (by decide) tG⟩
  · exact ⟨zRg_Gn (zRg_Gn (zRg_Gn R (by omega) (bt_of (a := 0) (b := 99) (hk 0 (by decide)) (by decide) (by decide))) (by omega) (bt_of (a := 0) (b := 99) (hk 1 (by decide)) (by decide) (by decide))) (by omega) (bt_of (a := 0) (b := 99) (hk 2 (by decide)) (by decide) (by decide)), s6, tT, tV, up5 (by decide) (up5 (by decide) (up5 (by decide) tG))⟩
theorem rItm_iv {H : rHo} (I : rIh H) (ho : (rItm L H.1 H.2.1 p N).1 = true) : rIh (rTh H (rIx L p) (rItm L H.1 H.2.1 p N).2.2.2) := by
  rcases rBy_c (L p) with hb | ⟨b, hb5, hb⟩
  · rw [rItm_n hb] at ho
    exact absurd ho Bool.false_ne_true
  · rw [rIx_i hb5 hb]
    rw [rItm_i hb5 hb] at ho ⊢
    by_cases h1 : (rWrd L (rStr (2000 + b)) p).1 = true
    · rw [if_pos h1] at ho ⊢
      by_cases h2 : (b = 0 ∧ ¬ H.2.1 < 4) ∨ (b = 1 ∧ ¬ H.1 < 8)
      · rw [if_pos h2] at ho
        exact absurd ho Bool.false_ne_true
      · rw [if_neg h2] at ho ⊢
        refine rTh_iv hb5 h2 (fun k hk => ?_) I
        exact rNs_ok (rCnt b) 0 _ N ho (fun k hk => absurd hk (Nat.not_lt_zero k)) k (by omega)
    · rw [if_neg h1] at ho
      exact absurd ho Bool.false_ne_true
theorem rRd_s (r k : Nat) (H : rHo) (N : Nat → Int32) : rRd L z (r + 1) k p H N = if (rItm L H.1 H.2.1 p N).1 = true then (if (rItm L H.1 H.2.1 p N).2.1 < z then (if L (rItm L H.1 H.2.1 p N).2.1 = 59 then rRd L z r (k + 1) ((rItm L H.1 H.2.1 p N).2.1 + 1) (rTh H (rIx L p) (rItm L H.1 H.2.1 p N).2.2.2) (rItm L H.1 H.2.1 p N).2.2.2 else (false, k + 1, (rItm L H.1 H.2.1 p N).2.1, (rItm L H.1 H.2.1 p N).2.1, rTh H (rIx L p) (rItm L H.1 H.2.1 p N).2.2.2, (rItm L H.1 H.2.1 p N).2.2.2)) else (true, k + 1, (rItm L H.1 H.2.1 p N).2.1, 0, rTh H (rIx L p) (rItm L H.1 H.2.1 p N).2.2.2, (rItm L H.1 H.2.1 p N).2.2.2)) else (false, k, (rItm L H.1 H.2.1 p N).2.1, (rItm L H.1 H.2.1 p N).2.2.1, H, (rItm L H.1 H.2.1 p N).2.2.2) := rfl
theorem rRd_iv : ∀ r k p H N, rIh H → rIh (rRd L z r k p H N).2.2.2.2.1 := by
  intro r
  induction r with
  | zero => intro k p H N I; exact I
  | succ r ih =>
    intro k p H N I
    rw [rRd_s]
    by_cases h1 : (rItm L H.1 H.2.1 p N).1 = true
    · have I' := rItm_iv I h1
      rw [if_pos h1]
      by_cases h2 : (rItm L H.1 H.2.1 p N).2.1 < z
      · rw [if_pos h2]
        by_cases h3 : L (rItm L H.1 H.2.1 p N).2.1 = 59
        · rw [if_pos h3]
          exact ih _ _ _ _ I'
        · rw [if_neg h3]
          exact I'
      · rw [if_neg h2]
        exact I'
    · rw [if_neg h1]
      exact I
theorem rRd_le : ∀ r k p H N, H.1 ≤ (rRd L z r k p H N).2.2.2.2.1.1 := by
  intro r
  induction r with
  | zero => intro k p H N; exact Nat.le_refl _
  | succ r ih =>
    intro k p H N
    have g : H.1 ≤ (rTh H (rIx L p) (rItm L H.1 H.2.1 p N).2.2.2).1 := by
      unfold rTh
      by_cases a0 : rIx L p = 0
      · rw [if_pos a0]; exact Nat.le_refl _
      · rw [if_neg a0]
        by_cases a1 : rIx L p = 1
        · rw [if_pos a1]; exact Nat.le_succ _
        · rw [if_neg a1]
          by_cases a2 : rIx L p = 2
          · rw [if_pos a2]; exact Nat.le_refl _
          · rw [if_neg a2]
            by_cases a3 : rIx L p = 3
            · rw [if_pos a3]; exact Nat.le_refl _
            · rw [if_neg a3]; exact Nat.le_refl _
    rw [rRd_s]
    by_cases h1 : (rItm L H.1 H.2.1 p N).1 = true
    · rw [if_pos h1]
      by_cases h2 : (rItm L H.1 H.2.1 p N).2.1 < z
      · rw [if_pos h2]
        by_cases h3 : L (rItm L H.1 H.2.1 p N).2.1 = 59
        · rw [if_pos h3]
          exact Nat.le_trans g (ih _ _ _ _)
        · rw [if_neg h3]
          exact g
      · rw [if_neg h2]
        exact g
    · rw [if_neg h1]
      exact Nat.le_refl _
theorem m_h_l (E0 : mE X0 j z p0 L) {s b : Int32} : ∀ r k p H N X o4, z < r + p → p ≤ z → mI X0 X H.1 H.2.1 H.2.2.1 H.2.2.2.1 H.2.2.2.2 → X.1 50 30 = nI p → ∃ X',
    ((rRd L z r k p H N).1 = true → den (d + 3) 6040 56 [some (.ref 50), some (.int s), some (.int b), some (.int (nI (k + 1))), o4] [] X = some (some (.int (nI (rRd L z r k p H N).2.1)), X') ∧ mI X0 X' (rRd L z r k p H N).2.2.2.2.1.1 (rRd L z r k p H N).2.2.2.2.1.2.1 (rRd L z r k p H N).2.2.2.2.1.2.2.1 (rRd L z r k p H N).2.2.2.2.1.2.2.2.1 (rRd L z r k p H N).2.2.2.2.1.2.2.2.2) ∧
    ((rRd L z r k p H N).1 = false → ∃ c, den (d + 3) 6040 56 [some (.ref 50), some (.int s), some (.int b), some (.int (nI (k + 1))), o4] [] X = den (d + 3) 6040 140 [some (.ref 50), some (.int s), some (.int b), some (.int c), some (.int 0)] [] X' ∧ X'.1 50 33 = nI (rRd L z r k p H N).2.2.2.1 ∧ mFr X0 X') := by
  intro r
  induction r with
  | zero => intro k p H N X o4 h1 h2; omega
  | succ r ih =>
    intro k p H N X o4 hz hpz I h30
    obtain ⟨e1, e2, e3, e4, e5, e6, e7, e8⟩ := id E0
    obtain ⟨X1, t1, t2⟩ := m_item (d := d) (N := N) E0 I h30 (by omega)
    have n8 := I.2.2.2.2.1
    have m4 := I.2.2.2.2.2
    rw [rRd_s]
    by_cases h1 : (rItm L H.1 H.2.1 p N).1 = true
    · obtain ⟨q, q30, I'⟩ := t1 h1
      have bd := rItm_ok n8 m4 h1
      have I1 : mI X0 X1 (rTh H (rIx L p) (rItm L H.1 H.2.1 p N).2.2.2).1 (rTh H (rIx L p) (rItm L H.1 H.2.1 p N).2.2.2).2.1 (rTh H (rIx L p) (rItm L H.1 H.2.1 p N).2.2.2).2.2.1 (rTh H (rIx L p) (rItm L H.1 H.2.1 p N).2.2.2).2.2.2.1 (rTh H (rIx L p) (rItm L H.1 H.2.1 p N).2.2.2).2.2.2.2 := I'
      have E1 := mI_E (q := (rItm L H.1 H.2.1 p N).2.1) E0 I1.1 q30
      rw [if_pos h1]
      generalize (rItm L H.1 H.2.1 p N).2.2.2 = N' at *
      generalize hp2 : (rItm L H.1 H.2.1 p N).2.1 = p2 at *
      generalize hH : rTh H (rIx L p) N' = H' at *
      obtain ⟨y1, y2, y3, y4, y5, y6, y7, y8⟩ := id E1
      have st : den (d + 3) 6040 56 [some (.ref 50), some (.int s), some (.int b), some (.int (nI (k + 1))), o4] [] X = den (d + 3) 6040 62 [some (.ref 50), some (.int s), some (.int b), some (.int (nI (k + 1))), some (.int 1)] [] X1 := by
        rw [e_6040_56 zisR_r]
        simp only [e_6040_57, e_6040_60, zk_int, zk_ref, zk_null, zk_none, zk_long, zisR_r, zisR_n, zcl_int, zcl_ref, zcl_null, zpush_s, zpush_n, zbs, zbn, true_or, or_true, not_false_eq_true, not_true_eq_false, ↓reduceIte, and_self, and_true, true_and, zt_50, q]
      by_cases h2 : p2 < z
      · rw [if_pos h2]
        have l1 := nI_ge_f h2 (by omega)
        have hz2 := zis_nI (j := 160 * j + p2) (n := 1280) (by omega) (by decide)
        have hc2 := nI_clamp (n := 160 * j + p2) (by omega)
        have v2 := y4 p2 h2
        by_cases h3 : L p2 = 59
        · rw [if_pos h3]
          have h3' : (L p2 = 59) = True := eq_true h3
          have EI : mI X0 (zui X1 50 30 (nI (p2 + 1))) H'.1 H'.2.1 H'.2.2.1 H'.2.2.2.1 H'.2.2.2.2 := mI_50 I1 (by omega)
          obtain ⟨X', s1, s2⟩ := ih (k + 1) (p2 + 1) H' N' (zui X1 50 30 (nI (p2 + 1))) (some (.int 1)) (by omega) (by omega) EI (by rw [zi_s, u_eq])
          have go : den (d + 3) 6040 62 [some (.ref 50), some (.int s), some (.int b), some (.int (nI (k + 1))), some (.int 1)] [] X1 = den (d + 3) 6040 56 [some (.ref 50), some (.int s), some (.int b), some (.int (nI (k + 1 + 1))), some (.int 1)] [] (zui X1 50 30 (nI (p2 + 1))) := by
            obtain ⟨Y, u1, u2⟩ := m_item (d := d) (N := N') E0 EI (p := p2 + 1) (by rw [zi_s, u_eq]) (by omega)
            rw [e_6040_62, e_6040_56 zisR_r]
            cases hg : (rItm L H'.1 H'.2.1 (p2 + 1) N').1 with
            | true =>
              obtain ⟨g, -⟩ := u1 hg
              simp only [e_6040_57, e_6040_60, e_6040_64, e_6040_67, e_6040_68, e_6040_71, e_6040_72, e_6040_75, e_6040_78, e_6040_79, e_6040_82, e_6040_83, e_6040_86, e_6040_87, e_6040_90, e_6040_91, e_6040_92, e_6040_93, e_6040_95, e_6040_111, e_6040_112, e_6040_113, e_6040_116, e_6040_117, e_6040_118, e_6040_121, e_6040_124, e_6040_125, e_6040_128, e_6040_130, zk_int, zk_ref, zk_null, zk_none, zk_long, zisR_r, zisR_n, zcl_int, zcl_ref, zcl_null, zpush_s, zpush_n, zbs, zbn, true_or, or_true, not_false_eq_true, not_true_eq_false, ↓reduceIte, and_self, and_true, true_and, ie_0_1, ie_0_2, ie_0_3, ie_0_4, ie_0_5, ie_0_6, ie_0_7, ie_1_0, ie_1_2, ie_1_3, ie_1_4, ie_1_5, ie_1_6, ie_1_7, ie_2_0, ie_2_1, ie_2_3, ie_2_4, ie_2_5, ie_2_6, ie_2_7, ie_3_0, ie_3_1, ie_3_2, ie_3_4, ie_3_5, ie_3_6, ie_3_7, ie_4_0, ie_4_1, ie_4_2, ie_4_3, ie_4_5, ie_4_6, ie_4_7, ie_5_0, ie_5_1, ie_5_2, ie_5_3, ie_5_4, ie_5_6, ie_5_7, ie_6_0, ie_6_1, ie_6_2, ie_6_3, ie_6_4, ie_6_5, ie_6_7, ie_7_0, ie_7_1, ie_7_2, ie_7_3, ie_7_4, ie_7_5, ie_7_6, zt_50, zr_50_25, zt_68, zn_68, zq_68, y1, q30, y3, l1, nI_add, hz2, hc2, v2, h3', nI_1, g]
            | false =>
              obtain ⟨g, -⟩ := u2 hg
              simp only [e_6040_57, e_6040_60, e_6040_64, e_6040_67, e_6040_68, e_6040_71, e_6040_72, e_6040_75, e_6040_78, e_6040_79, e_6040_82, e_6040_83, e_6040_86, e_6040_87, e_6040_90, e_6040_91, e_6040_92, e_6040_93, e_6040_95, e_6040_111, e_6040_112, e_6040_113, e_6040_116, e_6040_117, e_6040_118, e_6040_121, e_6040_124, e_6040_125, e_6040_128, e_6040_130, zk_int, zk_ref, zk_null, zk_none, zk_long, zisR_r, zisR_n, zcl_int, zcl_ref, zcl_null, zpush_s, zpush_n, zbs, zbn, true_or, or_true, not_false_eq_true, not_true_eq_false, ↓reduceIte, and_self, and_true, true_and, ie_0_1, ie_0_2, ie_0_3, ie_0_4, ie_0_5, ie_0_6, ie_0_7, ie_1_0, ie_1_2, ie_1_3, ie_1_4, ie_1_5, ie_1_6, ie_1_7, ie_2_0, ie_2_1, ie_2_3, ie_2_4, ie_2_5, ie_2_6, ie_2_7, ie_3_0, ie_3_1, ie_3_2, ie_3_4, ie_3_5, ie_3_6, ie_3_7, ie_4_0, ie_4_1, ie_4_2, ie_4_3, ie_4_5, ie_4_6, ie_4_7, ie_5_0, ie_5_1, ie_5_2, ie_5_3, ie_5_4, ie_5_6, ie_5_7, ie_6_0, ie_6_1, ie_6_2, ie_6_3, ie_6_4, ie_6_5, ie_6_7, ie_7_0, ie_7_1, ie_7_2, ie_7_3, ie_7_4, ie_7_5, ie_7_6, zt_50, zr_50_25, zt_68, zn_68, zq_68, y1, q30, y3, l1, nI_add, hz2, hc2, v2, h3', nI_1, g]
          refine ⟨X', fun h => ?_, fun h => ?_⟩
          · obtain ⟨g1, g2⟩ := s1 h
            exact ⟨st.trans (go.trans g1), g2⟩
          · obtain ⟨c, g1, g2⟩ := s2 h
            exact ⟨c, st.trans (go.trans g1), g2⟩
        · rw [if_neg h3]
          have wr := m_wrong (d := d + 2) (X := X1) (x := nI p2)
          refine ⟨zui X1 50 33 (nI p2), fun h => absurd h Bool.false_ne_true, fun _ => ⟨nI (k + 1), ?_, by rw [zi_s, u_eq], mFr_t I1.1 (mFr_50 (by omega))⟩⟩
          have go : den (d + 3) 6040 62 [some (.ref 50), some (.int s), some (.int b), some (.int (nI (k + 1))), some (.int 1)] [] X1 = den (d + 3) 6040 62 [some (.ref 50), some (.int s), some (.int b), some (.int (nI (k + 1))), some (.int 0)] [] (zui X1 50 33 (nI p2)) := by
            rw [e_6040_62]
            simp only [e_6040_64, e_6040_67, e_6040_68, e_6040_71, e_6040_72, e_6040_75, e_6040_78, e_6040_79, e_6040_82, e_6040_83, e_6040_86, e_6040_87, e_6040_90, e_6040_91, e_6040_92, e_6040_93, e_6040_95, e_6040_98, e_6040_99, e_6040_100, e_6040_103, e_6040_106, e_6040_108, zk_int, zk_ref, zk_null, zk_none, zk_long, zisR_r, zisR_n, zcl_int, zcl_ref, zcl_null, zpush_s, zpush_n, zbs, zbn, true_or, or_true, not_false_eq_true, not_true_eq_false, ↓reduceIte, and_self, and_true, true_and, ie_0_1, ie_0_2, ie_0_3, ie_0_4, ie_0_5, ie_0_6, ie_0_7, ie_1_0, ie_1_2, ie_1_3, ie_1_4, ie_1_5, ie_1_6, ie_1_7, ie_2_0, ie_2_1, ie_2_3, ie_2_4, ie_2_5, ie_2_6, ie_2_7, ie_3_0, ie_3_1, ie_3_2, ie_3_4, ie_3_5, ie_3_6, ie_3_7, ie_4_0, ie_4_1, ie_4_2, ie_4_3, ie_4_5, ie_4_6, ie_4_7, ie_5_0, ie_5_1, ie_5_2, ie_5_3, ie_5_4, ie_5_6, ie_5_7, ie_6_0, ie_6_1, ie_6_2, ie_6_3, ie_6_4, ie_6_5, ie_6_7, ie_7_0, ie_7_1, ie_7_2, ie_7_3, ie_7_4, ie_7_5, ie_7_6, zt_50, zr_50_25, zt_68, zn_68, zq_68, y1, q30, y3, l1, nI_add, hz2, hc2, v2, h3, wr]
          rw [st, go, e_6040_62]
          simp only [e_6040_64, e_6040_133, e_6040_135, zk_int, zk_ref, zk_null, zk_none, zk_long, zisR_r, zisR_n, zcl_int, zcl_ref, zcl_null, zpush_s, zpush_n, zbs, zbn, true_or, or_true, not_false_eq_true, not_true_eq_false, ↓reduceIte, and_self, and_true, true_and]
      · rw [if_neg h2]
        have l1 := nI_le_n (a := z) (b := p2) (by omega) (by omega)
        refine ⟨X1, fun _ => ⟨?_, I1⟩, fun h => absurd h.symm Bool.false_ne_true⟩
        rw [st, e_6040_62]
        simp only [e_6040_64, e_6040_67, e_6040_68, e_6040_71, e_6040_72, e_6040_75, e_6040_133, e_6040_135, e_6040_138, e_6040_139, zk_int, zk_ref, zk_null, zk_none, zk_long, zisR_r, zisR_n, zcl_int, zcl_ref, zcl_null, zpush_s, zpush_n, zbs, zbn, true_or, or_true, not_false_eq_true, not_true_eq_false, ↓reduceIte, and_self, and_true, true_and, ie_0_1, ie_0_2, ie_0_3, ie_0_4, ie_0_5, ie_0_6, ie_0_7, ie_1_0, ie_1_2, ie_1_3, ie_1_4, ie_1_5, ie_1_6, ie_1_7, ie_2_0, ie_2_1, ie_2_3, ie_2_4, ie_2_5, ie_2_6, ie_2_7, ie_3_0, ie_3_1, ie_3_2, ie_3_4, ie_3_5, ie_3_6, ie_3_7, ie_4_0, ie_4_1, ie_4_2, ie_4_3, ie_4_5, ie_4_6, ie_4_7, ie_5_0, ie_5_1, ie_5_2, ie_5_3, ie_5_4, ie_5_6, ie_5_7, ie_6_0, ie_6_1, ie_6_2, ie_6_3, ie_6_4, ie_6_5, ie_6_7, ie_7_0, ie_7_1, ie_7_2, ie_7_3, ie_7_4, ie_7_5, ie_7_6, zt_50, q30, y3, l1]
    · have h1' : (rItm L H.1 H.2.1 p N).1 = false := by cases h : (rItm L H.1 H.2.1 p N).1 with
        | true => exact absurd h h1
        | false => rfl
      obtain ⟨q, q33, F⟩ := t2 h1'
      rw [if_neg h1]
      refine ⟨X1, fun h => absurd h Bool.false_ne_true, fun _ => ⟨nI (k + 1), ?_, q33, F⟩⟩
      rw [e_6040_56 zisR_r]
      simp only [e_6040_57, e_6040_60, zk_int, zk_ref, zk_null, zk_none, zk_long, zisR_r, zisR_n, zcl_int, zcl_ref, zcl_null, zpush_s, zpush_n, zbs, zbn, true_or, or_true, not_false_eq_true, not_true_eq_false, ↓reduceIte, and_self, and_true, true_and, zt_50, q]
      rw [e_6040_62]
      simp only [e_6040_64, e_6040_133, e_6040_135, zk_int, zk_ref, zk_null, zk_none, zk_long, zisR_r, zisR_n, zcl_int, zcl_ref, zcl_null, zpush_s, zpush_n, zbs, zbn, true_or, or_true, not_false_eq_true, not_true_eq_false, ↓reduceIte, and_self, and_true, true_and]
end QF
