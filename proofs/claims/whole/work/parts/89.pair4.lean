section PF
variable {d n m n2 m2 : Nat} {w w1 w2 : zM} {S : Nat → Int32} {L : Int32} {T V G : Nat → Int32}
def mAdT (w : zM) (n : Nat) (k b p a y : Int32) : zM := zui (zui (zui (zui (zui (zui w 52 n k) 53 n b) 54 n p) 55 n a) 56 n y) 50 0 (nI (n + 1))
theorem mAdT_s (A : zMs w T V G) {k b p a y : Int32} (hn : n < 8) : zMs (mAdT w n k b p a y) (upd (sGst T n k b p a) (5 * n + 4) y) V G := by
  have a0 := zMs_T0 (y := n) (e := k) A hn
  rw [← zui_A] at a0
  have a1 := zMs_T1 (y := n) (e := b) a0 hn
  rw [← zui_A] at a1
  have a2 := zMs_T2 (y := n) (e := p) a1 hn
  rw [← zui_A] at a2
  have a3 := zMs_T3 (y := n) (e := a) a2 hn
  rw [← zui_A] at a3
  have a4 := zMs_T4 (y := n) (e := y) a3 hn
  rw [← zui_A] at a4
  exact zMs_k a4 ⟨by unfold mAdT; rw [zi_s, u_ne (by decide)], by unfold mAdT; rw [zi_s, u_ne (by decide)]⟩ (fun a h1 h2 => by unfold mAdT; rw [zi_n _ (by omega)])
theorem mAdT_h {k b p a y : Int32} : zKh w (mAdT w n k b p a y) :=
  zKh_t (zKh_t (zKh_t (zKh_t (zKh_t (zKh_i (by omega)) (zKh_i (by omega))) (zKh_i (by omega))) (zKh_i (by omega))) (zKh_i (by omega))) (zKh_50 (by omega))
theorem mAdT_50 {k b p a y : Int32} {j : Nat} : (mAdT w n k b p a y).1 50 j = upd (w.1 50) 0 (nI (n + 1)) j := by
  unfold mAdT
  rw [zi_s, zi_n _ (by decide), zi_n _ (by decide), zi_n _ (by decide), zi_n _ (by decide), zi_n _ (by decide)]
theorem mAdT_n {k b p a y : Int32} {j : Nat} (h : j < 50) : (mAdT w n k b p a y).1 j = w.1 j := by
  unfold mAdT
  rw [zi_n _ (by omega), zi_n _ (by omega), zi_n _ (by omega), zi_n _ (by omega), zi_n _ (by omega), zi_n _ (by omega)]
theorem m_adds {k b p a y : Int32} (h1 : w.1 50 0 = nI n) (hn : n < 8) : cal d 6020 [.ref 50, .int k, .int b, .int p, .int a, .int y] w = some (some (.int (nI n)), mAdT w n k b p a y) := by
  have hz := zis_nI hn (by decide)
  have hc := nI_clamp (n := n) (by omega)
  have n0 : ∀ (w : zM) a k v, a ≠ 50 → (zui w a k v).1 50 = w.1 50 := fun w a k v h => zi_n _ (fun e => h e.symm)
  simp only [c_6020, e_6020_0, e_6020_1, e_6020_4, e_6020_5, e_6020_8, e_6020_9, e_6020_10, e_6020_11, e_6020_14, e_6020_15, e_6020_18, e_6020_19, e_6020_20, e_6020_21, e_6020_24, e_6020_25, e_6020_28, e_6020_29, e_6020_30, e_6020_31, e_6020_34, e_6020_35, e_6020_38, e_6020_40, e_6020_41, e_6020_42, e_6020_45, e_6020_46, e_6020_49, e_6020_51, e_6020_52, e_6020_53, e_6020_54, e_6020_57, e_6020_58, e_6020_59, e_6020_60, e_6020_63, zk_int, zk_ref, zk_null, zk_none, zk_long, zisR_r, zisR_n, zcl_int, zcl_ref, zcl_null, zpush_s, zpush_n, zbs, zbn, true_or, or_true, not_false_eq_true, not_true_eq_false, ↓reduceIte, and_self, and_true, true_and, zt_50, zr_50_9, zt_52, zn_52, zo_52, zl_52, zq_52, zr_50_10, zt_53, zn_53, zo_53, zl_53, zq_53, zr_50_11, zt_54, zn_54, zo_54, zl_54, zq_54, zr_50_12, zt_55, zn_55, zo_55, zl_55, zq_55, zr_50_13, zt_56, zn_56, zo_56, zl_56, zq_56, hz, hc, h1, n0 _ 52 _ _ (by decide), n0 _ 53 _ _ (by decide), n0 _ 54 _ _ (by decide), n0 _ 55 _ _ (by decide), n0 _ 56 _ _ (by decide), nI_1]
  rfl
theorem m_isSo {b p a : Int32} (h : sOkT b p a) : cal d 6019 [.ref 50, .int b, .int p, .int a] w = some (some (.int 1), w) := by
  obtain ⟨⟨a1, a2⟩, ⟨a3, a4⟩, ⟨a5, a6⟩⟩ := h
  simp only [c_6019, e_6019_0, e_6019_1, e_6019_2, e_6019_5, e_6019_6, e_6019_9, e_6019_12, e_6019_13, e_6019_14, e_6019_17, e_6019_18, e_6019_20, e_6019_23, e_6019_24, e_6019_27, e_6019_28, e_6019_30, e_6019_33, e_6019_34, e_6019_37, e_6019_38, zk_int, zk_ref, zk_null, zk_none, zk_long, zisR_r, zisR_n, zcl_int, zcl_ref, zcl_null, zpush_s, zpush_n, zbs, zbn, true_or, or_true, not_false_eq_true, not_true_eq_false, ↓reduceIte, and_self, and_true, true_and, Int32.not_lt.mpr a1, Int32.not_lt.mpr a2, Int32.not_lt.mpr a3, Int32.not_lt.mpr a4, Int32.not_lt.mpr a5, Int32.not_lt.mpr a6]
theorem m_isSo_o {b p a : Int32} (h : ¬ sOkT b p a) : cal d 6019 [.ref 50, .int b, .int p, .int a] w = some (some (.int 0), w) := by
  unfold sOkT at h
  by_cases a1 : b < 1
  · simp only [c_6019, e_6019_0, e_6019_1, e_6019_2, e_6019_5, e_6019_6, e_6019_9, e_6019_12, e_6019_13, e_6019_14, e_6019_17, e_6019_18, e_6019_20, e_6019_23, e_6019_24, e_6019_27, e_6019_28, e_6019_30, e_6019_33, e_6019_34, e_6019_37, e_6019_38, zk_int, zk_ref, zk_null, zk_none, zk_long, zisR_r, zisR_n, zcl_int, zcl_ref, zcl_null, zpush_s, zpush_n, zbs, zbn, true_or, or_true, not_false_eq_true, not_true_eq_false, ↓reduceIte, and_self, and_true, true_and, a1]
  · by_cases a2 : b ≤ 999
    · by_cases a3 : p < 1
      · simp only [c_6019, e_6019_0, e_6019_1, e_6019_2, e_6019_5, e_6019_6, e_6019_9, e_6019_12, e_6019_13, e_6019_14, e_6019_17, e_6019_18, e_6019_20, e_6019_23, e_6019_24, e_6019_27, e_6019_28, e_6019_30, e_6019_33, e_6019_34, e_6019_37, e_6019_38, zk_int, zk_ref, zk_null, zk_none, zk_long, zisR_r, zisR_n, zcl_int, zcl_ref, zcl_null, zpush_s, zpush_n, zbs, zbn, true_or, or_true, not_false_eq_true, not_true_eq_false, ↓reduceIte, and_self, and_true, true_and, a1, Int32.not_lt.mpr a2, a3]
      · by_cases a4 : p ≤ 9
        · by_cases a5 : a < 0
          · simp only [c_6019, e_6019_0, e_6019_1, e_6019_2, e_6019_5, e_6019_6, e_6019_9, e_6019_12, e_6019_13, e_6019_14, e_6019_17, e_6019_18, e_6019_20, e_6019_23, e_6019_24, e_6019_27, e_6019_28, e_6019_30, e_6019_33, e_6019_34, e_6019_37, e_6019_38, zk_int, zk_ref, zk_null, zk_none, zk_long, zisR_r, zisR_n, zcl_int, zcl_ref, zcl_null, zpush_s, zpush_n, zbs, zbn, true_or, or_true, not_false_eq_true, not_true_eq_false, ↓reduceIte, and_self, and_true, true_and, a1, Int32.not_lt.mpr a2, a3, Int32.not_lt.mpr a4, a5]
          · have a6 : ¬ a ≤ 99 := fun c => h ⟨⟨Int32.not_lt.mp a1, a2⟩, ⟨Int32.not_lt.mp a3, a4⟩, ⟨Int32.not_lt.mp a5, c⟩⟩
            simp only [c_6019, e_6019_0, e_6019_1, e_6019_2, e_6019_5, e_6019_6, e_6019_9, e_6019_12, e_6019_13, e_6019_14, e_6019_17, e_6019_18, e_6019_20, e_6019_23, e_6019_24, e_6019_27, e_6019_28, e_6019_30, e_6019_33, e_6019_34, e_6019_37, e_6019_38, zk_int, zk_ref, zk_null, zk_none, zk_long, zisR_r, zisR_n, zcl_int, zcl_ref, zcl_null, zpush_s, zpush_n, zbs, zbn, true_or, or_true, not_false_eq_true, not_true_eq_false, ↓reduceIte, and_self, and_true, true_and, a1, Int32.not_lt.mpr a2, a3, Int32.not_lt.mpr a4, a5, Int32.not_le.mp a6]
        · simp only [c_6019, e_6019_0, e_6019_1, e_6019_2, e_6019_5, e_6019_6, e_6019_9, e_6019_12, e_6019_13, e_6019_14, e_6019_17, e_6019_18, e_6019_20, e_6019_23, e_6019_24, e_6019_27, e_6019_28, e_6019_30, e_6019_33, e_6019_34, e_6019_37, e_6019_38, zk_int, zk_ref, zk_null, zk_none, zk_long, zisR_r, zisR_n, zcl_int, zcl_ref, zcl_null, zpush_s, zpush_n, zbs, zbn, true_or, or_true, not_false_eq_true, not_true_eq_false, ↓reduceIte, and_self, and_true, true_and, a1, Int32.not_lt.mpr a2, a3, Int32.not_le.mp a4]
    · simp only [c_6019, e_6019_0, e_6019_1, e_6019_2, e_6019_5, e_6019_6, e_6019_9, e_6019_12, e_6019_13, e_6019_14, e_6019_17, e_6019_18, e_6019_20, e_6019_23, e_6019_24, e_6019_27, e_6019_28, e_6019_30, e_6019_33, e_6019_34, e_6019_37, e_6019_38, zk_int, zk_ref, zk_null, zk_none, zk_long, zisR_r, zisR_n, zcl_int, zcl_ref, zcl_null, zpush_s, zpush_n, zbs, zbn, true_or, or_true, not_false_eq_true, not_true_eq_false, ↓reduceIte, and_self, and_true, true_and, a1, Int32.not_le.mp a2]
theorem sOkT_b {b p a : Int32} (h : sOkT b p a) : zBt b 1 999 ∧ zBt p 1 9 ∧ zBt a 0 99 := by
  obtain ⟨⟨a1, a2⟩, ⟨a3, a4⟩, ⟨a5, a6⟩⟩ := h
  have e1 : (999 : Int32).toInt = 999 := by decide
  have e3 : (99 : Int32).toInt = 99 := by decide
  rw [ti_le, ti_1] at a1 a3
  rw [ti_le, e1] at a2
  rw [ti_le, ti_9] at a4
  rw [ti_le, ti_0] at a5
  rw [ti_le, e3] at a6
  exact ⟨⟨a1, a2⟩, ⟨a3, a4⟩, ⟨a5, a6⟩⟩
theorem kind_b {k : Int32} (h : 0 ≤ k ∧ k ≤ 6) : zBt k 0 6 := by
  obtain ⟨a1, a2⟩ := h
  have e1 : (6 : Int32).toInt = 6 := by decide
  rw [ti_le, ti_0] at a1
  rw [ti_le, e1] at a2
  exact ⟨a1, a2⟩
theorem zRg_T {k b p a : Int32} {y : Nat} (R : zRg T V G n m) (hn : n < 8) (hk : zBt k 0 6) (ho : zBt b 1 999 ∧ zBt p 1 9 ∧ zBt a 0 99) (hy : y < m) : zRg (upd (sGst T n k b p a) (5 * n + 4) (nI y)) V G (n + 1) m := by
  obtain ⟨rt, rv, g0, g1, g2, g3, g4, rn, rm⟩ := R
  refine ⟨fun t ht => ?_, rv, g0, g1, g2, g3, g4, by omega, rm⟩
  unfold sGst
  by_cases htn : t = n
  · subst htn
    refine ⟨?_, ?_, ?_, ?_, y, hy, ?_⟩
    · rw [u_ne (by omega), u_ne (by omega), u_ne (by omega), u_ne (by omega), u_eq]; exact hk
    · rw [u_ne (by omega), u_ne (by omega), u_ne (by omega), u_eq]; exact ho.1
    · rw [u_ne (by omega), u_ne (by omega), u_eq]; exact ho.2.1
    · rw [u_ne (by omega), u_eq]; exact ho.2.2
    · rw [u_eq]
  · obtain ⟨h0, h1, h2, h3, y2, h4, h5⟩ := rt t (by omega)
    refine ⟨?_, ?_, ?_, ?_, y2, h4, ?_⟩
    · rw [u_ne (by omega), u_ne (by omega), u_ne (by omega), u_ne (by omega), u_ne (by omega)]; exact h0
    · rw [u_ne (by omega), u_ne (by omega), u_ne (by omega), u_ne (by omega), u_ne (by omega)]; exact h1
    · rw [u_ne (by omega), u_ne (by omega), u_ne (by omega), u_ne (by omega), u_ne (by omega)]; exact h2
    · rw [u_ne (by omega), u_ne (by omega), u_ne (by omega), u_ne (by omega), u_ne (by omega)]; exact h3
    · rw [u_ne (by omega), u_ne (by omega), u_ne (by omega), u_ne (by omega), u_ne (by omega)]; exact h5
theorem sTbl_z {k b p a y : Int32} (hn : n < 8) (hT : ∀ k, 40 ≤ k → T k = 0) : ∀ j, 40 ≤ j → upd (sGst T n k b p a) (5 * n + 4) y j = 0 := by
  intro j hj
  unfold sGst
  rw [u_ne (by omega), u_ne (by omega), u_ne (by omega), u_ne (by omega), u_ne (by omega)]
  exact hT j hj
theorem sAdT_1 {k b p a y : Int32} : (sAdT w 1 n k b p a y).1 1 = upd (w.1 1) 3 (nI (n + 1)) := by unfold sAdT; rw [zA_n _ _ (by decide), zA_s]
theorem sAdT_2 {k b p a y : Int32} : (sAdT w 1 n k b p a y).1 2 = upd (sGst (w.1 2) n k b p a) (5 * n + 4) y := zA_s _ _ _
theorem sAdT_n {k b p a y : Int32} {j : Nat} (h1 : j ≠ 1) (h2 : j ≠ 2) : (sAdT w 1 n k b p a y).1 j = w.1 j := by unfold sAdT; rw [zA_n _ _ h2, zA_n _ _ h1]
/- the relation after one more table on both sides -/
theorem zRl_adT {k b p a : Int32} {y : Nat} (A : zRl w S L n m) (hn : n < 8) (hk : 0 ≤ k ∧ k ≤ 6) (ho : sOkT b p a) (hy : y < m) : zRl (mAdT (sAdT w 1 n k b p a (nI y)) n k b p a (nI y)) S L (n + 1) m := by
  have C := rl_C A
  have M := rl_M A
  have hz := rl_z1 A
  have Ms : zMs (sAdT w 1 n k b p a (nI y)) (w.1 2) (w.1 3) (w.1 4) := zMs_k M.1 ⟨by rw [sAdT_n (by decide) (by decide)], by rw [sAdT_n (by decide) (by decide)]⟩ (fun a h1 h2 => sAdT_n (by omega) (by omega))
  have Ms2 := mAdT_s (k := k) (b := b) (p := p) (a := a) (y := nI y) Ms hn
  refine zRl_h A (zKh_t (zKh_t (zKh_A (by omega)) (zKh_A (by omega))) mAdT_h) ?_ (Nat.le_succ _) ?_
  · have d1 : (mAdT (sAdT w 1 n k b p a (nI y)) n k b p a (nI y)).1 1 = upd (w.1 1) 3 (nI (n + 1)) := (mAdT_n (by decide)).trans sAdT_1
    have d2 : (mAdT (sAdT w 1 n k b p a (nI y)) n k b p a (nI y)).1 2 = upd (sGst (w.1 2) n k b p a) (5 * n + 4) (nI y) := (mAdT_n (by decide)).trans sAdT_2
    have d3 : (mAdT (sAdT w 1 n k b p a (nI y)) n k b p a (nI y)).1 3 = w.1 3 := (mAdT_n (by decide)).trans (sAdT_n (by decide) (by decide))
    have d4 : (mAdT (sAdT w 1 n k b p a (nI y)) n k b p a (nI y)).1 4 = w.1 4 := (mAdT_n (by decide)).trans (sAdT_n (by decide) (by decide))
    have d50 : ∀ j, j ≠ 0 → (mAdT (sAdT w 1 n k b p a (nI y)) n k b p a (nI y)).1 50 j = w.1 50 j := fun j hj => by rw [mAdT_50, u_ne hj, sAdT_n (by decide) (by decide)]
    unfold rA zHc
    rw [d1, d2, d3, d4, d50 4 (by decide), d50 5 (by decide), d50 6 (by decide), u_eq, u_ne (by decide), u_ne (by decide), u_ne (by decide), u_ne (by decide)]
    refine ⟨⟨C.1, rfl, by omega, C.2.2.2.1, C.2.2.2.2⟩, ⟨Ms2, ⟨by rw [mAdT_50, u_eq], by rw [d50 1 (by decide)]; exact M.2.1.2.1, by omega, M.2.1.2.2.2⟩, zRg_T M.2.2 hn (kind_b hk) (sOkT_b ho) hy⟩, A.1.2.2.1, A.1.2.2.2⟩
  · refine ⟨?_, ?_, ?_, ?_⟩
    · rw [mAdT_n (by decide), sAdT_2]; exact sTbl_z hn hz.1
    · rw [mAdT_n (by decide), sAdT_n (by decide) (by decide)]; exact hz.2.1
    · rw [mAdT_n (by decide), sAdT_n (by decide) (by decide)]; exact hz.2.2.1
    · intro j hj
      rw [mAdT_n (by decide), sAdT_1, u_ne (by omega)]
      exact hz.2.2.2 j hj
theorem p_table {k b p a x : Int32} (A : zRl w S L n m) : zPr d 5009 6021 [.int k, .int b, .int p, .int a, .int x] w S L := by
  have C := rl_C A
  have M := rl_M A
  have hm := rl_m A
  have hn8 := rl_n A
  have r1 := m_no (d := d + 39) (w := fRf w 1) (j := 1) (c := -1) (by decide) (by decide)
  by_cases hk : 0 ≤ k ∧ k ≤ 6
  · have k1 := Int32.not_lt.mpr hk.1
    have k2 := Int32.not_lt.mpr hk.2
    rcases ix_c x (by omega : m < 1000) with hx | ⟨y, hy, rfl⟩
    · have q1 := m_isWaiter_o (d := d + 39) (zMc_f (j := 1) M).2.1 hx
      refine pr_f A (by decide) (f_tbl_1w (d := d + 35) C hx) (zKp_r _) ?_ (zKp_r _)
      simp only [c_6021, e_6021_0, e_6021_1, e_6021_4, e_6021_5, e_6021_7, e_6021_10, e_6021_11, e_6021_13, e_6021_16, e_6021_19, e_6021_20, e_6021_21, e_6021_24, e_6021_25, e_6021_26, e_6021_27, e_6021_28, e_6021_30, e_6021_33, e_6021_36, e_6021_37, e_6021_39, e_6021_42, e_6021_43, e_6021_44, e_6021_47, e_6021_49, e_6021_52, e_6021_53, e_6021_55, e_6021_58, e_6021_61, e_6021_62, e_6021_63, e_6021_64, e_6021_65, e_6021_67, e_6021_69, e_6021_72, zk_int, zk_ref, zk_null, zk_none, zk_long, zisR_r, zisR_n, zcl_int, zcl_ref, zcl_null, zpush_s, zpush_n, zbs, zbn, true_or, or_true, not_false_eq_true, not_true_eq_false, ↓reduceIte, and_self, and_true, true_and, zt_50, k1, k2, q1, r1]
    · by_cases ho : sOkT b p a
      · by_cases hn : n < 8
        · have c0 : (sAdT w 1 n k b p a (nI y)).1 50 0 = nI n := by rw [sAdT_n (by decide) (by decide)]; exact M.2.1.1
          have Mn : zMn (sAdT w 1 n k b p a (nI y)) n m := zMn_k M.2.1 (by rw [sAdT_n (by decide) (by decide)]) (by rw [sAdT_n (by decide) (by decide)])
          have q1 := m_isWaiter (d := d + 39) Mn hy
          have q2 := m_isSo (d := d + 39) (w := sAdT w 1 n k b p a (nI y)) ho
          have g4 : (nI n = 8) = False := eq_false (fun h => by have := (nI_eq (a := n) (b := 8) (by omega) (by omega)).mp h; omega)
          have qm := m_adds (d := d + 39) (w := sAdT w 1 n k b p a (nI y)) (k := k) (b := b) (p := p) (a := a) (y := nI y) c0 hn
          refine ⟨_, _, _, n + 1, m, f_tbl (d := d + 35) C hk hy ho hn, ?_, zRl_adT A hn hk ho hy⟩
          simp only [c_6021, e_6021_0, e_6021_1, e_6021_4, e_6021_5, e_6021_7, e_6021_10, e_6021_11, e_6021_13, e_6021_16, e_6021_19, e_6021_20, e_6021_21, e_6021_24, e_6021_25, e_6021_26, e_6021_27, e_6021_28, e_6021_30, e_6021_33, e_6021_36, e_6021_37, e_6021_39, e_6021_42, e_6021_43, e_6021_44, e_6021_47, e_6021_49, e_6021_52, e_6021_53, e_6021_55, e_6021_58, e_6021_61, e_6021_62, e_6021_63, e_6021_64, e_6021_65, e_6021_67, e_6021_69, e_6021_72, zk_int, zk_ref, zk_null, zk_none, zk_long, zisR_r, zisR_n, zcl_int, zcl_ref, zcl_null, zpush_s, zpush_n, zbs, zbn, true_or, or_true, not_false_eq_true, not_true_eq_false, ↓reduceIte, and_self, and_true, true_and, ie_0_1, ie_0_2, ie_0_3, ie_0_4, ie_0_5, ie_0_6, ie_0_7, ie_1_0, ie_1_2, ie_1_3, ie_1_4, ie_1_5, ie_1_6, ie_1_7, ie_2_0, ie_2_1, ie_2_3, ie_2_4, ie_2_5, ie_2_6, ie_2_7, ie_3_0, ie_3_1, ie_3_2, ie_3_4, ie_3_5, ie_3_6, ie_3_7, ie_4_0, ie_4_1, ie_4_2, ie_4_3, ie_4_5, ie_4_6, ie_4_7, ie_5_0, ie_5_1, ie_5_2, ie_5_3, ie_5_4, ie_5_6, ie_5_7, ie_6_0, ie_6_1, ie_6_2, ie_6_3, ie_6_4, ie_6_5, ie_6_7, ie_7_0, ie_7_1, ie_7_2, ie_7_3, ie_7_4, ie_7_5, ie_7_6, zt_50, k1, k2, q1, q2, c0, g4, qm]
        · have MF := (zMc_f (j := 7) M).2.1
          have q1 := m_isWaiter (d := d + 39) MF hy
          have q2 := m_isSo (d := d + 39) (w := fRf w 7) ho
          have e8 : n = 8 := by omega
          have c0 : (fRf w 7).1 50 0 = nI 8 := by rw [MF.1, e8]
          have g4 : (nI 8 = 8) = True := eq_true (by decide)
          have r := m_no (d := d + 39) (w := fRf w 7) (j := 7) (c := -7) (by decide) (by decide)
          refine pr_f A (by decide) (f_tbl_7 (d := d + 35) C hk hy ho hn) (zKp_r _) ?_ (zKp_r _)
          simp only [c_6021, e_6021_0, e_6021_1, e_6021_4, e_6021_5, e_6021_7, e_6021_10, e_6021_11, e_6021_13, e_6021_16, e_6021_19, e_6021_20, e_6021_21, e_6021_24, e_6021_25, e_6021_26, e_6021_27, e_6021_28, e_6021_30, e_6021_33, e_6021_36, e_6021_37, e_6021_39, e_6021_42, e_6021_43, e_6021_44, e_6021_47, e_6021_49, e_6021_52, e_6021_53, e_6021_55, e_6021_58, e_6021_61, e_6021_62, e_6021_63, e_6021_64, e_6021_65, e_6021_67, e_6021_69, e_6021_72, zk_int, zk_ref, zk_null, zk_none, zk_long, zisR_r, zisR_n, zcl_int, zcl_ref, zcl_null, zpush_s, zpush_n, zbs, zbn, true_or, or_true, not_false_eq_true, not_true_eq_false, ↓reduceIte, and_self, and_true, true_and, ie_0_1, ie_0_2, ie_0_3, ie_0_4, ie_0_5, ie_0_6, ie_0_7, ie_1_0, ie_1_2, ie_1_3, ie_1_4, ie_1_5, ie_1_6, ie_1_7, ie_2_0, ie_2_1, ie_2_3, ie_2_4, ie_2_5, ie_2_6, ie_2_7, ie_3_0, ie_3_1, ie_3_2, ie_3_4, ie_3_5, ie_3_6, ie_3_7, ie_4_0, ie_4_1, ie_4_2, ie_4_3, ie_4_5, ie_4_6, ie_4_7, ie_5_0, ie_5_1, ie_5_2, ie_5_3, ie_5_4, ie_5_6, ie_5_7, ie_6_0, ie_6_1, ie_6_2, ie_6_3, ie_6_4, ie_6_5, ie_6_7, ie_7_0, ie_7_1, ie_7_2, ie_7_3, ie_7_4, ie_7_5, ie_7_6, zt_50, k1, k2, q1, q2, c0, g4, r]
      · have q1 := m_isWaiter (d := d + 39) (zMc_f (j := 6) M).2.1 hy
        have q2 := m_isSo_o (d := d + 39) (w := fRf w 6) ho
        have r := m_no (d := d + 39) (w := fRf w 6) (j := 6) (c := -6) (by decide) (by decide)
        refine pr_f A (by decide) (f_tbl_6 (d := d + 35) C hk hy ho) (zKp_r _) ?_ (zKp_r _)
        simp only [c_6021, e_6021_0, e_6021_1, e_6021_4, e_6021_5, e_6021_7, e_6021_10, e_6021_11, e_6021_13, e_6021_16, e_6021_19, e_6021_20, e_6021_21, e_6021_24, e_6021_25, e_6021_26, e_6021_27, e_6021_28, e_6021_30, e_6021_33, e_6021_36, e_6021_37, e_6021_39, e_6021_42, e_6021_43, e_6021_44, e_6021_47, e_6021_49, e_6021_52, e_6021_53, e_6021_55, e_6021_58, e_6021_61, e_6021_62, e_6021_63, e_6021_64, e_6021_65, e_6021_67, e_6021_69, e_6021_72, zk_int, zk_ref, zk_null, zk_none, zk_long, zisR_r, zisR_n, zcl_int, zcl_ref, zcl_null, zpush_s, zpush_n, zbs, zbn, true_or, or_true, not_false_eq_true, not_true_eq_false, ↓reduceIte, and_self, and_true, true_and, ie_0_1, ie_0_2, ie_0_3, ie_0_4, ie_0_5, ie_0_6, ie_0_7, ie_1_0, ie_1_2, ie_1_3, ie_1_4, ie_1_5, ie_1_6, ie_1_7, ie_2_0, ie_2_1, ie_2_3, ie_2_4, ie_2_5, ie_2_6, ie_2_7, ie_3_0, ie_3_1, ie_3_2, ie_3_4, ie_3_5, ie_3_6, ie_3_7, ie_4_0, ie_4_1, ie_4_2, ie_4_3, ie_4_5, ie_4_6, ie_4_7, ie_5_0, ie_5_1, ie_5_2, ie_5_3, ie_5_4, ie_5_6, ie_5_7, ie_6_0, ie_6_1, ie_6_2, ie_6_3, ie_6_4, ie_6_5, ie_6_7, ie_7_0, ie_7_1, ie_7_2, ie_7_3, ie_7_4, ie_7_5, ie_7_6, zt_50, k1, k2, q1, q2, r]
  · refine pr_f A (by decide) (f_tbl_1k (d := d + 35) C hk) (zKp_r _) ?_ (zKp_r _)
    by_cases k1 : k < 0
    · simp only [c_6021, e_6021_0, e_6021_1, e_6021_4, e_6021_5, e_6021_7, e_6021_10, e_6021_11, e_6021_13, e_6021_16, e_6021_19, e_6021_20, e_6021_21, e_6021_24, e_6021_25, e_6021_26, e_6021_27, e_6021_28, e_6021_30, e_6021_33, e_6021_36, e_6021_37, e_6021_39, e_6021_42, e_6021_43, e_6021_44, e_6021_47, e_6021_49, e_6021_52, e_6021_53, e_6021_55, e_6021_58, e_6021_61, e_6021_62, e_6021_63, e_6021_64, e_6021_65, e_6021_67, e_6021_69, e_6021_72, zk_int, zk_ref, zk_null, zk_none, zk_long, zisR_r, zisR_n, zcl_int, zcl_ref, zcl_null, zpush_s, zpush_n, zbs, zbn, true_or, or_true, not_false_eq_true, not_true_eq_false, ↓reduceIte, and_self, and_true, true_and, zt_50, k1, r1]
    · have k2 : 6 < k := Int32.not_le.mp (fun h => hk ⟨Int32.not_lt.mp k1, h⟩)
      simp only [c_6021, e_6021_0, e_6021_1, e_6021_4, e_6021_5, e_6021_7, e_6021_10, e_6021_11, e_6021_13, e_6021_16, e_6021_19, e_6021_20, e_6021_21, e_6021_24, e_6021_25, e_6021_26, e_6021_27, e_6021_28, e_6021_30, e_6021_33, e_6021_36, e_6021_37, e_6021_39, e_6021_42, e_6021_43, e_6021_44, e_6021_47, e_6021_49, e_6021_52, e_6021_53, e_6021_55, e_6021_58, e_6021_61, e_6021_62, e_6021_63, e_6021_64, e_6021_65, e_6021_67, e_6021_69, e_6021_72, zk_int, zk_ref, zk_null, zk_none, zk_long, zisR_r, zisR_n, zcl_int, zcl_ref, zcl_null, zpush_s, zpush_n, zbs, zbn, true_or, or_true, not_false_eq_true, not_true_eq_false, ↓reduceIte, and_self, and_true, true_and, zt_50, k1, k2, r1]
theorem zRg_T4 {t y : Nat} (R : zRg T V G n m) (hy : y < m) : zRg (upd T (5 * t + 4) (nI y)) V G n m := by
  obtain ⟨rt, rv, rg⟩ := R
  refine ⟨fun i hi => ?_, rv, rg⟩
  obtain ⟨h0, h1, h2, h3, y2, h4, h5⟩ := rt i hi
  refine ⟨?_, ?_, ?_, ?_, ?_⟩
  · rw [u_ne (by omega)]; exact h0
  · rw [u_ne (by omega)]; exact h1
  · rw [u_ne (by omega)]; exact h2
  · rw [u_ne (by omega)]; exact h3
  · by_cases h : i = t
    · subst h; exact ⟨y, hy, u_eq _ _ _⟩
    · exact ⟨y2, h4, by rw [u_ne (by omega)]; exact h5⟩
/- one cell of the house's rows changed on both sides -/
theorem zRl_c {T' V' G' : Nat → Int32} {ac am kc km : Nat} {v : Int32} (A : zRl w S L n m) (hac : 2 ≤ ac ∧ ac ≤ 4) (ham : 52 ≤ am ∧ am ≤ 63 ∨ (am = 50 ∧ (km = 2 ∨ km = 3)))
    (e2 : (zuA w ac (upd (w.1 ac) kc v)).1 2 = T') (e3 : (zuA w ac (upd (w.1 ac) kc v)).1 3 = V') (e4 : (zuA w ac (upd (w.1 ac) kc v)).1 4 = G')
    (hs : zMs (zuA (zuA w ac (upd (w.1 ac) kc v)) am (upd ((zuA w ac (upd (w.1 ac) kc v)).1 am) km v)) T' V' G') (hr : zRg T' V' G' n m) (h6 : ∀ x, x < m → zBt (V' (6 * x + 0)) 0 6) (hk : (ac = 2 → kc < 40) ∧ (ac = 3 → kc < 24) ∧ (ac = 4 → kc < 5)) : zRl (zuA (zuA w ac (upd (w.1 ac) kc v)) am (upd ((zuA w ac (upd (w.1 ac) kc v)).1 am) km v)) S L n m := by
  have C := rl_C A
  have M := rl_M A
  have hz := rl_z1 A
  have d : ∀ a, a < 50 → (zuA (zuA w ac (upd (w.1 ac) kc v)) am (upd ((zuA w ac (upd (w.1 ac) kc v)).1 am) km v)).1 a = (zuA w ac (upd (w.1 ac) kc v)).1 a := fun a h => zA_n _ _ (by omega)
  have d1 : (zuA (zuA w ac (upd (w.1 ac) kc v)) am (upd ((zuA w ac (upd (w.1 ac) kc v)).1 am) km v)).1 1 = w.1 1 := by rw [d 1 (by decide), zA_n _ _ (by omega)]
  have d50 : ∀ j, j ≠ 2 → j ≠ 3 → (zuA (zuA w ac (upd (w.1 ac) kc v)) am (upd ((zuA w ac (upd (w.1 ac) kc v)).1 am) km v)).1 50 j = w.1 50 j := fun j h1 h2 => by
    by_cases ha : am = 50
    · subst ha
      rw [zA_s, u_ne (by omega), zA_n _ _ (by omega)]
    · rw [zA_n _ _ (by omega), zA_n _ _ (by omega)]
  have K : zKh w (zuA (zuA w ac (upd (w.1 ac) kc v)) am (upd ((zuA w ac (upd (w.1 ac) kc v)).1 am) km v)) := by
    refine zKh_t (w1 := zuA w ac (upd (w.1 ac) kc v)) (zKh_A (a := ac) (by omega)) ?_
    rcases ham with h | ⟨rfl, h⟩
    · exact zKh_A (a := am) (by omega)
    · rw [← zui_A (zuA w ac (upd (w.1 ac) kc v)) 50 km v]; exact zKh_50 (by omega)
  refine zRl_h A K ?_ (Nat.le_refl _) ?_
  · unfold rA zHc
    rw [d1, d 2 (by decide), d 3 (by decide), d 4 (by decide), e2, e3, e4, d50 4 (by decide) (by decide), d50 5 (by decide) (by decide), d50 6 (by decide) (by decide)]
    exact ⟨C, ⟨hs, zMn_k M.2.1 (d50 0 (by decide) (by decide)) (d50 1 (by decide) (by decide)), hr⟩, h6, A.1.2.2.2⟩
  · have f : ∀ a, 2 ≤ a → a ≤ 4 → ∀ k, (a = ac → k ≠ kc) → (zuA (zuA w ac (upd (w.1 ac) kc v)) am (upd ((zuA w ac (upd (w.1 ac) kc v)).1 am) km v)).1 a k = w.1 a k := fun a h1 h2 k h3 => by
      rw [d a (by omega)]
      by_cases ha : a = ac
      · subst ha; rw [zA_s, u_ne (h3 rfl)]
      · rw [zA_n _ _ ha]
    refine ⟨fun k hk2 => ?_, fun k hk2 => ?_, fun k hk2 => ?_, fun k hk2 => ?_⟩
    · rw [f (1 + 1) (by decide) (by decide) k (by omega)]; exact hz.1 k hk2
    · rw [f (1 + 2) (by decide) (by decide) k (by omega)]; exact hz.2.1 k hk2
    · rw [f (1 + 3) (by decide) (by decide) k (by omega)]; exact hz.2.2.1 k hk2
    · rw [d1]; exact hz.2.2.2 k hk2
theorem zMs_u {a k : Nat} {v : Int32} (A : zMs w T V G) (h : a < 50) : zMs (zuA w a (upd (w.1 a) k v)) T V G :=
  zMs_k A ⟨by rw [zA_n _ _ (by omega)], by rw [zA_n _ _ (by omega)]⟩ (fun b h1 h2 => zA_n _ _ (by omega))
theorem p_serves {x y : Int32} (A : zRl w S L n m) : zPr d 5011 6023 [.int x, .int y] w S L := by
  have C := rl_C A
  have M := rl_M A
  have hm := rl_m A
  have hn8 := rl_n A
  have r1 := m_no (d := d + 39) (w := fRf w 1) (j := 1) (c := -1) (by decide) (by decide)
  rcases ix_c x (by omega : n < 1000) with hx | ⟨t, ht, rfl⟩
  · have q1 := m_isTable_o (d := d + 39) (zMc_f (j := 1) M).2.1 hx
    refine pr_f A (by decide) (f_srv_1t (d := d + 37) C hx) (zKp_r _) ?_ (zKp_r _)
    simp only [c_6023, e_6023_0, e_6023_1, e_6023_2, e_6023_5, e_6023_8, e_6023_9, e_6023_10, e_6023_13, e_6023_16, e_6023_17, e_6023_18, e_6023_21, e_6023_22, e_6023_23, e_6023_26, e_6023_27, e_6023_28, e_6023_29, e_6023_30, e_6023_33, e_6023_34, e_6023_35, e_6023_36, e_6023_37, zk_int, zk_ref, zk_null, zk_none, zk_long, zisR_r, zisR_n, zcl_int, zcl_ref, zcl_null, zpush_s, zpush_n, zbs, zbn, true_or, or_true, not_false_eq_true, not_true_eq_false, ↓reduceIte, and_self, and_true, true_and, zt_50, q1, r1]
  · rcases ix_c y (by omega : m < 1000) with hx | ⟨y, hy, rfl⟩
    · have q1 := m_isTable (d := d + 39) (zMc_f (j := 1) M).2.1 ht
      have q2 := m_isWaiter_o (d := d + 39) (zMc_f (j := 1) M).2.1 hx
      refine pr_f A (by decide) (f_srv_1w (d := d + 37) C ht hx) (zKp_r _) ?_ (zKp_r _)
      simp only [c_6023, e_6023_0, e_6023_1, e_6023_2, e_6023_5, e_6023_8, e_6023_9, e_6023_10, e_6023_13, e_6023_16, e_6023_17, e_6023_18, e_6023_21, e_6023_22, e_6023_23, e_6023_26, e_6023_27, e_6023_28, e_6023_29, e_6023_30, e_6023_33, e_6023_34, e_6023_35, e_6023_36, e_6023_37, zk_int, zk_ref, zk_null, zk_none, zk_long, zisR_r, zisR_n, zcl_int, zcl_ref, zcl_null, zpush_s, zpush_n, zbs, zbn, true_or, or_true, not_false_eq_true, not_true_eq_false, ↓reduceIte, and_self, and_true, true_and, ie_0_1, ie_0_2, ie_0_3, ie_0_4, ie_0_5, ie_0_6, ie_0_7, ie_1_0, ie_1_2, ie_1_3, ie_1_4, ie_1_5, ie_1_6, ie_1_7, ie_2_0, ie_2_1, ie_2_3, ie_2_4, ie_2_5, ie_2_6, ie_2_7, ie_3_0, ie_3_1, ie_3_2, ie_3_4, ie_3_5, ie_3_6, ie_3_7, ie_4_0, ie_4_1, ie_4_2, ie_4_3, ie_4_5, ie_4_6, ie_4_7, ie_5_0, ie_5_1, ie_5_2, ie_5_3, ie_5_4, ie_5_6, ie_5_7, ie_6_0, ie_6_1, ie_6_2, ie_6_3, ie_6_4, ie_6_5, ie_6_7, ie_7_0, ie_7_1, ie_7_2, ie_7_3, ie_7_4, ie_7_5, ie_7_6, zt_50, q1, q2, r1]
    · have Ms := zMs_u (a := 2) (k := 5 * t + 4) (v := nI y) M.1 (by decide)
      have Mn : zMn (zuA w 2 (upd (w.1 2) (5 * t + 4) (nI y))) n m := zMn_k M.2.1 (by rw [zA_n _ _ (by decide)]) (by rw [zA_n _ _ (by decide)])
      have q1 := m_isTable (d := d + 39) Mn ht
      have q2 := m_isWaiter (d := d + 39) Mn hy
      have hz := zis_nI (j := t) (n := 8) (by omega) (by decide)
      have hc := nI_clamp (n := t) (by omega)
      have v4 := (M.1.1 t (by omega)).2.2.2.2
      have v4' : (zuA w 2 (upd (w.1 2) (5 * t + 4) (nI y))).1 56 t = w.1 2 (5 * t + 4) := by rw [zA_n _ _ (by decide)]; exact v4
      have R := zRl_c (kc := 5 * t + 4) (km := t) (v := nI y) A (ac := 2) (am := 56) (by omega) (by omega) (zA_s _ _ _) (zA_n _ _ (by decide)) (zA_n _ _ (by decide)) (zMs_T4 Ms (by omega)) (zRg_T4 M.2.2 hy) A.1.2.2.1 (by omega)
      refine ⟨_, _, _, n, m, f_srv (d := d + 37) C ht hy, ?_, R⟩
      simp only [c_6023, e_6023_0, e_6023_1, e_6023_2, e_6023_5, e_6023_8, e_6023_9, e_6023_10, e_6023_13, e_6023_16, e_6023_17, e_6023_18, e_6023_21, e_6023_22, e_6023_23, e_6023_26, e_6023_27, e_6023_28, e_6023_29, e_6023_30, e_6023_33, e_6023_34, e_6023_35, e_6023_36, e_6023_37, zk_int, zk_ref, zk_null, zk_none, zk_long, zisR_r, zisR_n, zcl_int, zcl_ref, zcl_null, zpush_s, zpush_n, zbs, zbn, true_or, or_true, not_false_eq_true, not_true_eq_false, ↓reduceIte, and_self, and_true, true_and, ie_0_1, ie_0_2, ie_0_3, ie_0_4, ie_0_5, ie_0_6, ie_0_7, ie_1_0, ie_1_2, ie_1_3, ie_1_4, ie_1_5, ie_1_6, ie_1_7, ie_2_0, ie_2_1, ie_2_3, ie_2_4, ie_2_5, ie_2_6, ie_2_7, ie_3_0, ie_3_1, ie_3_2, ie_3_4, ie_3_5, ie_3_6, ie_3_7, ie_4_0, ie_4_1, ie_4_2, ie_4_3, ie_4_5, ie_4_6, ie_4_7, ie_5_0, ie_5_1, ie_5_2, ie_5_3, ie_5_4, ie_5_6, ie_5_7, ie_6_0, ie_6_1, ie_6_2, ie_6_3, ie_6_4, ie_6_5, ie_6_7, ie_7_0, ie_7_1, ie_7_2, ie_7_3, ie_7_4, ie_7_5, ie_7_6, zt_50, zt_50, zr_50_13, zt_56, zn_56, zo_56, zl_56, zq_56, q1, q2, hz, hc, zui_A, v4']
end PF
