theorem wE_self (m r y : Nat) : wE m r y (dig 4 m r y) = r := by unfold wE; omega
theorem sTn_dig {GN : Nat → Nat → Int32} {m r : Nat} (hr : r < 4 ^ m) : ∀ j, j ≤ m → ∀ v, j ≤ v → v < m → dig 4 m (sTn GN m r j) v = dig 4 m r v := by
  intro j
  induction j with
  | zero => intro _ v _ _; rfl
  | succ j ih =>
    intro hj v h1 h2
    show dig 4 m (wE m (sTn GN m r j) j (sRep GN m (sTn GN m r j) j)) v = _
    rw [wE_dig (by omega) h2 (sRep_lt _ _ _ _) (sTn_lt hr j (by omega)), if_neg (by omega)]
    exact ih (by omega) v (by omega) h2
theorem sTn_s1 {GN : Nat → Nat → Int32} {m r j : Nat} (he : sRep GN m (sTn GN m r j) j = dig 4 m (sTn GN m r j) j) : sTn GN m r (j + 1) = sTn GN m r j := by
  show wE m (sTn GN m r j) j (sRep GN m (sTn GN m r j) j) = _
  rw [he, wE_self]
theorem sTn_s2 {GN : Nat → Nat → Int32} {m r j : Nat} (hr : r < 4 ^ m) (hj : j < m) (he : ¬ sRep GN m (sTn GN m r j) j = dig 4 m (sTn GN m r j) j) : ¬ sTn GN m r (j + 1) = r := by
  intro h
  have h1 : dig 4 m (wE m (sTn GN m r j) j (sRep GN m (sTn GN m r j) j)) j = sRep GN m (sTn GN m r j) j := by
    rw [wE_dig hj hj (sRep_lt _ _ _ _) (sTn_lt hr j (by omega)), if_pos rfl]
  have h2 : wE m (sTn GN m r j) j (sRep GN m (sTn GN m r j) j) = r := h
  rw [h2] at h1
  rw [sTn_dig hr j (by omega) j (Nat.le_refl _) hj] at he
  exact he h1.symm
def sAny (GN : Nat → Nat → Int32) (m r j : Nat) : Int32 := if sTn GN m r j = r then 0 else 1
section MI
variable {d n m : Nat} {w : zM} {T V G : Nat → Int32}
def MR (w : zM) (K H : Nat → Int32) (m r : Nat) : zM := M2 w K H (zcpy (dg m r) (w.1 58) m)
theorem m_rest_r {K H : Nat → Int32} {a : Int32} {k r : Nat} (C : zMc w T V G n m) (hr : r < 4 ^ m) : ∀ q j o5, j + q = m → ∃ o', den (d + 25) 6061 43 [some (.ref 50), some (.int a), some (.int (nI k)), some (.int (sAny (sGN T V G n m) m r j)), some (.int (nI j)), o5] [] (MR w K H m (sTn (sGN T V G n m) m r j)) = den (d + 25) 6061 89 [some (.ref 50), some (.int a), some (.int (nI k)), some (.int (sAny (sGN T V G n m) m r m)), some (.int (nI m)), o'] [] (MR w K H m (sTn (sGN T V G n m) m r m)) := by
  have hm4 := C.2.1.2.2.2
  have CK := M2_C K H C
  have c1 : ∀ s, (MR w K H m s).1 50 1 = nI m := fun s => by unfold MR; rw [M2_n _ _ _ (by decide)]; exact C.2.1.2.1
  have c58 : ∀ s, (MR w K H m s).1 58 = zcpy (dg m s) (w.1 58) m := fun s => M2_58 _ _ _
  intro q
  induction q with
  | zero =>
    intro j o5 hj
    have e : j = m := by omega
    subst e
    have g1 := nI_le_n (Nat.le_refl j) (by omega)
    refine ⟨o5, ?_⟩
    rw [e_6061_43]
    simp only [e_6061_45, e_6061_46, e_6061_49, zk_int, zk_ref, zk_null, zk_none, zk_long, zisR_r, zisR_n, zcl_int, zcl_ref, zcl_null, zpush_s, zpush_n, zbs, zbn, true_or, or_true, not_false_eq_true, not_true_eq_false, ↓reduceIte, and_self, and_true, true_and, zt_50, c1, g1]
  | succ q ih =>
    intro j o5 hj
    have hjm : j < m := by omega
    have g1 := nI_ge_f hjm (by omega)
    have hs := sTn_lt (GN := sGN T V G n m) hr j (by omega)
    have q1 := y_replyOf (d := d + 2) (r := sTn (sGN T V G n m) m r j) CK hjm hs
    rw [M2_y] at q1
    have q1' : cal (d + 24) 6058 [.ref 50, .int (nI j)] (MR w K H m (sTn (sGN T V G n m) m r j)) = some (some (.int (nI (sRep (sGN T V G n m) m (sTn (sGN T V G n m) m r j) j))), MR w K H m (sTn (sGN T V G n m) m r j)) := q1
    have hlt := sRep_lt (sGN T V G n m) m (sTn (sGN T V G n m) m r j) j
    have hdl := dig_lt (b := 4) (m := m) (r := sTn (sGN T V G n m) m r j) (y := j) (by decide)
    have hz := zis_nI (j := j) (n := 4) (by omega) (by decide)
    have hc := nI_clamp (n := j) (by omega)
    have ev : zcpy (dg m (sTn (sGN T V G n m) m r j)) (w.1 58) m j = nI (dig 4 m (sTn (sGN T V G n m) m r j) j) := if_pos hjm
    have eu : zuA (MR w K H m (sTn (sGN T V G n m) m r j)) 58 (upd (zcpy (dg m (sTn (sGN T V G n m) m r j)) (w.1 58) m) j (nI (sRep (sGN T V G n m) m (sTn (sGN T V G n m) m r j) j))) = MR w K H m (sTn (sGN T V G n m) m r (j + 1)) := by
      unfold MR
      rw [M2_u58, zcpy_wE hjm hlt hs]
      rfl
    obtain ⟨o', i1⟩ := ih (j + 1) (some (.int (nI (sRep (sGN T V G n m) m (sTn (sGN T V G n m) m r j) j)))) (by omega)
    refine ⟨o', ?_⟩
    rw [← i1]
    by_cases he : sRep (sGN T V G n m) m (sTn (sGN T V G n m) m r j) j = dig 4 m (sTn (sGN T V G n m) m r j) j
    · have ea : sAny (sGN T V G n m) m r (j + 1) = sAny (sGN T V G n m) m r j := by unfold sAny; rw [sTn_s1 he]
      have g2 : (nI (sRep (sGN T V G n m) m (sTn (sGN T V G n m) m r j) j) = nI (dig 4 m (sTn (sGN T V G n m) m r j) j)) = True := eq_true (by rw [he])
      rw [ea, e_6061_43]
      simp only [c_6061, e_6061_0, e_6061_1, e_6061_2, e_6061_5, e_6061_6, e_6061_7, e_6061_10, e_6061_13, e_6061_14, e_6061_15, e_6061_18, e_6061_19, e_6061_20, e_6061_21, e_6061_24, e_6061_25, e_6061_26, e_6061_27, e_6061_28, e_6061_29, e_6061_32, e_6061_33, e_6061_35, e_6061_38, e_6061_39, e_6061_40, e_6061_41, e_6061_45, e_6061_46, e_6061_49, e_6061_52, e_6061_53, e_6061_55, e_6061_58, e_6061_60, e_6061_62, e_6061_63, e_6061_66, e_6061_68, e_6061_69, e_6061_72, e_6061_73, e_6061_74, e_6061_75, e_6061_78, e_6061_80, e_6061_82, e_6061_83, e_6061_86, e_6061_90, e_6061_93, e_6061_96, e_6061_99, e_6061_100, e_6061_101, e_6061_104, e_6061_105, e_6061_108, e_6061_109, e_6061_110, e_6061_113, e_6061_114, e_6061_116, e_6061_119, e_6061_120, e_6061_123, e_6061_124, e_6061_126, e_6061_127, e_6061_128, e_6061_131, e_6061_133, zk_int, zk_ref, zk_null, zk_none, zk_long, zisR_r, zisR_n, zcl_int, zcl_ref, zcl_null, zpush_s, zpush_n, zbs, zbn, true_or, or_true, not_false_eq_true, not_true_eq_false, ↓reduceIte, and_self, and_true, true_and, zt_50, zt_50, zr_50_15, zt_58, zn_58, zo_58, zl_58, zq_58, c1, c58, g1, q1', hz, hc, ev, g2, zui_A, eu, nI_1]
    · have ea : sAny (sGN T V G n m) m r (j + 1) = 1 := if_neg (sTn_s2 hr hjm he)
      have g2 : (nI (sRep (sGN T V G n m) m (sTn (sGN T V G n m) m r j) j) = nI (dig 4 m (sTn (sGN T V G n m) m r j) j)) = False := eq_false (fun h => he ((nI_eq (by omega) (by omega)).mp h))
      rw [ea, e_6061_43]
      simp only [c_6061, e_6061_0, e_6061_1, e_6061_2, e_6061_5, e_6061_6, e_6061_7, e_6061_10, e_6061_13, e_6061_14, e_6061_15, e_6061_18, e_6061_19, e_6061_20, e_6061_21, e_6061_24, e_6061_25, e_6061_26, e_6061_27, e_6061_28, e_6061_29, e_6061_32, e_6061_33, e_6061_35, e_6061_38, e_6061_39, e_6061_40, e_6061_41, e_6061_45, e_6061_46, e_6061_49, e_6061_52, e_6061_53, e_6061_55, e_6061_58, e_6061_60, e_6061_62, e_6061_63, e_6061_66, e_6061_68, e_6061_69, e_6061_72, e_6061_73, e_6061_74, e_6061_75, e_6061_78, e_6061_80, e_6061_82, e_6061_83, e_6061_86, e_6061_90, e_6061_93, e_6061_96, e_6061_99, e_6061_100, e_6061_101, e_6061_104, e_6061_105, e_6061_108, e_6061_109, e_6061_110, e_6061_113, e_6061_114, e_6061_116, e_6061_119, e_6061_120, e_6061_123, e_6061_124, e_6061_126, e_6061_127, e_6061_128, e_6061_131, e_6061_133, zk_int, zk_ref, zk_null, zk_none, zk_long, zisR_r, zisR_n, zcl_int, zcl_ref, zcl_null, zpush_s, zpush_n, zbs, zbn, true_or, or_true, not_false_eq_true, not_true_eq_false, ↓reduceIte, and_self, and_true, true_and, zt_50, zt_50, zr_50_15, zt_58, zn_58, zo_58, zl_58, zq_58, c1, c58, g1, q1', hz, hc, ev, g2, zui_A, eu, nI_1]
theorem m_rest_l {K H : Nat → Int32} {a : Int32} (C : zMc w T V G n m) : ∀ q k r o4 o5, k + q = 30 → r < 4 ^ m → ∃ kk x o' o2', kk ≤ 30 ∧ (sRst (sGN T V G n m) m q k r).1 = (if kk = 30 then -1 else nI kk) ∧ den (d + 25) 6061 28 [some (.ref 50), some (.int a), some (.int (nI k)), some (.int 1), o4, o5] [] (MR w K H m r) = den (d + 25) 6061 99 [some (.ref 50), some (.int a), some (.int (nI kk)), some (.int x), o', o2'] [] (MR w K H m (sRst (sGN T V G n m) m q k r).2) := by
  intro q
  induction q with
  | zero =>
    intro k r o4 o5 hk hr
    have e : k = 30 := by omega
    subst e
    have g1 : ((30 : Int32) ≤ nI 30) = True := eq_true (by decide)
    refine ⟨30, 1, o4, o5, Nat.le_refl _, by rw [if_pos rfl]; rfl, ?_⟩
    rw [e_6061_28]
    simp only [e_6061_29, e_6061_32, e_6061_33, e_6061_35, zk_int, zk_ref, zk_null, zk_none, zk_long, zisR_r, zisR_n, zcl_int, zcl_ref, zcl_null, zpush_s, zpush_n, zbs, zbn, true_or, or_true, not_false_eq_true, not_true_eq_false, ↓reduceIte, and_self, and_true, true_and, ie_0_1, ie_0_2, ie_0_3, ie_0_4, ie_0_5, ie_0_6, ie_0_7, ie_1_0, ie_1_2, ie_1_3, ie_1_4, ie_1_5, ie_1_6, ie_1_7, ie_2_0, ie_2_1, ie_2_3, ie_2_4, ie_2_5, ie_2_6, ie_2_7, ie_3_0, ie_3_1, ie_3_2, ie_3_4, ie_3_5, ie_3_6, ie_3_7, ie_4_0, ie_4_1, ie_4_2, ie_4_3, ie_4_5, ie_4_6, ie_4_7, ie_5_0, ie_5_1, ie_5_2, ie_5_3, ie_5_4, ie_5_6, ie_5_7, ie_6_0, ie_6_1, ie_6_2, ie_6_3, ie_6_4, ie_6_5, ie_6_7, ie_7_0, ie_7_1, ie_7_2, ie_7_3, ie_7_4, ie_7_5, ie_7_6, g1]
    rfl
  | succ q ih =>
    intro k r o4 o5 hk hr
    have hk30 : k < 30 := by omega
    have g1 : ((30 : Int32) ≤ nI k) = False := nI_ge_f (b := 30) hk30 (by decide)
    obtain ⟨o', r1⟩ := m_rest_r (d := d) (K := K) (H := H) (a := a) (k := k) C hr m 0 o5 (by omega)
    have ea : sAny (sGN T V G n m) m r 0 = 0 := if_pos rfl
    have es : sTn (sGN T V G n m) m r 0 = r := rfl
    rw [ea, es, nI_0] at r1
    by_cases hc : sTn (sGN T V G n m) m r m = r
    · have e1 : sRst (sGN T V G n m) m (q + 1) k r = (nI k, r) := if_pos hc
      have e2 : sAny (sGN T V G n m) m r m = 0 := if_pos hc
      refine ⟨k, 0, some (.int (nI m)), o', by omega, by rw [e1, if_neg (by omega)], ?_⟩
      rw [e1, e_6061_28]
      rw [e2, hc] at r1
      simp only [e_6061_29, e_6061_32, e_6061_33, e_6061_35, e_6061_38, e_6061_39, e_6061_40, e_6061_41, zk_int, zk_ref, zk_null, zk_none, zk_long, zisR_r, zisR_n, zcl_int, zcl_ref, zcl_null, zpush_s, zpush_n, zbs, zbn, true_or, or_true, not_false_eq_true, not_true_eq_false, ↓reduceIte, and_self, and_true, true_and, ie_0_1, ie_0_2, ie_0_3, ie_0_4, ie_0_5, ie_0_6, ie_0_7, ie_1_0, ie_1_2, ie_1_3, ie_1_4, ie_1_5, ie_1_6, ie_1_7, ie_2_0, ie_2_1, ie_2_3, ie_2_4, ie_2_5, ie_2_6, ie_2_7, ie_3_0, ie_3_1, ie_3_2, ie_3_4, ie_3_5, ie_3_6, ie_3_7, ie_4_0, ie_4_1, ie_4_2, ie_4_3, ie_4_5, ie_4_6, ie_4_7, ie_5_0, ie_5_1, ie_5_2, ie_5_3, ie_5_4, ie_5_6, ie_5_7, ie_6_0, ie_6_1, ie_6_2, ie_6_3, ie_6_4, ie_6_5, ie_6_7, ie_7_0, ie_7_1, ie_7_2, ie_7_3, ie_7_4, ie_7_5, ie_7_6, g1, r1, e_6061_89, e_6061_90]
      rw [e_6061_28]
      simp only [e_6061_29, zk_int, zk_ref, zk_null, zk_none, zk_long, zisR_r, zisR_n, zcl_int, zcl_ref, zcl_null, zpush_s, zpush_n, zbs, zbn, true_or, or_true, not_false_eq_true, not_true_eq_false, ↓reduceIte, and_self, and_true, true_and]
    · have e1 : sRst (sGN T V G n m) m (q + 1) k r = sRst (sGN T V G n m) m q (k + 1) (sTn (sGN T V G n m) m r m) := if_neg hc
      have e2 : sAny (sGN T V G n m) m r m = 1 := if_neg hc
      obtain ⟨kk, x, o1, o2, b1, b2, b3⟩ := ih (k + 1) (sTn (sGN T V G n m) m r m) (some (.int (nI m))) o' (by omega) (sTn_lt hr m (Nat.le_refl _))
      refine ⟨kk, x, o1, o2, b1, by rw [e1]; exact b2, ?_⟩
      rw [e1, ← b3, e_6061_28]
      rw [e2] at r1
      simp only [e_6061_29, e_6061_32, e_6061_33, e_6061_35, e_6061_38, e_6061_39, e_6061_40, e_6061_41, zk_int, zk_ref, zk_null, zk_none, zk_long, zisR_r, zisR_n, zcl_int, zcl_ref, zcl_null, zpush_s, zpush_n, zbs, zbn, true_or, or_true, not_false_eq_true, not_true_eq_false, ↓reduceIte, and_self, and_true, true_and, ie_0_1, ie_0_2, ie_0_3, ie_0_4, ie_0_5, ie_0_6, ie_0_7, ie_1_0, ie_1_2, ie_1_3, ie_1_4, ie_1_5, ie_1_6, ie_1_7, ie_2_0, ie_2_1, ie_2_3, ie_2_4, ie_2_5, ie_2_6, ie_2_7, ie_3_0, ie_3_1, ie_3_2, ie_3_4, ie_3_5, ie_3_6, ie_3_7, ie_4_0, ie_4_1, ie_4_2, ie_4_3, ie_4_5, ie_4_6, ie_4_7, ie_5_0, ie_5_1, ie_5_2, ie_5_3, ie_5_4, ie_5_6, ie_5_7, ie_6_0, ie_6_1, ie_6_2, ie_6_3, ie_6_4, ie_6_5, ie_6_7, ie_7_0, ie_7_1, ie_7_2, ie_7_3, ie_7_4, ie_7_5, ie_7_6, g1, r1, e_6061_89, e_6061_90, e_6061_93, e_6061_96, nI_1]
theorem MR_0 {r : Nat} (K : Nat → Int32) (h : ∀ v, v < m → w.1 58 v = dg m r v) : MR w K (w.1 75) m r = zuA w 74 K := by
  have e : zcpy (dg m r) (w.1 58) m = w.1 58 := by
    funext k
    unfold zcpy
    by_cases hk : k < m
    · rw [if_pos hk]; exact (h k hk).symm
    · rw [if_neg hk]
  unfold MR
  rw [e, M2_0]
theorem m_rest_N {r : Nat} (C : zMc w T V G n m) (hr : r < 4 ^ m) (h : ∀ v, v < m → w.1 58 v = dg m r v) : ∃ w2, zKp w w2 ∧ cal (d + 25) 6061 [.ref 50, .int (-1)] w = some (some (.int (sRst (sGN T V G n m) m 30 0 r).1), w2) := by
  have hm4 := C.2.1.2.2.2
  obtain ⟨kk, x, o', o2', b1, b2, b3⟩ := m_rest_l (d := d) (K := zcpy (w.1 58) (w.1 74) 4) (H := w.1 75) (a := -1) C 30 0 r none none (by omega) hr
  refine ⟨_, M2_kp (K := zcpy (w.1 58) (w.1 74) 4) (H := w.1 75), ?_⟩
  rw [MR_0 _ h, nI_0] at b3
  have kF := m_keepF (d := d + 24) (w := w)
  have kT := M2_back (d := d + 24) (w := w) (K0 := w.1 74) (H := w.1 75) (F := zcpy (dg m (sRst (sGN T V G n m) m 30 0 r).2) (w.1 58) m) (fun k hk => if_neg (by omega))
  have kT' : cal (d + 24) 6060 [.ref 50, .int 1] (MR w (zcpy (w.1 58) (w.1 74) 4) (w.1 75) m (sRst (sGN T V G n m) m 30 0 r).2) = some (none, M2 w (zcpy (w.1 58) (w.1 74) 4) (w.1 75) (w.1 58)) := kT
  rw [b2]
  simp only [c_6061, e_6061_0, e_6061_1, e_6061_2, e_6061_19, e_6061_20, e_6061_21, e_6061_24, e_6061_25, e_6061_26, e_6061_27, zk_int, zk_ref, zk_null, zk_none, zk_long, zisR_r, zisR_n, zcl_int, zcl_ref, zcl_null, zpush_s, zpush_n, zbs, zbn, true_or, or_true, not_false_eq_true, not_true_eq_false, ↓reduceIte, and_self, and_true, true_and, zt_50, kF, b3]
  by_cases hk : kk = 30
  · have g1 : (nI 30 = 30) = True := eq_true (by decide)
    simp only [e_6061_99, e_6061_100, e_6061_101, e_6061_113, e_6061_114, e_6061_116, e_6061_119, e_6061_120, e_6061_123, e_6061_124, e_6061_126, e_6061_127, e_6061_128, e_6061_131, e_6061_133, zk_int, zk_ref, zk_null, zk_none, zk_long, zisR_r, zisR_n, zcl_int, zcl_ref, zcl_null, zpush_s, zpush_n, zbs, zbn, true_or, or_true, not_false_eq_true, not_true_eq_false, ↓reduceIte, and_self, and_true, true_and, zt_50, g1, hk, kT']
  · have g1 : (nI kk = 30) = False := eq_false (fun h => hk ((nI_eq (a := kk) (b := 30) (by omega) (by omega)).mp h))
    simp only [e_6061_99, e_6061_100, e_6061_101, e_6061_113, e_6061_114, e_6061_116, e_6061_119, e_6061_120, e_6061_123, e_6061_124, e_6061_126, e_6061_127, e_6061_128, e_6061_131, e_6061_133, zk_int, zk_ref, zk_null, zk_none, zk_long, zisR_r, zisR_n, zcl_int, zcl_ref, zcl_null, zpush_s, zpush_n, zbs, zbn, true_or, or_true, not_false_eq_true, not_true_eq_false, ↓reduceIte, and_self, and_true, true_and, zt_50, g1, hk, kT']
theorem sRst_lt {GN : Nat → Nat → Int32} {m : Nat} : ∀ q k r, r < 4 ^ m → (sRst GN m q k r).2 < 4 ^ m := by
  intro q
  induction q with
  | zero => intro k r hr; exact hr
  | succ q ih =>
    intro k r hr
    show (if _ then _ else _ : Int32 × Nat).2 < _
    split
    · exact hr
    · exact ih _ _ (sTn_lt hr m (Nat.le_refl _))
theorem m_rest_w {r y : Nat} (C : zMc w T V G n m) (hr : r < 4 ^ m) (h : ∀ v, v < m → w.1 58 v = dg m r v) (hy : y < m) : ∃ w2, zKp w w2 ∧ cal (d + 25) 6061 [.ref 50, .int (nI y)] w = some (some (.int (nI (dig 4 m (sRst (sGN T V G n m) m 30 0 r).2 y))), w2) := by
  have hm4 := C.2.1.2.2.2
  obtain ⟨kk, x, o', o2', b1, b2, b3⟩ := m_rest_l (d := d) (K := zcpy (w.1 58) (w.1 74) 4) (H := w.1 75) (a := nI y) C 30 0 r none none (by omega) hr
  refine ⟨_, M2_kp (K := zcpy (w.1 58) (w.1 74) 4) (H := w.1 75), ?_⟩
  rw [MR_0 _ h, nI_0] at b3
  have kF := m_keepF (d := d + 24) (w := w)
  have kT := M2_back (d := d + 24) (w := w) (K0 := w.1 74) (H := w.1 75) (F := zcpy (dg m (sRst (sGN T V G n m) m 30 0 r).2) (w.1 58) m) (fun k hk => if_neg (by omega))
  have kT' : cal (d + 24) 6060 [.ref 50, .int 1] (MR w (zcpy (w.1 58) (w.1 74) 4) (w.1 75) m (sRst (sGN T V G n m) m 30 0 r).2) = some (none, M2 w (zcpy (w.1 58) (w.1 74) 4) (w.1 75) (w.1 58)) := kT
  have g1 := nI_neM (y := y) (by omega)
  have q1 := m_isWaiter (d := d + 24) C.2.1 hy
  have hz := zis_nI (j := y) (n := 4) (by omega) (by decide)
  have hc := nI_clamp (n := y) (by omega)
  have c58 : ∀ s, (MR w (zcpy (w.1 58) (w.1 74) 4) (w.1 75) m s).1 58 = zcpy (dg m s) (w.1 58) m := fun s => M2_58 _ _ _
  have ev : ∀ s, zcpy (dg m s) (w.1 58) m y = nI (dig 4 m s y) := fun s => if_pos hy
  simp only [c_6061, e_6061_0, e_6061_1, e_6061_2, e_6061_5, e_6061_6, e_6061_7, e_6061_10, e_6061_19, e_6061_20, e_6061_21, e_6061_24, e_6061_25, e_6061_26, e_6061_27, zk_int, zk_ref, zk_null, zk_none, zk_long, zisR_r, zisR_n, zcl_int, zcl_ref, zcl_null, zpush_s, zpush_n, zbs, zbn, true_or, or_true, not_false_eq_true, not_true_eq_false, ↓reduceIte, and_self, and_true, true_and, ie_0_1, ie_0_2, ie_0_3, ie_0_4, ie_0_5, ie_0_6, ie_0_7, ie_1_0, ie_1_2, ie_1_3, ie_1_4, ie_1_5, ie_1_6, ie_1_7, ie_2_0, ie_2_1, ie_2_3, ie_2_4, ie_2_5, ie_2_6, ie_2_7, ie_3_0, ie_3_1, ie_3_2, ie_3_4, ie_3_5, ie_3_6, ie_3_7, ie_4_0, ie_4_1, ie_4_2, ie_4_3, ie_4_5, ie_4_6, ie_4_7, ie_5_0, ie_5_1, ie_5_2, ie_5_3, ie_5_4, ie_5_6, ie_5_7, ie_6_0, ie_6_1, ie_6_2, ie_6_3, ie_6_4, ie_6_5, ie_6_7, ie_7_0, ie_7_1, ie_7_2, ie_7_3, ie_7_4, ie_7_5, ie_7_6, zt_50, g1, q1, kF, b3]
  simp only [e_6061_99, e_6061_100, e_6061_101, e_6061_104, e_6061_105, e_6061_108, e_6061_109, e_6061_110, e_6061_124, e_6061_126, e_6061_127, e_6061_128, e_6061_131, e_6061_133, zk_int, zk_ref, zk_null, zk_none, zk_long, zisR_r, zisR_n, zcl_int, zcl_ref, zcl_null, zpush_s, zpush_n, zbs, zbn, true_or, or_true, not_false_eq_true, not_true_eq_false, ↓reduceIte, and_self, and_true, true_and, zt_50, zr_50_15, zt_58, zn_58, zo_58, zl_58, zq_58, g1, c58, hz, hc, ev, kT']
end MI
