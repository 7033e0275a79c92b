theorem zsum_p {f : Nat → Int32} : ∀ n, n ≤ 8 → (∀ i, i < n → zBt (f i) 1 9) → zBt (zsum f n) n (9 * n) := by
  intro n
  induction n with
  | zero =>
    intro _ _
    unfold zBt zsum
    rw [ti_0]
    omega
  | succ n ih =>
    intro h8 h
    obtain ⟨i0, i1⟩ := ih (by omega) (fun i hi => h i (by omega))
    obtain ⟨f0, f1⟩ := h n (by omega)
    unfold zBt
    rw [← zsum_s, ti_add (by omega) (by omega)]
    omega
section ME
variable {d n m : Nat} {w : zM} {T V G : Nat → Int32}
theorem sPts_p (R : zRg T V G n m) (hm : 0 < m) : ¬ sPts V m ≤ 0 ∧ ¬ sPts V m = 0 := by
  have hm4 : m ≤ 4 := R.2.2.2.2.2.2.2.2
  obtain ⟨h0, h1⟩ := zsum_p (f := fun v => V (6 * v + 3)) m (by omega) (fun i hi => (R.2.1 i hi).2.2)
  unfold sPts
  rw [ti_le, ti_eq, ti_0]
  omega
theorem sh_c {x : Int32} (h : zBt x 0 3) : x = 0 ∨ x = 1 ∨ x = 2 ∨ x = 3 := by
  obtain ⟨h0, h1⟩ := h
  have e2 : (2 : Int32).toInt = 2 := by decide
  have e3 : (3 : Int32).toInt = 3 := by decide
  rw [ti_eq, ti_eq, ti_eq, ti_eq, ti_0, ti_1, e2, e3]
  omega
theorem m_shareOf {y : Nat} (C : zMc w T V G n m) (hy : y < m) : cal (d + 19) 6053 [.ref 50, .int (nI y)] w = some (some (.int (sShr T V G (sGv T V G) n m y)), w) := by
  have R := C.2.2
  have hm4 : m ≤ 4 := R.2.2.2.2.2.2.2.2
  have c2 := C.1.2.2.1
  have cm := C.2.1.2.1
  have qo := m_ownOf (d := d) (y := nI y) C
  have qa := m_allGiven (d := d) C
  have hm0 : (nI m = 0) = False := nI_ne0' (by omega) (by omega)
  rcases sh_c R.2.2.1 with h | h | h | h
  · have e : sShr T V G (sGv T V G) n m y = zsum (sOwnF T (sGv T V G) (nI y)) n := by unfold sShr; rw [h]; rfl
    rw [e]
    simp only [c_6053, e_6053_0, e_6053_1, e_6053_2, e_6053_3, e_6053_6, e_6053_32, e_6053_33, e_6053_34, e_6053_37, e_6053_38, e_6053_39, e_6053_42, e_6053_43, e_6053_46, e_6053_47, e_6053_48, e_6053_49, e_6053_50, e_6053_51, e_6053_52, e_6053_55, e_6053_58, e_6053_59, e_6053_60, e_6053_63, e_6053_64, e_6053_65, e_6053_66, e_6053_67, e_6053_70, e_6053_73, e_6053_74, e_6053_77, e_6053_78, e_6053_81, e_6053_82, e_6053_83, e_6053_84, e_6053_85, e_6053_86, e_6053_87, e_6053_88, e_6053_89, e_6053_92, e_6053_93, e_6053_94, e_6053_95, e_6053_98, e_6053_99, e_6053_102, e_6053_103, e_6053_104, e_6053_105, e_6053_106, zk_int, zk_ref, zk_null, zk_none, zk_long, zisR_r, zisR_n, zcl_int, zcl_ref, zcl_null, zpush_s, zpush_n, zbs, zbn, true_or, or_true, not_false_eq_true, not_true_eq_false, ↓reduceIte, and_self, and_true, true_and, zt_50, c2, h, ie_0_1, ie_0_2, ie_0_3, ie_0_4, ie_0_5, ie_0_6, ie_0_7, ie_1_0, ie_1_2, ie_1_3, ie_1_4, ie_1_5, ie_1_6, ie_1_7, ie_2_0, ie_2_1, ie_2_3, ie_2_4, ie_2_5, ie_2_6, ie_2_7, ie_3_0, ie_3_1, ie_3_2, ie_3_4, ie_3_5, ie_3_6, ie_3_7, ie_4_0, ie_4_1, ie_4_2, ie_4_3, ie_4_5, ie_4_6, ie_4_7, ie_5_0, ie_5_1, ie_5_2, ie_5_3, ie_5_4, ie_5_6, ie_5_7, ie_6_0, ie_6_1, ie_6_2, ie_6_3, ie_6_4, ie_6_5, ie_6_7, ie_7_0, ie_7_1, ie_7_2, ie_7_3, ie_7_4, ie_7_5, ie_7_6, qo]
  · have e : sShr T V G (sGv T V G) n m y = zsum (sGv T V G) n / nI m := by unfold sShr; rw [h]; rfl
    rw [e]
    simp only [c_6053, e_6053_0, e_6053_1, e_6053_2, e_6053_3, e_6053_6, e_6053_32, e_6053_33, e_6053_34, e_6053_37, e_6053_38, e_6053_39, e_6053_42, e_6053_43, e_6053_46, e_6053_47, e_6053_48, e_6053_49, e_6053_50, e_6053_51, e_6053_52, e_6053_55, e_6053_58, e_6053_59, e_6053_60, e_6053_63, e_6053_64, e_6053_65, e_6053_66, e_6053_67, e_6053_70, e_6053_73, e_6053_74, e_6053_77, e_6053_78, e_6053_81, e_6053_82, e_6053_83, e_6053_84, e_6053_85, e_6053_86, e_6053_87, e_6053_88, e_6053_89, e_6053_92, e_6053_93, e_6053_94, e_6053_95, e_6053_98, e_6053_99, e_6053_102, e_6053_103, e_6053_104, e_6053_105, e_6053_106, zk_int, zk_ref, zk_null, zk_none, zk_long, zisR_r, zisR_n, zcl_int, zcl_ref, zcl_null, zpush_s, zpush_n, zbs, zbn, true_or, or_true, not_false_eq_true, not_true_eq_false, ↓reduceIte, and_self, and_true, true_and, zt_50, c2, h, ie_0_1, ie_0_2, ie_0_3, ie_0_4, ie_0_5, ie_0_6, ie_0_7, ie_1_0, ie_1_2, ie_1_3, ie_1_4, ie_1_5, ie_1_6, ie_1_7, ie_2_0, ie_2_1, ie_2_3, ie_2_4, ie_2_5, ie_2_6, ie_2_7, ie_3_0, ie_3_1, ie_3_2, ie_3_4, ie_3_5, ie_3_6, ie_3_7, ie_4_0, ie_4_1, ie_4_2, ie_4_3, ie_4_5, ie_4_6, ie_4_7, ie_5_0, ie_5_1, ie_5_2, ie_5_3, ie_5_4, ie_5_6, ie_5_7, ie_6_0, ie_6_1, ie_6_2, ie_6_3, ie_6_4, ie_6_5, ie_6_7, ie_7_0, ie_7_1, ie_7_2, ie_7_3, ie_7_4, ie_7_5, ie_7_6, qa, cm, hm0]
  · obtain ⟨p1, p2⟩ := sPts_p R (by omega : 0 < m)
    have p2' : (sPts V m = 0) = False := eq_false p2
    have e : sShr T V G (sGv T V G) n m y = zsum (sGv T V G) n * V (6 * y + 3) / sPts V m := by
      unfold sShr sByP; rw [h, if_neg p1]; rfl
    rw [e]
    obtain ⟨v0, v1, v2, v3, v4⟩ := C.1.2.1 y (by omega)
    have hzy := zis_nI (j := y) (n := 4) (by omega) (by decide)
    have hcy := nI_clamp (n := y) (by omega)
    have key : ∀ r j, j + r = m → den (d + 19) 6053 50 [some (.ref 50), some (.int (nI y)), some (.int (zsum (fun v => V (6 * v + 3)) j)), some (.int (nI j))] [] w = some (some (.int (zsum (sGv T V G) n * V (6 * y + 3) / sPts V m)), w) := by
      intro r
      induction r with
      | zero =>
        intro j hj
        have e : j = m := by omega
        subst e
        have g1 := nI_le_n (Nat.le_refl j) (by omega)
        have p3 : zsum (fun v => V (6 * v + 3)) j = sPts V j := rfl
        simp only [c_6053, e_6053_0, e_6053_1, e_6053_2, e_6053_3, e_6053_6, e_6053_32, e_6053_33, e_6053_34, e_6053_37, e_6053_38, e_6053_39, e_6053_42, e_6053_43, e_6053_46, e_6053_47, e_6053_48, e_6053_49, e_6053_50, e_6053_51, e_6053_52, e_6053_55, e_6053_58, e_6053_59, e_6053_60, e_6053_63, e_6053_64, e_6053_65, e_6053_66, e_6053_67, e_6053_70, e_6053_73, e_6053_74, e_6053_77, e_6053_78, e_6053_81, e_6053_82, e_6053_83, e_6053_84, e_6053_85, e_6053_86, e_6053_87, e_6053_88, e_6053_89, e_6053_92, e_6053_93, e_6053_94, e_6053_95, e_6053_98, e_6053_99, e_6053_102, e_6053_103, e_6053_104, e_6053_105, e_6053_106, zk_int, zk_ref, zk_null, zk_none, zk_long, zisR_r, zisR_n, zcl_int, zcl_ref, zcl_null, zpush_s, zpush_n, zbs, zbn, true_or, or_true, not_false_eq_true, not_true_eq_false, ↓reduceIte, and_self, and_true, true_and, zt_50, zr_50_17, zt_60, zn_60, zo_60, zl_60, zq_60, cm, g1, qa, hzy, hcy, v3, p3, p2']
      | succ r ih =>
        intro j hj
        have hjn : j < m := by omega
        have g1 := nI_ge_f hjn (by omega)
        obtain ⟨u0, u1, u2, u3, u4⟩ := C.1.2.1 j (by omega)
        have hz := zis_nI (j := j) (n := 4) (by omega) (by decide)
        have hc := nI_clamp (n := j) (by omega)
        have ih2 := ih (j + 1) (by omega)
        rw [e_6053_50]
        simp only [c_6053, e_6053_0, e_6053_1, e_6053_2, e_6053_3, e_6053_6, e_6053_32, e_6053_33, e_6053_34, e_6053_37, e_6053_38, e_6053_39, e_6053_42, e_6053_43, e_6053_46, e_6053_47, e_6053_48, e_6053_49, e_6053_51, e_6053_52, e_6053_55, e_6053_58, e_6053_59, e_6053_60, e_6053_63, e_6053_64, e_6053_65, e_6053_66, e_6053_67, e_6053_70, e_6053_73, e_6053_74, e_6053_77, e_6053_78, e_6053_81, e_6053_82, e_6053_83, e_6053_84, e_6053_85, e_6053_86, e_6053_87, e_6053_88, e_6053_89, e_6053_92, e_6053_93, e_6053_94, e_6053_95, e_6053_98, e_6053_99, e_6053_102, e_6053_103, e_6053_104, e_6053_105, e_6053_106, zk_int, zk_ref, zk_null, zk_none, zk_long, zisR_r, zisR_n, zcl_int, zcl_ref, zcl_null, zpush_s, zpush_n, zbs, zbn, true_or, or_true, not_false_eq_true, not_true_eq_false, ↓reduceIte, and_self, and_true, true_and, zt_50, zr_50_17, zt_60, zn_60, zo_60, zl_60, zq_60, cm, g1, nI_1, hz, hc, u3]
        rw [← zsum_s] at ih2
        exact ih2
    have k0 := key m 0 (by omega)
    have z0 : nI 0 = 0 := nI_0
    rw [z0] at k0
    simp only [c_6053, e_6053_0, e_6053_1, e_6053_2, e_6053_3, e_6053_6, e_6053_32, e_6053_33, e_6053_34, e_6053_37, e_6053_38, e_6053_39, e_6053_42, e_6053_43, e_6053_46, e_6053_47, e_6053_48, e_6053_49, e_6053_51, e_6053_52, e_6053_55, e_6053_58, e_6053_59, e_6053_60, e_6053_63, e_6053_64, e_6053_65, e_6053_66, e_6053_67, e_6053_70, e_6053_73, e_6053_74, e_6053_77, e_6053_78, e_6053_81, e_6053_82, e_6053_83, e_6053_84, e_6053_85, e_6053_86, e_6053_87, e_6053_88, e_6053_89, e_6053_92, e_6053_93, e_6053_94, e_6053_95, e_6053_98, e_6053_99, e_6053_102, e_6053_103, e_6053_104, e_6053_105, e_6053_106, zk_int, zk_ref, zk_null, zk_none, zk_long, zisR_r, zisR_n, zcl_int, zcl_ref, zcl_null, zpush_s, zpush_n, zbs, zbn, true_or, or_true, not_false_eq_true, not_true_eq_false, ↓reduceIte, and_self, and_true, true_and, zt_50, c2, h, ie_0_1, ie_0_2, ie_0_3, ie_0_4, ie_0_5, ie_0_6, ie_0_7, ie_1_0, ie_1_2, ie_1_3, ie_1_4, ie_1_5, ie_1_6, ie_1_7, ie_2_0, ie_2_1, ie_2_3, ie_2_4, ie_2_5, ie_2_6, ie_2_7, ie_3_0, ie_3_1, ie_3_2, ie_3_4, ie_3_5, ie_3_6, ie_3_7, ie_4_0, ie_4_1, ie_4_2, ie_4_3, ie_4_5, ie_4_6, ie_4_7, ie_5_0, ie_5_1, ie_5_2, ie_5_3, ie_5_4, ie_5_6, ie_5_7, ie_6_0, ie_6_1, ie_6_2, ie_6_3, ie_6_4, ie_6_5, ie_6_7, ie_7_0, ie_7_1, ie_7_2, ie_7_3, ie_7_4, ie_7_5, ie_7_6]
    exact k0
  · have e : sShr T V G (sGv T V G) n m y = zsum (sOwnF T (sGv T V G) (nI y)) n / 2 + zsum (sGv T V G) n / nI m / 2 := by unfold sShr; rw [h]; rfl
    rw [e]
    simp only [c_6053, e_6053_0, e_6053_1, e_6053_2, e_6053_3, e_6053_6, e_6053_32, e_6053_33, e_6053_34, e_6053_37, e_6053_38, e_6053_39, e_6053_42, e_6053_43, e_6053_46, e_6053_47, e_6053_48, e_6053_49, e_6053_50, e_6053_51, e_6053_52, e_6053_55, e_6053_58, e_6053_59, e_6053_60, e_6053_63, e_6053_64, e_6053_65, e_6053_66, e_6053_67, e_6053_70, e_6053_73, e_6053_74, e_6053_77, e_6053_78, e_6053_81, e_6053_82, e_6053_83, e_6053_84, e_6053_85, e_6053_86, e_6053_87, e_6053_88, e_6053_89, e_6053_92, e_6053_93, e_6053_94, e_6053_95, e_6053_98, e_6053_99, e_6053_102, e_6053_103, e_6053_104, e_6053_105, e_6053_106, zk_int, zk_ref, zk_null, zk_none, zk_long, zisR_r, zisR_n, zcl_int, zcl_ref, zcl_null, zpush_s, zpush_n, zbs, zbn, true_or, or_true, not_false_eq_true, not_true_eq_false, ↓reduceIte, and_self, and_true, true_and, zt_50, c2, h, ie_0_1, ie_0_2, ie_0_3, ie_0_4, ie_0_5, ie_0_6, ie_0_7, ie_1_0, ie_1_2, ie_1_3, ie_1_4, ie_1_5, ie_1_6, ie_1_7, ie_2_0, ie_2_1, ie_2_3, ie_2_4, ie_2_5, ie_2_6, ie_2_7, ie_3_0, ie_3_1, ie_3_2, ie_3_4, ie_3_5, ie_3_6, ie_3_7, ie_4_0, ie_4_1, ie_4_2, ie_4_3, ie_4_5, ie_4_6, ie_4_7, ie_5_0, ie_5_1, ie_5_2, ie_5_3, ie_5_4, ie_5_6, ie_5_7, ie_6_0, ie_6_1, ie_6_2, ie_6_3, ie_6_4, ie_6_5, ie_6_7, ie_7_0, ie_7_1, ie_7_2, ie_7_3, ie_7_4, ie_7_5, ie_7_6, qa, qo, cm, hm0, i32_2]
theorem m_gainOf {y : Nat} (C : zMc w T V G n m) (hy : y < m) : cal (d + 20) 6055 [.ref 50, .int (nI y)] w = some (some (.int (sGn T V G n m y)), w) := by
  have R := C.2.2
  have hm4 : m ≤ 4 := R.2.2.2.2.2.2.2.2
  have q1 := m_shareOf (d := d) C hy
  have q2 := m_tablesOf (d := d + 19) (y := nI y) C.1 C.2.1
  obtain ⟨v0, v1, v2, v3, v4⟩ := C.1.2.1 y (by omega)
  have hz := zis_nI (j := y) (n := 4) (by omega) (by decide)
  have hc := nI_clamp (n := y) (by omega)
  simp only [c_6055, e_6055_0, e_6055_1, e_6055_2, e_6055_5, e_6055_6, e_6055_9, e_6055_10, e_6055_11, e_6055_12, e_6055_15, e_6055_16, e_6055_17, e_6055_18, e_6055_19, e_6055_20, e_6055_23, e_6055_24, e_6055_25, zk_int, zk_ref, zk_null, zk_none, zk_long, zisR_r, zisR_n, zcl_int, zcl_ref, zcl_null, zpush_s, zpush_n, zbs, zbn, true_or, or_true, not_false_eq_true, not_true_eq_false, ↓reduceIte, and_self, and_true, true_and, zt_50, zr_50_16, zt_59, zn_59, zo_59, zl_59, zq_59, zr_50_15, zt_58, zn_58, zo_58, zl_58, zq_58, q1, q2, hz, hc, v1, v2]
  rfl
theorem zMc_V1 {y : Nat} {e : Int32} (C : zMc w T V G n m) (hy : y < m) (he : zBt e 0 3) : zMc (zuA w 58 (upd (w.1 58) y e)) T (upd V (6 * y + 1) e) G n m :=
  ⟨zMs_V1 C.1 (by have := C.2.1.2.2.2; omega), zMn_k C.2.1 (by rw [zA_n _ _ (by decide)]) (by rw [zA_n _ _ (by decide)]), zRg_V1 C.2.2 he⟩
theorem m_gainIf {y : Nat} {e : Int32} (C : zMc w T V G n m) (hy : y < m) (he : zBt e 0 3) : cal (d + 21) 6056 [.ref 50, .int (nI y), .int e] w = some (some (.int (sGn T (upd V (6 * y + 1) e) G n m y)), w) := by
  have hm4 : m ≤ 4 := C.2.1.2.2.2
  have q1 := m_gainOf (d := d) (zMc_V1 C hy he) hy
  have hz := zis_nI (j := y) (n := 4) (by omega) (by decide)
  have hc := nI_clamp (n := y) (by omega)
  simp only [c_6056, e_6056_0, e_6056_1, e_6056_4, e_6056_5, e_6056_6, e_6056_7, e_6056_8, e_6056_11, e_6056_12, e_6056_13, e_6056_14, e_6056_15, e_6056_16, e_6056_19, e_6056_21, e_6056_22, e_6056_25, e_6056_26, e_6056_27, e_6056_28, e_6056_30, zk_int, zk_ref, zk_null, zk_none, zk_long, zisR_r, zisR_n, zcl_int, zcl_ref, zcl_null, zpush_s, zpush_n, zbs, zbn, true_or, or_true, not_false_eq_true, not_true_eq_false, ↓reduceIte, and_self, and_true, true_and, zt_50, zr_50_15, zt_58, zn_58, zo_58, zl_58, zq_58, hz, hc, zui_A, q1, zA_s, upd_u, upd_id, zA_A, zA_id]
end ME
def dg (m r : Nat) : Nat → Int32 := fun v => nI (dig 4 m r v)
def yE (w : zM) (m r : Nat) : zM := zuA w 58 (zcpy (dg m r) (w.1 58) m)
theorem dg_b (m r v : Nat) : zBt (dg m r v) 0 3 := by
  have h := dig_lt (b := 4) (m := m) (r := r) (y := v) (by decide)
  exact nI_bt (a := 0) (b := 3) (by omega) (by omega) (by omega)
section MF
variable {d n m : Nat} {w : zM} {T V G : Nat → Int32}
theorem yE_C {r : Nat} (C : zMc w T V G n m) : zMc (yE w m r) T (sSe V (dg m r) m) G n m :=
  ⟨zMs_e C.1 C.2.1.2.2.2, zMn_k C.2.1 (by unfold yE; rw [zA_n _ _ (by decide)]) (by unfold yE; rw [zA_n _ _ (by decide)]), zRg_e C.2.2 (fun x _ => dg_b m r x)⟩
theorem sSe_wE {r y e : Nat} (hy : y < m) (he : e < 4) (hr : r < 4 ^ m) : upd (sSe V (dg m r) m) (6 * y + 1) (nI e) = sSe V (dg m (wE m r y e)) m := by
  funext k
  unfold upd sSe dg
  by_cases h : k = 6 * y + 1
  · rw [if_pos h, if_pos (by omega)]
    have e1 : k / 6 = y := by omega
    rw [e1, wE_dig hy hy he hr, if_pos rfl]
  · rw [if_neg h]
    by_cases h2 : k % 6 = 1 ∧ k / 6 < m
    · rw [if_pos h2, if_pos h2, wE_dig hy h2.2 he hr, if_neg (by omega)]
    · rw [if_neg h2, if_neg h2]
theorem zcpy_wE {f : Nat → Int32} {r y e : Nat} (hy : y < m) (he : e < 4) (hr : r < 4 ^ m) : upd (zcpy (dg m r) f m) y (nI e) = zcpy (dg m (wE m r y e)) f m := by
  funext k
  unfold upd zcpy dg
  by_cases h : k = y
  · subst h
    rw [if_pos rfl, if_pos hy, wE_dig hy hy he hr, if_pos rfl]
  · rw [if_neg h]
    by_cases h2 : k < m
    · rw [if_pos h2, if_pos h2, wE_dig hy h2 he hr, if_neg h]
    · rw [if_neg h2, if_neg h2]
theorem y_gainOf {r y : Nat} (C : zMc w T V G n m) (hy : y < m) : cal (d + 20) 6055 [.ref 50, .int (nI y)] (yE w m r) = some (some (.int (sGN T V G n m r y)), yE w m r) :=
  m_gainOf (yE_C C) hy
theorem y_gainIf {r y e : Nat} (C : zMc w T V G n m) (hy : y < m) (he : e < 4) (hr : r < 4 ^ m) : cal (d + 21) 6056 [.ref 50, .int (nI y), .int (nI e)] (yE w m r) = some (some (.int (sGN T V G n m (wE m r y e) y)), yE w m r) := by
  have q := m_gainIf (d := d) (yE_C (r := r) C) hy (nI_bt (k := e) (a := 0) (b := 3) (by omega) (by omega) (by omega))
  rw [sSe_wE hy he hr] at q
  exact q
theorem y_replyOf {r y : Nat} (C : zMc w T V G n m) (hy : y < m) (hr : r < 4 ^ m) : cal (d + 22) 6058 [.ref 50, .int (nI y)] (yE w m r) = some (some (.int (nI (sRep (sGN T V G n m) m r y))), yE w m r) := by
  have q0 := y_gainIf (d := d) (e := 0) C hy (by decide) hr
  have q1 := y_gainIf (d := d) (e := 1) C hy (by decide) hr
  have q2 := y_gainIf (d := d) (e := 2) C hy (by decide) hr
  have q3 := y_gainIf (d := d) (e := 3) C hy (by decide) hr
  have n0 : nI 0 = 0 := nI_0
  have n1 : nI 1 = 1 := by decide
  have n2 : nI 2 = 2 := by decide
  have n3 : nI 3 = 3 := by decide
  rw [n0] at q0
  rw [n1] at q1
  rw [n2] at q2
  rw [n3] at q3
  have e4 : ((4 : Int32) ≤ 1) = False := eq_false (by decide)
  have e5 : ((4 : Int32) ≤ 2) = False := eq_false (by decide)
  have e6 : ((4 : Int32) ≤ 3) = False := eq_false (by decide)
  have e7 : ((4 : Int32) ≤ 4) = True := eq_true (by decide)
  have a1 : (1 : Int32) + 1 = 2 := by decide
  have a2 : (2 : Int32) + 1 = 3 := by decide
  have a3 : (3 : Int32) + 1 = 4 := by decide
  unfold sRep
  generalize hf : (fun e => sGN T V G n m (wE m r y e) y) = f
  have f0 : sGN T V G n m (wE m r y 0) y = f 0 := by rw [← hf]
  have f1 : sGN T V G n m (wE m r y 1) y = f 1 := by rw [← hf]
  have f2 : sGN T V G n m (wE m r y 2) y = f 2 := by rw [← hf]
  have f3 : sGN T V G n m (wE m r y 3) y = f 3 := by rw [← hf]
  rw [f0] at q0
  rw [f1] at q1
  rw [f2] at q2
  rw [f3] at q3
  have st : ∀ (o : Option Value) (k : Nat) (x : Int32), k < 3 → True := fun _ _ _ _ => trivial
  have l1 : ∀ (b s x : Int32) (o : Option Value) (X : Int32), den (d + 22) 6058 12 [some (.ref 50), some (.int (nI y)), some (.int b), some (.int s), some (.int 1), o] [] (yE w m r) = if f 1 ≤ s then den (d + 22) 6058 12 [some (.ref 50), some (.int (nI y)), some (.int b), some (.int s), some (.int 2), some (.int (f 1))] [] (yE w m r) else den (d + 22) 6058 12 [some (.ref 50), some (.int (nI y)), some (.int 1), some (.int (f 1)), some (.int 2), some (.int (f 1))] [] (yE w m r) := by
    intro b s x o X
    rw [e_6058_12]
    by_cases h : f 1 ≤ s
    · have h' : (s < f 1) = False := eq_false (Int32.not_lt.mpr h)
      simp only [c_6058, e_6058_0, e_6058_1, e_6058_2, e_6058_3, e_6058_4, e_6058_5, e_6058_8, e_6058_9, e_6058_10, e_6058_14, e_6058_15, e_6058_18, e_6058_19, e_6058_20, e_6058_22, e_6058_25, e_6058_27, e_6058_29, e_6058_30, e_6058_33, e_6058_36, e_6058_38, e_6058_39, e_6058_41, e_6058_42, e_6058_45, e_6058_48, e_6058_49, zk_int, zk_ref, zk_null, zk_none, zk_long, zisR_r, zisR_n, zcl_int, zcl_ref, zcl_null, zpush_s, zpush_n, zbs, zbn, true_or, or_true, not_false_eq_true, not_true_eq_false, ↓reduceIte, and_self, and_true, true_and, zt_50, q1, e4, h, h', a1]
    · have h' : (s < f 1) = True := eq_true (Int32.not_le.mp h)
      simp only [c_6058, e_6058_0, e_6058_1, e_6058_2, e_6058_3, e_6058_4, e_6058_5, e_6058_8, e_6058_9, e_6058_10, e_6058_14, e_6058_15, e_6058_18, e_6058_19, e_6058_20, e_6058_22, e_6058_25, e_6058_27, e_6058_29, e_6058_30, e_6058_33, e_6058_36, e_6058_38, e_6058_39, e_6058_41, e_6058_42, e_6058_45, e_6058_48, e_6058_49, zk_int, zk_ref, zk_null, zk_none, zk_long, zisR_r, zisR_n, zcl_int, zcl_ref, zcl_null, zpush_s, zpush_n, zbs, zbn, true_or, or_true, not_false_eq_true, not_true_eq_false, ↓reduceIte, and_self, and_true, true_and, zt_50, q1, e4, h, h', a1]
  have l2 : ∀ (b s x : Int32) (o : Option Value) (X : Int32), den (d + 22) 6058 12 [some (.ref 50), some (.int (nI y)), some (.int b), some (.int s), some (.int 2), o] [] (yE w m r) = if f 2 ≤ s then den (d + 22) 6058 12 [some (.ref 50), some (.int (nI y)), some (.int b), some (.int s), some (.int 3), some (.int (f 2))] [] (yE w m r) else den (d + 22) 6058 12 [some (.ref 50), some (.int (nI y)), some (.int 2), some (.int (f 2)), some (.int 3), some (.int (f 2))] [] (yE w m r) := by
    intro b s x o X
    rw [e_6058_12]
    by_cases h : f 2 ≤ s
    · have h' : (s < f 2) = False := eq_false (Int32.not_lt.mpr h)
      simp only [c_6058, e_6058_0, e_6058_1, e_6058_2, e_6058_3, e_6058_4, e_6058_5, e_6058_8, e_6058_9, e_6058_10, e_6058_14, e_6058_15, e_6058_18, e_6058_19, e_6058_20, e_6058_22, e_6058_25, e_6058_27, e_6058_29, e_6058_30, e_6058_33, e_6058_36, e_6058_38, e_6058_39, e_6058_41, e_6058_42, e_6058_45, e_6058_48, e_6058_49, zk_int, zk_ref, zk_null, zk_none, zk_long, zisR_r, zisR_n, zcl_int, zcl_ref, zcl_null, zpush_s, zpush_n, zbs, zbn, true_or, or_true, not_false_eq_true, not_true_eq_false, ↓reduceIte, and_self, and_true, true_and, zt_50, q2, e5, h, h', a2]
    · have h' : (s < f 2) = True := eq_true (Int32.not_le.mp h)
      simp only [c_6058, e_6058_0, e_6058_1, e_6058_2, e_6058_3, e_6058_4, e_6058_5, e_6058_8, e_6058_9, e_6058_10, e_6058_14, e_6058_15, e_6058_18, e_6058_19, e_6058_20, e_6058_22, e_6058_25, e_6058_27, e_6058_29, e_6058_30, e_6058_33, e_6058_36, e_6058_38, e_6058_39, e_6058_41, e_6058_42, e_6058_45, e_6058_48, e_6058_49, zk_int, zk_ref, zk_null, zk_none, zk_long, zisR_r, zisR_n, zcl_int, zcl_ref, zcl_null, zpush_s, zpush_n, zbs, zbn, true_or, or_true, not_false_eq_true, not_true_eq_false, ↓reduceIte, and_self, and_true, true_and, zt_50, q2, e5, h, h', a2]
  have l3 : ∀ (b s x : Int32) (o : Option Value) (X : Int32), den (d + 22) 6058 12 [some (.ref 50), some (.int (nI y)), some (.int b), some (.int s), some (.int 3), o] [] (yE w m r) = if f 3 ≤ s then some (some (.int b), yE w m r) else some (some (.int 3), yE w m r) := by
    intro b s x o X
    rw [e_6058_12]
    by_cases h : f 3 ≤ s
    · have h' : (s < f 3) = False := eq_false (Int32.not_lt.mpr h)
      simp only [c_6058, e_6058_0, e_6058_1, e_6058_2, e_6058_3, e_6058_4, e_6058_5, e_6058_8, e_6058_9, e_6058_10, e_6058_12, e_6058_14, e_6058_15, e_6058_18, e_6058_19, e_6058_20, e_6058_22, e_6058_25, e_6058_27, e_6058_29, e_6058_30, e_6058_33, e_6058_36, e_6058_38, e_6058_39, e_6058_41, e_6058_42, e_6058_45, e_6058_48, e_6058_49, zk_int, zk_ref, zk_null, zk_none, zk_long, zisR_r, zisR_n, zcl_int, zcl_ref, zcl_null, zpush_s, zpush_n, zbs, zbn, true_or, or_true, not_false_eq_true, not_true_eq_false, ↓reduceIte, and_self, and_true, true_and, zt_50, q3, e6, e7, h, h', a3]
    · have h' : (s < f 3) = True := eq_true (Int32.not_le.mp h)
      simp only [c_6058, e_6058_0, e_6058_1, e_6058_2, e_6058_3, e_6058_4, e_6058_5, e_6058_8, e_6058_9, e_6058_10, e_6058_12, e_6058_14, e_6058_15, e_6058_18, e_6058_19, e_6058_20, e_6058_22, e_6058_25, e_6058_27, e_6058_29, e_6058_30, e_6058_33, e_6058_36, e_6058_38, e_6058_39, e_6058_41, e_6058_42, e_6058_45, e_6058_48, e_6058_49, zk_int, zk_ref, zk_null, zk_none, zk_long, zisR_r, zisR_n, zcl_int, zcl_ref, zcl_null, zpush_s, zpush_n, zbs, zbn, true_or, or_true, not_false_eq_true, not_true_eq_false, ↓reduceIte, and_self, and_true, true_and, zt_50, q3, e6, e7, h, h', a3]
  have s0 : cal (d + 22) 6058 [.ref 50, .int (nI y)] (yE w m r) = den (d + 22) 6058 12 [some (.ref 50), some (.int (nI y)), some (.int 0), some (.int (f 0)), some (.int 1), none] [] (yE w m r) := by
    simp only [c_6058, e_6058_0, e_6058_1, e_6058_2, e_6058_3, e_6058_4, e_6058_5, e_6058_8, e_6058_9, e_6058_10, e_6058_14, e_6058_15, e_6058_18, e_6058_19, e_6058_20, e_6058_22, e_6058_25, e_6058_27, e_6058_29, e_6058_30, e_6058_33, e_6058_36, e_6058_38, e_6058_39, e_6058_41, e_6058_42, e_6058_45, e_6058_48, e_6058_49, zk_int, zk_ref, zk_null, zk_none, zk_long, zisR_r, zisR_n, zcl_int, zcl_ref, zcl_null, zpush_s, zpush_n, zbs, zbn, true_or, or_true, not_false_eq_true, not_true_eq_false, ↓reduceIte, and_self, and_true, true_and, zt_50, q0]
  rw [s0, l1 _ _ 0 _ 0]
  have j1 : sRepJ f 1 = if f 1 ≤ f 0 then 0 else 1 := rfl
  have j2 : sRepJ f 2 = if f 2 ≤ f (sRepJ f 1) then sRepJ f 1 else 2 := rfl
  have j3 : sRepJ f 3 = if f 3 ≤ f (sRepJ f 2) then sRepJ f 2 else 3 := rfl
  have t1 : ∀ o, (den (d + 22) 6058 12 [some (.ref 50), some (.int (nI y)), some (.int (nI (sRepJ f 1))), some (.int (f (sRepJ f 1))), some (.int 2), o] [] (yE w m r)) = some (some (.int (nI (sRepJ f 3))), yE w m r) := by
    intro o
    have t2 : ∀ o, (den (d + 22) 6058 12 [some (.ref 50), some (.int (nI y)), some (.int (nI (sRepJ f 2))), some (.int (f (sRepJ f 2))), some (.int 3), o] [] (yE w m r)) = some (some (.int (nI (sRepJ f 3))), yE w m r) := by
      intro o
      rw [l3 _ _ 0 _ 0, j3]
      by_cases h : f 3 ≤ f (sRepJ f 2)
      · rw [if_pos h, if_pos h]
      · rw [if_neg h, if_neg h, n3]
    rw [l2 _ _ 0 _ 0]
    by_cases h : f 2 ≤ f (sRepJ f 1)
    · have u := t2 (some (.int (f 2)))
      rw [if_pos h]
      have e : sRepJ f 2 = sRepJ f 1 := by rw [j2, if_pos h]
      rw [e] at u
      exact u
    · have u := t2 (some (.int (f 2)))
      rw [if_neg h]
      have e : sRepJ f 2 = 2 := by rw [j2, if_neg h]
      rw [e, n2] at u
      exact u
  by_cases h : f 1 ≤ f 0
  · have u := t1 (some (.int (f 1)))
    rw [if_pos h]
    have e : sRepJ f 1 = 0 := by rw [j1, if_pos h]
    rw [e, n0] at u
    exact u
  · have u := t1 (some (.int (f 1)))
    rw [if_neg h]
    have e : sRepJ f 1 = 1 := by rw [j1, if_neg h]
    rw [e, n1] at u
    exact u
end MF
