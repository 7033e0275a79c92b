def mE (X : zM) (j z p : Nat) (L : Nat → Int32) : Prop := X.1 50 29 = nI (160 * j) ∧ X.1 50 30 = nI p ∧ X.1 50 31 = nI z ∧ (∀ i, i < z → (X.2 68 (160 * j + i)).toInt32 = L i) ∧ (∀ i, z ≤ i → L i = 0) ∧ z ≤ 160 ∧ j < 8 ∧ ∀ i, i < 40 → X.1 70 i = zWd i
section PZ
variable {d n m j z p : Nat} {w w1 w2 X : zM} {L : Nat → Int32}
theorem mE_k {Y : zM} {q : Nat} (E : mE X j z p L) (h29 : Y.1 50 29 = X.1 50 29) (h30 : Y.1 50 30 = nI q) (h31 : Y.1 50 31 = X.1 50 31) (h2 : Y.2 = X.2) (h70 : Y.1 70 = X.1 70) : mE Y j z q L := by
  obtain ⟨e1, e2, e3, e4, e5, e6, e7, e8⟩ := E
  exact ⟨by rw [h29]; exact e1, h30, by rw [h31]; exact e3, by rw [h2]; exact e4, e5, e6, e7, by rw [h70]; exact e8⟩
theorem m_isDigit (E : mE X j z p L) (hp : p < 1000) : cal d 6032 [.ref 50] X = some (some (.int (if 48 ≤ L p ∧ L p ≤ 57 then 1 else 0)), X) := by
  obtain ⟨e1, e2, e3, e4, e5, e6, e7, e8⟩ := E
  by_cases hpz : p < z
  · have g1 := nI_ge_f hpz (by omega)
    have hz := zis_nI (j := 160 * j + p) (n := 1280) (by omega) (by decide)
    have hc := nI_clamp (n := 160 * j + p) (by omega)
    have v := e4 p hpz
    by_cases b1 : L p < 48
    · rw [if_neg (fun h => absurd h.1 (Int32.not_le.mpr b1))]
      simp only [c_6032, e_6032_0, e_6032_1, e_6032_4, e_6032_5, e_6032_8, e_6032_11, e_6032_12, e_6032_15, e_6032_16, e_6032_19, e_6032_20, e_6032_23, e_6032_24, e_6032_25, e_6032_26, e_6032_28, e_6032_31, e_6032_32, e_6032_35, e_6032_36, e_6032_39, e_6032_40, e_6032_43, e_6032_44, e_6032_45, e_6032_46, e_6032_48, e_6032_51, e_6032_52, e_6032_55, e_6032_56, zk_int, zk_ref, zk_null, zk_none, zk_long, zisR_r, zisR_n, zcl_int, zcl_ref, zcl_null, zpush_s, zpush_n, zbs, zbn, true_or, or_true, not_false_eq_true, not_true_eq_false, ↓reduceIte, and_self, and_true, true_and, zt_50, zr_50_25, zt_68, zn_68, zq_68, e1, e2, e3, g1, nI_add, hz, hc, v, b1]
    · by_cases b2 : L p ≤ 57
      · have b2' := Int32.not_lt.mpr b2
        rw [if_pos ⟨Int32.not_lt.mp b1, b2⟩]
        simp only [c_6032, e_6032_0, e_6032_1, e_6032_4, e_6032_5, e_6032_8, e_6032_11, e_6032_12, e_6032_15, e_6032_16, e_6032_19, e_6032_20, e_6032_23, e_6032_24, e_6032_25, e_6032_26, e_6032_28, e_6032_31, e_6032_32, e_6032_35, e_6032_36, e_6032_39, e_6032_40, e_6032_43, e_6032_44, e_6032_45, e_6032_46, e_6032_48, e_6032_51, e_6032_52, e_6032_55, e_6032_56, zk_int, zk_ref, zk_null, zk_none, zk_long, zisR_r, zisR_n, zcl_int, zcl_ref, zcl_null, zpush_s, zpush_n, zbs, zbn, true_or, or_true, not_false_eq_true, not_true_eq_false, ↓reduceIte, and_self, and_true, true_and, zt_50, zr_50_25, zt_68, zn_68, zq_68, e1, e2, e3, g1, nI_add, hz, hc, v, b1, b2']
      · have b2' := Int32.not_le.mp b2
        rw [if_neg (fun h => b2 h.2)]
        simp only [c_6032, e_6032_0, e_6032_1, e_6032_4, e_6032_5, e_6032_8, e_6032_11, e_6032_12, e_6032_15, e_6032_16, e_6032_19, e_6032_20, e_6032_23, e_6032_24, e_6032_25, e_6032_26, e_6032_28, e_6032_31, e_6032_32, e_6032_35, e_6032_36, e_6032_39, e_6032_40, e_6032_43, e_6032_44, e_6032_45, e_6032_46, e_6032_48, e_6032_51, e_6032_52, e_6032_55, e_6032_56, zk_int, zk_ref, zk_null, zk_none, zk_long, zisR_r, zisR_n, zcl_int, zcl_ref, zcl_null, zpush_s, zpush_n, zbs, zbn, true_or, or_true, not_false_eq_true, not_true_eq_false, ↓reduceIte, and_self, and_true, true_and, zt_50, zr_50_25, zt_68, zn_68, zq_68, e1, e2, e3, g1, nI_add, hz, hc, v, b1, b2']
  · have g1 := nI_le_n (a := z) (b := p) (by omega) (by omega)
    have v := e5 p (by omega)
    rw [if_neg (fun h => by rw [v] at h; exact absurd h.1 (by decide))]
    simp only [c_6032, e_6032_0, e_6032_1, e_6032_4, e_6032_5, e_6032_8, e_6032_11, e_6032_12, e_6032_15, e_6032_16, e_6032_19, e_6032_20, e_6032_23, e_6032_24, e_6032_25, e_6032_26, e_6032_28, e_6032_31, e_6032_32, e_6032_35, e_6032_36, e_6032_39, e_6032_40, e_6032_43, e_6032_44, e_6032_45, e_6032_46, e_6032_48, e_6032_51, e_6032_52, e_6032_55, e_6032_56, zk_int, zk_ref, zk_null, zk_none, zk_long, zisR_r, zisR_n, zcl_int, zcl_ref, zcl_null, zpush_s, zpush_n, zbs, zbn, true_or, or_true, not_false_eq_true, not_true_eq_false, ↓reduceIte, and_self, and_true, true_and, zt_50, e2, e3, g1]
theorem m_wrong {x : Int32} : cal d 6030 [.ref 50, .int x] X = some (some (.int 0), zui X 50 33 x) := by
  simp only [c_6030, e_6030_0, e_6030_1, e_6030_2, e_6030_5, e_6030_6, zk_int, zk_ref, zk_null, zk_none, zk_long, zisR_r, zisR_n, zcl_int, zcl_ref, zcl_null, zpush_s, zpush_n, zbs, zbn, true_or, or_true, not_false_eq_true, not_true_eq_false, ↓reduceIte, and_self, and_true, true_and, zt_50]
def mN (X : zM) (p : Nat) (v : Int32) : zM := zui (zui X 50 30 (nI p)) 50 32 v
theorem mN_50 {v : Int32} {k : Nat} : (mN X p v).1 50 k = upd (upd (X.1 50) 30 (nI p)) 32 v k := by
  unfold mN
  rw [zi_s, zi_s]
theorem mN_n {v : Int32} {a : Nat} (h : a ≠ 50) : (mN X p v).1 a = X.1 a := by
  unfold mN
  rw [zi_n _ h, zi_n _ h]
theorem zui_d {X : zM} {a k l : Nat} {u v : Int32} (h : k ≠ l) : zui (zui X a k u) a l v = zui (zui X a l v) a k u := by
  rw [zui_A (zui X a k u), zi_s, zui_A X, zA_A, zui_A (zui X a l v), zi_s, zui_A X, zA_A, upd_c _ _ _ h]
theorem mN_v {v u : Int32} : zui (mN X p v) 50 32 u = mN X p u := by
  unfold mN
  rw [zui_u]
theorem mN_p {v : Int32} {q : Nat} : zui (mN X p v) 50 30 (nI q) = mN X q v := by
  unfold mN
  rw [zui_d (by decide), zui_u]
theorem mN_E {v : Int32} {q : Nat} (E : mE X j z p L) : mE (mN X q v) j z q L := by
  refine mE_k E ?_ ?_ ?_ rfl (mN_n (by decide))
  · rw [mN_50, u_ne (by decide), u_ne (by decide)]
  · rw [mN_50, u_ne (by decide), u_eq]
  · rw [mN_50, u_ne (by decide), u_ne (by decide)]
theorem m_num_l (E : mE X j z p L) (lo hi x : Int32) : ∀ k q v r, r + k = 3 → q + k < 900 → den (d + 1) 6033 29 [some (.ref 50), some (.int lo), some (.int hi), some (.int x), some (.int (nI r))] [] (mN X q v) = den (d + 1) 6033 88 [some (.ref 50), some (.int lo), some (.int hi), some (.int x), some (.int (nI (r + ((rNum L k q v).1 - q))))] [] (mN X (rNum L k q v).1 (rNum L k q v).2) := by
  intro k
  induction k with
  | zero =>
    intro q v r hr hq
    have e : r = 3 := by omega
    subst e
    have g1 : ((3 : Int32) ≤ nI 3) = True := eq_true (by decide)
    have e0 : (rNum L 0 q v) = (q, v) := rfl
    rw [e0, e_6033_29]
    simp only [e_6033_31, e_6033_32, zk_int, zk_ref, zk_null, zk_none, zk_long, zisR_r, zisR_n, zcl_int, zcl_ref, zcl_null, zpush_s, zpush_n, zbs, zbn, true_or, or_true, not_false_eq_true, not_true_eq_false, ↓reduceIte, and_self, and_true, true_and, g1, Nat.sub_self, Nat.add_zero]
  | succ k ih =>
    intro q v r hr hq
    have g1 : ((3 : Int32) ≤ nI r) = False := nI_ge_f (b := 3) (by omega) (by decide)
    have E' := mN_E (q := q) (v := v) E
    have dg := m_isDigit (d := d) E' (by omega)
    obtain ⟨e1, e2, e3, e4, e5, e6, e7, e8⟩ := id E'
    have v32 : (mN X q v).1 50 32 = v := by rw [mN_50, u_eq]
    rw [e_6033_29]
    by_cases hd : 48 ≤ L q ∧ L q ≤ 57
    · rw [if_pos hd] at dg
      have e : rNum L (k + 1) q v = rNum L k (q + 1) (v * 10 + L q - 48) := if_pos hd
      have hqz : q < z := by
        rcases Nat.lt_or_ge q z with h | h
        · exact h
        · rw [e5 q h] at hd
          exact absurd hd.1 (by decide)
      have hz := zis_nI (j := 160 * j + q) (n := 1280) (by omega) (by decide)
      have hc := nI_clamp (n := 160 * j + q) (by omega)
      have vq := e4 q hqz
      have h := ih (q + 1) (v * 10 + L q - 48) (r + 1) (by omega) (by omega)
      have b := rNum_b L k (q + 1) (v * 10 + L q - 48)
      have e9 : r + 1 + ((rNum L k (q + 1) (v * 10 + L q - 48)).1 - (q + 1)) = r + ((rNum L k (q + 1) (v * 10 + L q - 48)).1 - q) := by omega
      rw [e9] at h
      have f1 : (mN X q (10 * v + L q - 48)).1 50 30 = nI q := by rw [mN_50, u_ne (by decide), u_eq]
      have mc : 10 * v = v * 10 := Int32.mul_comm _ _
      rw [e, ← h, ← mc]
      simp only [c_6033, e_6033_0, e_6033_1, e_6033_4, e_6033_5, e_6033_6, e_6033_7, e_6033_10, e_6033_11, e_6033_14, e_6033_17, e_6033_18, e_6033_19, e_6033_22, e_6033_25, e_6033_26, e_6033_27, e_6033_31, e_6033_32, e_6033_35, e_6033_36, e_6033_39, e_6033_42, e_6033_43, e_6033_45, e_6033_46, e_6033_49, e_6033_50, e_6033_51, e_6033_54, e_6033_55, e_6033_58, e_6033_59, e_6033_62, e_6033_63, e_6033_64, e_6033_65, e_6033_66, e_6033_68, e_6033_69, e_6033_72, e_6033_73, e_6033_74, e_6033_77, e_6033_78, e_6033_79, e_6033_82, e_6033_85, e_6033_89, e_6033_92, e_6033_93, e_6033_96, e_6033_97, e_6033_100, e_6033_101, e_6033_104, e_6033_105, e_6033_106, e_6033_109, e_6033_112, e_6033_113, e_6033_116, e_6033_117, zk_int, zk_ref, zk_null, zk_none, zk_long, zisR_r, zisR_n, zcl_int, zcl_ref, zcl_null, zpush_s, zpush_n, zbs, zbn, true_or, or_true, not_false_eq_true, not_true_eq_false, ↓reduceIte, and_self, and_true, true_and, ie_0_1, ie_0_2, ie_0_3, ie_0_4, ie_0_5, ie_0_6, ie_0_7, ie_1_0, ie_1_2, ie_1_3, ie_1_4, ie_1_5, ie_1_6, ie_1_7, ie_2_0, ie_2_1, ie_2_3, ie_2_4, ie_2_5, ie_2_6, ie_2_7, ie_3_0, ie_3_1, ie_3_2, ie_3_4, ie_3_5, ie_3_6, ie_3_7, ie_4_0, ie_4_1, ie_4_2, ie_4_3, ie_4_5, ie_4_6, ie_4_7, ie_5_0, ie_5_1, ie_5_2, ie_5_3, ie_5_4, ie_5_6, ie_5_7, ie_6_0, ie_6_1, ie_6_2, ie_6_3, ie_6_4, ie_6_5, ie_6_7, ie_7_0, ie_7_1, ie_7_2, ie_7_3, ie_7_4, ie_7_5, ie_7_6, zt_50, zt_50, zr_50_25, zt_68, zn_68, zq_68, g1, dg, e1, e2, v32, nI_add, hz, hc, vq, mN_v, f1, nI_1, mN_p]
    · rw [if_neg hd] at dg
      have e : rNum L (k + 1) q v = (q, v) := if_neg hd
      rw [e]
      simp only [c_6033, e_6033_0, e_6033_1, e_6033_4, e_6033_5, e_6033_6, e_6033_7, e_6033_10, e_6033_11, e_6033_14, e_6033_17, e_6033_18, e_6033_19, e_6033_22, e_6033_25, e_6033_26, e_6033_27, e_6033_31, e_6033_32, e_6033_35, e_6033_36, e_6033_39, e_6033_42, e_6033_43, e_6033_45, e_6033_46, e_6033_49, e_6033_50, e_6033_51, e_6033_54, e_6033_55, e_6033_58, e_6033_59, e_6033_62, e_6033_63, e_6033_64, e_6033_65, e_6033_66, e_6033_68, e_6033_69, e_6033_72, e_6033_73, e_6033_74, e_6033_77, e_6033_78, e_6033_79, e_6033_82, e_6033_85, e_6033_89, e_6033_92, e_6033_93, e_6033_96, e_6033_97, e_6033_100, e_6033_101, e_6033_104, e_6033_105, e_6033_106, e_6033_109, e_6033_112, e_6033_113, e_6033_116, e_6033_117, zk_int, zk_ref, zk_null, zk_none, zk_long, zisR_r, zisR_n, zcl_int, zcl_ref, zcl_null, zpush_s, zpush_n, zbs, zbn, true_or, or_true, not_false_eq_true, not_true_eq_false, ↓reduceIte, and_self, and_true, true_and, ie_0_1, ie_0_2, ie_0_3, ie_0_4, ie_0_5, ie_0_6, ie_0_7, ie_1_0, ie_1_2, ie_1_3, ie_1_4, ie_1_5, ie_1_6, ie_1_7, ie_2_0, ie_2_1, ie_2_3, ie_2_4, ie_2_5, ie_2_6, ie_2_7, ie_3_0, ie_3_1, ie_3_2, ie_3_4, ie_3_5, ie_3_6, ie_3_7, ie_4_0, ie_4_1, ie_4_2, ie_4_3, ie_4_5, ie_4_6, ie_4_7, ie_5_0, ie_5_1, ie_5_2, ie_5_3, ie_5_4, ie_5_6, ie_5_7, ie_6_0, ie_6_1, ie_6_2, ie_6_3, ie_6_4, ie_6_5, ie_6_7, ie_7_0, ie_7_1, ie_7_2, ie_7_3, ie_7_4, ie_7_5, ie_7_6, zt_50, g1, dg, Nat.sub_self, Nat.add_zero]
theorem m_num_0 {lo hi : Int32} (E : mE X j z p L) (hp : p < 800) (h0 : (rNb L p).1 = p) : cal (d + 1) 6033 [.ref 50, .int lo, .int hi] X = some (some (.int 0), zui (zui X 50 32 0) 50 33 (nI p)) := by
  have hd : ¬ (48 ≤ L p ∧ L p ≤ 57) := fun h => by
    have e : rNb L p = rNum L 2 (p + 1) (0 * 10 + L p - 48) := if_pos h
    rw [e] at h0
    have := rNum_b L 2 (p + 1) (0 * 10 + L p - 48)
    omega
  have E' : mE (zui X 50 32 0) j z p L := mE_k E (by rw [zi_s, u_ne (by decide)]) (by rw [zi_s, u_ne (by decide)]; exact E.2.1) (by rw [zi_s, u_ne (by decide)]) rfl (by rw [zi_n _ (by decide)])
  have dg := m_isDigit (d := d) E' (by omega)
  rw [if_neg hd] at dg
  have w := m_wrong (d := d) (X := zui X 50 32 0) (x := nI p)
  have e30 : (zui X 50 32 0).1 50 30 = nI p := E'.2.1
  simp only [c_6033, e_6033_0, e_6033_1, e_6033_4, e_6033_5, e_6033_6, e_6033_7, e_6033_10, e_6033_11, e_6033_14, e_6033_17, e_6033_18, e_6033_19, e_6033_22, e_6033_25, e_6033_26, e_6033_27, e_6033_31, e_6033_32, e_6033_35, e_6033_36, e_6033_39, e_6033_42, e_6033_43, e_6033_45, e_6033_46, e_6033_49, e_6033_50, e_6033_51, e_6033_54, e_6033_55, e_6033_58, e_6033_59, e_6033_62, e_6033_63, e_6033_64, e_6033_65, e_6033_66, e_6033_68, e_6033_69, e_6033_72, e_6033_73, e_6033_74, e_6033_77, e_6033_78, e_6033_79, e_6033_82, e_6033_85, e_6033_89, e_6033_92, e_6033_93, e_6033_96, e_6033_97, e_6033_100, e_6033_101, e_6033_104, e_6033_105, e_6033_106, e_6033_109, e_6033_112, e_6033_113, e_6033_116, e_6033_117, zk_int, zk_ref, zk_null, zk_none, zk_long, zisR_r, zisR_n, zcl_int, zcl_ref, zcl_null, zpush_s, zpush_n, zbs, zbn, true_or, or_true, not_false_eq_true, not_true_eq_false, ↓reduceIte, and_self, and_true, true_and, ie_0_1, ie_0_2, ie_0_3, ie_0_4, ie_0_5, ie_0_6, ie_0_7, ie_1_0, ie_1_2, ie_1_3, ie_1_4, ie_1_5, ie_1_6, ie_1_7, ie_2_0, ie_2_1, ie_2_3, ie_2_4, ie_2_5, ie_2_6, ie_2_7, ie_3_0, ie_3_1, ie_3_2, ie_3_4, ie_3_5, ie_3_6, ie_3_7, ie_4_0, ie_4_1, ie_4_2, ie_4_3, ie_4_5, ie_4_6, ie_4_7, ie_5_0, ie_5_1, ie_5_2, ie_5_3, ie_5_4, ie_5_6, ie_5_7, ie_6_0, ie_6_1, ie_6_2, ie_6_3, ie_6_4, ie_6_5, ie_6_7, ie_7_0, ie_7_1, ie_7_2, ie_7_3, ie_7_4, ie_7_5, ie_7_6, zt_50, dg, e30, w]
theorem m_num {lo hi : Int32} (E : mE X j z p L) (hp : p < 800) (h0 : ¬ (rNb L p).1 = p) : cal (d + 1) 6033 [.ref 50, .int lo, .int hi] X = if lo ≤ (rNb L p).2 ∧ (rNb L p).2 ≤ hi then some (some (.int 1), mN X (rNb L p).1 (rNb L p).2) else some (some (.int 0), zui (mN X (rNb L p).1 (rNb L p).2) 50 33 (nI p)) := by
  have hd : 48 ≤ L p ∧ L p ≤ 57 := by
    by_cases h : 48 ≤ L p ∧ L p ≤ 57
    · exact h
    · have e : rNb L p = (p, 0) := if_neg h
      rw [e] at h0
      exact absurd rfl h0
  have E' : mE (zui X 50 32 0) j z p L := mE_k E (by rw [zi_s, u_ne (by decide)]) (by rw [zi_s, u_ne (by decide)]; exact E.2.1) (by rw [zi_s, u_ne (by decide)]) rfl (by rw [zi_n _ (by decide)])
  have dg := m_isDigit (d := d) E' (by omega)
  rw [if_pos hd] at dg
  have l := m_num_l (d := d) E lo hi (nI p) 3 p 0 0 rfl (by omega)
  have eN : mN X p 0 = zui X 50 32 0 := by
    unfold mN
    rw [← E.2.1, zui_A X 50 30, upd_id, zA_id]
  have e3 : rNum L 3 p 0 = rNb L p := rfl
  rw [eN, e3, nI_0] at l
  have v32 : (mN X (rNb L p).1 (rNb L p).2).1 50 32 = (rNb L p).2 := by rw [mN_50, u_eq]
  have wr := m_wrong (d := d) (X := mN X (rNb L p).1 (rNb L p).2) (x := nI p)
  have e30 := E.2.1
  have key : cal (d + 1) 6033 [.ref 50, .int lo, .int hi] X = den (d + 1) 6033 88 [some (.ref 50), some (.int lo), some (.int hi), some (.int (nI p)), some (.int (nI (0 + ((rNb L p).1 - p))))] [] (mN X (rNb L p).1 (rNb L p).2) := by
    rw [← l]
    simp only [c_6033, e_6033_0, e_6033_1, e_6033_4, e_6033_5, e_6033_6, e_6033_7, e_6033_10, e_6033_11, e_6033_14, e_6033_17, e_6033_18, e_6033_19, e_6033_22, e_6033_25, e_6033_26, e_6033_27, e_6033_31, e_6033_32, e_6033_35, e_6033_36, e_6033_39, e_6033_42, e_6033_43, e_6033_45, e_6033_46, e_6033_49, e_6033_50, e_6033_51, e_6033_54, e_6033_55, e_6033_58, e_6033_59, e_6033_62, e_6033_63, e_6033_64, e_6033_65, e_6033_66, e_6033_68, e_6033_69, e_6033_72, e_6033_73, e_6033_74, e_6033_77, e_6033_78, e_6033_79, e_6033_82, e_6033_85, e_6033_89, e_6033_92, e_6033_93, e_6033_96, e_6033_97, e_6033_100, e_6033_101, e_6033_104, e_6033_105, e_6033_106, e_6033_109, e_6033_112, e_6033_113, e_6033_116, e_6033_117, zk_int, zk_ref, zk_null, zk_none, zk_long, zisR_r, zisR_n, zcl_int, zcl_ref, zcl_null, zpush_s, zpush_n, zbs, zbn, true_or, or_true, not_false_eq_true, not_true_eq_false, ↓reduceIte, and_self, and_true, true_and, ie_0_1, ie_0_2, ie_0_3, ie_0_4, ie_0_5, ie_0_6, ie_0_7, ie_1_0, ie_1_2, ie_1_3, ie_1_4, ie_1_5, ie_1_6, ie_1_7, ie_2_0, ie_2_1, ie_2_3, ie_2_4, ie_2_5, ie_2_6, ie_2_7, ie_3_0, ie_3_1, ie_3_2, ie_3_4, ie_3_5, ie_3_6, ie_3_7, ie_4_0, ie_4_1, ie_4_2, ie_4_3, ie_4_5, ie_4_6, ie_4_7, ie_5_0, ie_5_1, ie_5_2, ie_5_3, ie_5_4, ie_5_6, ie_5_7, ie_6_0, ie_6_1, ie_6_2, ie_6_3, ie_6_4, ie_6_5, ie_6_7, ie_7_0, ie_7_1, ie_7_2, ie_7_3, ie_7_4, ie_7_5, ie_7_6, zt_50, dg, e30]
  rw [key]
  by_cases b1 : lo ≤ (rNb L p).2
  · have b1' := Int32.not_lt.mpr b1
    by_cases b2 : (rNb L p).2 ≤ hi
    · rw [if_pos ⟨b1, b2⟩]
      simp only [e_6033_88, e_6033_89, e_6033_92, e_6033_93, e_6033_96, e_6033_97, e_6033_100, e_6033_101, e_6033_112, e_6033_113, e_6033_117, zk_int, zk_ref, zk_null, zk_none, zk_long, zisR_r, zisR_n, zcl_int, zcl_ref, zcl_null, zpush_s, zpush_n, zbs, zbn, true_or, or_true, not_false_eq_true, not_true_eq_false, ↓reduceIte, and_self, and_true, true_and, ie_0_1, ie_0_2, ie_0_3, ie_0_4, ie_0_5, ie_0_6, ie_0_7, ie_1_0, ie_1_2, ie_1_3, ie_1_4, ie_1_5, ie_1_6, ie_1_7, ie_2_0, ie_2_1, ie_2_3, ie_2_4, ie_2_5, ie_2_6, ie_2_7, ie_3_0, ie_3_1, ie_3_2, ie_3_4, ie_3_5, ie_3_6, ie_3_7, ie_4_0, ie_4_1, ie_4_2, ie_4_3, ie_4_5, ie_4_6, ie_4_7, ie_5_0, ie_5_1, ie_5_2, ie_5_3, ie_5_4, ie_5_6, ie_5_7, ie_6_0, ie_6_1, ie_6_2, ie_6_3, ie_6_4, ie_6_5, ie_6_7, ie_7_0, ie_7_1, ie_7_2, ie_7_3, ie_7_4, ie_7_5, ie_7_6, zt_50, v32, b1', b2]
    · rw [if_neg (fun h => b2 h.2)]
      simp only [e_6033_88, e_6033_89, e_6033_92, e_6033_93, e_6033_96, e_6033_97, e_6033_100, e_6033_101, e_6033_104, e_6033_105, e_6033_106, e_6033_109, e_6033_116, e_6033_117, zk_int, zk_ref, zk_null, zk_none, zk_long, zisR_r, zisR_n, zcl_int, zcl_ref, zcl_null, zpush_s, zpush_n, zbs, zbn, true_or, or_true, not_false_eq_true, not_true_eq_false, ↓reduceIte, and_self, and_true, true_and, ie_0_1, ie_0_2, ie_0_3, ie_0_4, ie_0_5, ie_0_6, ie_0_7, ie_1_0, ie_1_2, ie_1_3, ie_1_4, ie_1_5, ie_1_6, ie_1_7, ie_2_0, ie_2_1, ie_2_3, ie_2_4, ie_2_5, ie_2_6, ie_2_7, ie_3_0, ie_3_1, ie_3_2, ie_3_4, ie_3_5, ie_3_6, ie_3_7, ie_4_0, ie_4_1, ie_4_2, ie_4_3, ie_4_5, ie_4_6, ie_4_7, ie_5_0, ie_5_1, ie_5_2, ie_5_3, ie_5_4, ie_5_6, ie_5_7, ie_6_0, ie_6_1, ie_6_2, ie_6_3, ie_6_4, ie_6_5, ie_6_7, ie_7_0, ie_7_1, ie_7_2, ie_7_3, ie_7_4, ie_7_5, ie_7_6, zt_50, v32, b1', b2, wr]
  · rw [if_neg (fun h => b1 h.1)]
    have b1' := Int32.not_le.mp b1
    simp only [e_6033_88, e_6033_89, e_6033_92, e_6033_93, e_6033_104, e_6033_105, e_6033_106, e_6033_109, e_6033_116, e_6033_117, zk_int, zk_ref, zk_null, zk_none, zk_long, zisR_r, zisR_n, zcl_int, zcl_ref, zcl_null, zpush_s, zpush_n, zbs, zbn, true_or, or_true, not_false_eq_true, not_true_eq_false, ↓reduceIte, and_self, and_true, true_and, ie_0_1, ie_0_2, ie_0_3, ie_0_4, ie_0_5, ie_0_6, ie_0_7, ie_1_0, ie_1_2, ie_1_3, ie_1_4, ie_1_5, ie_1_6, ie_1_7, ie_2_0, ie_2_1, ie_2_3, ie_2_4, ie_2_5, ie_2_6, ie_2_7, ie_3_0, ie_3_1, ie_3_2, ie_3_4, ie_3_5, ie_3_6, ie_3_7, ie_4_0, ie_4_1, ie_4_2, ie_4_3, ie_4_5, ie_4_6, ie_4_7, ie_5_0, ie_5_1, ie_5_2, ie_5_3, ie_5_4, ie_5_6, ie_5_7, ie_6_0, ie_6_1, ie_6_2, ie_6_3, ie_6_4, ie_6_5, ie_6_7, ie_7_0, ie_7_1, ie_7_2, ie_7_3, ie_7_4, ie_7_5, ie_7_6, zt_50, v32, b1', wr]
theorem m_full {f : Nat} (hn : X.1 50 0 = nI n) (hm : X.1 50 1 = nI m) (hn8 : n ≤ 8) (hm4 : m ≤ 4) (hf : f < 5) : cal d 6035 [.ref 50, .int (nI f)] X = some (some (.int (if (f = 0 ∧ ¬ m < 4) ∨ (f = 1 ∧ ¬ n < 8) then 1 else 0)), X) := by
  rcases (by omega : f = 0 ∨ f = 1 ∨ f = 2 ∨ f = 3 ∨ f = 4) with rfl | rfl | rfl | rfl | rfl
  · rw [nI_0]
    by_cases h : m < 4
    · have g : (nI m = 4) = False := eq_false (fun e => by have := (nI_eq (a := m) (b := 4) (by omega) (by omega)).mp e; omega)
      rw [if_neg (by omega)]
      simp only [c_6035, e_6035_0, e_6035_1, e_6035_4, e_6035_5, e_6035_8, e_6035_9, e_6035_12, e_6035_13, e_6035_14, e_6035_17, e_6035_18, e_6035_21, e_6035_23, e_6035_26, e_6035_27, e_6035_30, e_6035_31, zk_int, zk_ref, zk_null, zk_none, zk_long, zisR_r, zisR_n, zcl_int, zcl_ref, zcl_null, zpush_s, zpush_n, zbs, zbn, true_or, or_true, not_false_eq_true, not_true_eq_false, ↓reduceIte, and_self, and_true, true_and, ie_0_1, ie_0_2, ie_0_3, ie_0_4, ie_0_5, ie_0_6, ie_0_7, ie_1_0, ie_1_2, ie_1_3, ie_1_4, ie_1_5, ie_1_6, ie_1_7, ie_2_0, ie_2_1, ie_2_3, ie_2_4, ie_2_5, ie_2_6, ie_2_7, ie_3_0, ie_3_1, ie_3_2, ie_3_4, ie_3_5, ie_3_6, ie_3_7, ie_4_0, ie_4_1, ie_4_2, ie_4_3, ie_4_5, ie_4_6, ie_4_7, ie_5_0, ie_5_1, ie_5_2, ie_5_3, ie_5_4, ie_5_6, ie_5_7, ie_6_0, ie_6_1, ie_6_2, ie_6_3, ie_6_4, ie_6_5, ie_6_7, ie_7_0, ie_7_1, ie_7_2, ie_7_3, ie_7_4, ie_7_5, ie_7_6, zt_50, hm, g]
    · have e : m = 4 := by omega
      subst e
      have g : (nI 4 = 4) = True := eq_true rfl
      rw [if_pos (by omega)]
      simp only [c_6035, e_6035_0, e_6035_1, e_6035_4, e_6035_5, e_6035_8, e_6035_9, e_6035_12, e_6035_13, e_6035_14, e_6035_17, e_6035_18, e_6035_21, e_6035_23, e_6035_26, e_6035_27, e_6035_30, e_6035_31, zk_int, zk_ref, zk_null, zk_none, zk_long, zisR_r, zisR_n, zcl_int, zcl_ref, zcl_null, zpush_s, zpush_n, zbs, zbn, true_or, or_true, not_false_eq_true, not_true_eq_false, ↓reduceIte, and_self, and_true, true_and, ie_0_1, ie_0_2, ie_0_3, ie_0_4, ie_0_5, ie_0_6, ie_0_7, ie_1_0, ie_1_2, ie_1_3, ie_1_4, ie_1_5, ie_1_6, ie_1_7, ie_2_0, ie_2_1, ie_2_3, ie_2_4, ie_2_5, ie_2_6, ie_2_7, ie_3_0, ie_3_1, ie_3_2, ie_3_4, ie_3_5, ie_3_6, ie_3_7, ie_4_0, ie_4_1, ie_4_2, ie_4_3, ie_4_5, ie_4_6, ie_4_7, ie_5_0, ie_5_1, ie_5_2, ie_5_3, ie_5_4, ie_5_6, ie_5_7, ie_6_0, ie_6_1, ie_6_2, ie_6_3, ie_6_4, ie_6_5, ie_6_7, ie_7_0, ie_7_1, ie_7_2, ie_7_3, ie_7_4, ie_7_5, ie_7_6, zt_50, hm, g]
  · rw [show nI 1 = (1 : Int32) from rfl]
    by_cases h : n < 8
    · have g : (nI n = 8) = False := eq_false (fun e => by have := (nI_eq (a := n) (b := 8) (by omega) (by omega)).mp e; omega)
      rw [if_neg (by omega)]
      simp only [c_6035, e_6035_0, e_6035_1, e_6035_4, e_6035_5, e_6035_8, e_6035_9, e_6035_12, e_6035_13, e_6035_14, e_6035_17, e_6035_18, e_6035_21, e_6035_23, e_6035_26, e_6035_27, e_6035_30, e_6035_31, zk_int, zk_ref, zk_null, zk_none, zk_long, zisR_r, zisR_n, zcl_int, zcl_ref, zcl_null, zpush_s, zpush_n, zbs, zbn, true_or, or_true, not_false_eq_true, not_true_eq_false, ↓reduceIte, and_self, and_true, true_and, ie_0_1, ie_0_2, ie_0_3, ie_0_4, ie_0_5, ie_0_6, ie_0_7, ie_1_0, ie_1_2, ie_1_3, ie_1_4, ie_1_5, ie_1_6, ie_1_7, ie_2_0, ie_2_1, ie_2_3, ie_2_4, ie_2_5, ie_2_6, ie_2_7, ie_3_0, ie_3_1, ie_3_2, ie_3_4, ie_3_5, ie_3_6, ie_3_7, ie_4_0, ie_4_1, ie_4_2, ie_4_3, ie_4_5, ie_4_6, ie_4_7, ie_5_0, ie_5_1, ie_5_2, ie_5_3, ie_5_4, ie_5_6, ie_5_7, ie_6_0, ie_6_1, ie_6_2, ie_6_3, ie_6_4, ie_6_5, ie_6_7, ie_7_0, ie_7_1, ie_7_2, ie_7_3, ie_7_4, ie_7_5, ie_7_6, zt_50, hn, g]
    · have e : n = 8 := by omega
      subst e
      have g : (nI 8 = 8) = True := eq_true rfl
      rw [if_pos (by omega)]
      simp only [c_6035, e_6035_0, e_6035_1, e_6035_4, e_6035_5, e_6035_8, e_6035_9, e_6035_12, e_6035_13, e_6035_14, e_6035_17, e_6035_18, e_6035_21, e_6035_23, e_6035_26, e_6035_27, e_6035_30, e_6035_31, zk_int, zk_ref, zk_null, zk_none, zk_long, zisR_r, zisR_n, zcl_int, zcl_ref, zcl_null, zpush_s, zpush_n, zbs, zbn, true_or, or_true, not_false_eq_true, not_true_eq_false, ↓reduceIte, and_self, and_true, true_and, ie_0_1, ie_0_2, ie_0_3, ie_0_4, ie_0_5, ie_0_6, ie_0_7, ie_1_0, ie_1_2, ie_1_3, ie_1_4, ie_1_5, ie_1_6, ie_1_7, ie_2_0, ie_2_1, ie_2_3, ie_2_4, ie_2_5, ie_2_6, ie_2_7, ie_3_0, ie_3_1, ie_3_2, ie_3_4, ie_3_5, ie_3_6, ie_3_7, ie_4_0, ie_4_1, ie_4_2, ie_4_3, ie_4_5, ie_4_6, ie_4_7, ie_5_0, ie_5_1, ie_5_2, ie_5_3, ie_5_4, ie_5_6, ie_5_7, ie_6_0, ie_6_1, ie_6_2, ie_6_3, ie_6_4, ie_6_5, ie_6_7, ie_7_0, ie_7_1, ie_7_2, ie_7_3, ie_7_4, ie_7_5, ie_7_6, zt_50, hn, g]
  · rw [show nI 2 = (2 : Int32) from rfl, if_neg (by omega)]
    simp only [c_6035, e_6035_0, e_6035_1, e_6035_4, e_6035_5, e_6035_8, e_6035_9, e_6035_12, e_6035_13, e_6035_14, e_6035_17, e_6035_18, e_6035_21, e_6035_23, e_6035_26, e_6035_27, e_6035_30, e_6035_31, zk_int, zk_ref, zk_null, zk_none, zk_long, zisR_r, zisR_n, zcl_int, zcl_ref, zcl_null, zpush_s, zpush_n, zbs, zbn, true_or, or_true, not_false_eq_true, not_true_eq_false, ↓reduceIte, and_self, and_true, true_and, ie_0_1, ie_0_2, ie_0_3, ie_0_4, ie_0_5, ie_0_6, ie_0_7, ie_1_0, ie_1_2, ie_1_3, ie_1_4, ie_1_5, ie_1_6, ie_1_7, ie_2_0, ie_2_1, ie_2_3, ie_2_4, ie_2_5, ie_2_6, ie_2_7, ie_3_0, ie_3_1, ie_3_2, ie_3_4, ie_3_5, ie_3_6, ie_3_7, ie_4_0, ie_4_1, ie_4_2, ie_4_3, ie_4_5, ie_4_6, ie_4_7, ie_5_0, ie_5_1, ie_5_2, ie_5_3, ie_5_4, ie_5_6, ie_5_7, ie_6_0, ie_6_1, ie_6_2, ie_6_3, ie_6_4, ie_6_5, ie_6_7, ie_7_0, ie_7_1, ie_7_2, ie_7_3, ie_7_4, ie_7_5, ie_7_6, zt_50]
  · rw [show nI 3 = (3 : Int32) from rfl, if_neg (by omega)]
    simp only [c_6035, e_6035_0, e_6035_1, e_6035_4, e_6035_5, e_6035_8, e_6035_9, e_6035_12, e_6035_13, e_6035_14, e_6035_17, e_6035_18, e_6035_21, e_6035_23, e_6035_26, e_6035_27, e_6035_30, e_6035_31, zk_int, zk_ref, zk_null, zk_none, zk_long, zisR_r, zisR_n, zcl_int, zcl_ref, zcl_null, zpush_s, zpush_n, zbs, zbn, true_or, or_true, not_false_eq_true, not_true_eq_false, ↓reduceIte, and_self, and_true, true_and, ie_0_1, ie_0_2, ie_0_3, ie_0_4, ie_0_5, ie_0_6, ie_0_7, ie_1_0, ie_1_2, ie_1_3, ie_1_4, ie_1_5, ie_1_6, ie_1_7, ie_2_0, ie_2_1, ie_2_3, ie_2_4, ie_2_5, ie_2_6, ie_2_7, ie_3_0, ie_3_1, ie_3_2, ie_3_4, ie_3_5, ie_3_6, ie_3_7, ie_4_0, ie_4_1, ie_4_2, ie_4_3, ie_4_5, ie_4_6, ie_4_7, ie_5_0, ie_5_1, ie_5_2, ie_5_3, ie_5_4, ie_5_6, ie_5_7, ie_6_0, ie_6_1, ie_6_2, ie_6_3, ie_6_4, ie_6_5, ie_6_7, ie_7_0, ie_7_1, ie_7_2, ie_7_3, ie_7_4, ie_7_5, ie_7_6, zt_50]
  · rw [show nI 4 = (4 : Int32) from rfl, if_neg (by omega)]
    simp only [c_6035, e_6035_0, e_6035_1, e_6035_4, e_6035_5, e_6035_8, e_6035_9, e_6035_12, e_6035_13, e_6035_14, e_6035_17, e_6035_18, e_6035_21, e_6035_23, e_6035_26, e_6035_27, e_6035_30, e_6035_31, zk_int, zk_ref, zk_null, zk_none, zk_long, zisR_r, zisR_n, zcl_int, zcl_ref, zcl_null, zpush_s, zpush_n, zbs, zbn, true_or, or_true, not_false_eq_true, not_true_eq_false, ↓reduceIte, and_self, and_true, true_and, ie_0_1, ie_0_2, ie_0_3, ie_0_4, ie_0_5, ie_0_6, ie_0_7, ie_1_0, ie_1_2, ie_1_3, ie_1_4, ie_1_5, ie_1_6, ie_1_7, ie_2_0, ie_2_1, ie_2_3, ie_2_4, ie_2_5, ie_2_6, ie_2_7, ie_3_0, ie_3_1, ie_3_2, ie_3_4, ie_3_5, ie_3_6, ie_3_7, ie_4_0, ie_4_1, ie_4_2, ie_4_3, ie_4_5, ie_4_6, ie_4_7, ie_5_0, ie_5_1, ie_5_2, ie_5_3, ie_5_4, ie_5_6, ie_5_7, ie_6_0, ie_6_1, ie_6_2, ie_6_3, ie_6_4, ie_6_5, ie_6_7, ie_7_0, ie_7_1, ie_7_2, ie_7_3, ie_7_4, ie_7_5, ie_7_6, zt_50]
theorem m_top {i k : Nat} (hm : X.1 50 1 = nI m) (hi : i < 5) (hk : k < rCnt i) : cal d 6034 [.ref 50, .int (nI i), .int (nI k)] X = some (some (.int (rHi m i k)), X) := by
  unfold rCnt at hk
  rcases (by omega : i = 0 ∨ i = 1 ∨ i = 2 ∨ i = 3 ∨ i = 4) with rfl | rfl | rfl | rfl | rfl
  · rcases (by have h : k < 3 := hk; omega : k = 0 ∨ k = 1 ∨ k = 2) with rfl | rfl | rfl <;> simp only [c_6034, e_6034_0, e_6034_1, e_6034_32, e_6034_33, e_6034_36, e_6034_38, e_6034_41, e_6034_42, e_6034_43, e_6034_46, e_6034_48, e_6034_51, e_6034_54, e_6034_55, e_6034_56, e_6034_59, e_6034_61, e_6034_64, e_6034_65, e_6034_66, e_6034_69, e_6034_72, e_6034_75, e_6034_76, e_6034_77, e_6034_80, e_6034_82, e_6034_85, e_6034_86, e_6034_87, e_6034_90, e_6034_92, e_6034_95, e_6034_96, e_6034_99, e_6034_100, e_6034_101, e_6034_102, e_6034_103, e_6034_104, e_6034_106, e_6034_107, e_6034_109, zk_int, zk_ref, zk_null, zk_none, zk_long, zisR_r, zisR_n, zcl_int, zcl_ref, zcl_null, zpush_s, zpush_n, zbs, zbn, true_or, or_true, not_false_eq_true, not_true_eq_false, ↓reduceIte, and_self, and_true, true_and, ie_0_1, ie_0_2, ie_0_3, ie_0_4, ie_0_5, ie_0_6, ie_0_7, ie_1_0, ie_1_2, ie_1_3, ie_1_4, ie_1_5, ie_1_6, ie_1_7, ie_2_0, ie_2_1, ie_2_3, ie_2_4, ie_2_5, ie_2_6, ie_2_7, ie_3_0, ie_3_1, ie_3_2, ie_3_4, ie_3_5, ie_3_6, ie_3_7, ie_4_0, ie_4_1, ie_4_2, ie_4_3, ie_4_5, ie_4_6, ie_4_7, ie_5_0, ie_5_1, ie_5_2, ie_5_3, ie_5_4, ie_5_6, ie_5_7, ie_6_0, ie_6_1, ie_6_2, ie_6_3, ie_6_4, ie_6_5, ie_6_7, ie_7_0, ie_7_1, ie_7_2, ie_7_3, ie_7_4, ie_7_5, ie_7_6, zt_50, nJ_0, nJ_1, nJ_2] <;> rfl
  · rcases (by have h : k < 5 := hk; omega : k = 0 ∨ k = 1 ∨ k = 2 ∨ k = 3 ∨ k = 4) with rfl | rfl | rfl | rfl | rfl <;> simp only [c_6034, e_6034_0, e_6034_1, e_6034_32, e_6034_33, e_6034_36, e_6034_38, e_6034_41, e_6034_42, e_6034_43, e_6034_46, e_6034_48, e_6034_51, e_6034_54, e_6034_55, e_6034_56, e_6034_59, e_6034_61, e_6034_64, e_6034_65, e_6034_66, e_6034_69, e_6034_72, e_6034_75, e_6034_76, e_6034_77, e_6034_80, e_6034_82, e_6034_85, e_6034_86, e_6034_87, e_6034_90, e_6034_92, e_6034_95, e_6034_96, e_6034_99, e_6034_100, e_6034_101, e_6034_102, e_6034_103, e_6034_104, e_6034_106, e_6034_107, e_6034_109, zk_int, zk_ref, zk_null, zk_none, zk_long, zisR_r, zisR_n, zcl_int, zcl_ref, zcl_null, zpush_s, zpush_n, zbs, zbn, true_or, or_true, not_false_eq_true, not_true_eq_false, ↓reduceIte, and_self, and_true, true_and, ie_0_1, ie_0_2, ie_0_3, ie_0_4, ie_0_5, ie_0_6, ie_0_7, ie_1_0, ie_1_2, ie_1_3, ie_1_4, ie_1_5, ie_1_6, ie_1_7, ie_2_0, ie_2_1, ie_2_3, ie_2_4, ie_2_5, ie_2_6, ie_2_7, ie_3_0, ie_3_1, ie_3_2, ie_3_4, ie_3_5, ie_3_6, ie_3_7, ie_4_0, ie_4_1, ie_4_2, ie_4_3, ie_4_5, ie_4_6, ie_4_7, ie_5_0, ie_5_1, ie_5_2, ie_5_3, ie_5_4, ie_5_6, ie_5_7, ie_6_0, ie_6_1, ie_6_2, ie_6_3, ie_6_4, ie_6_5, ie_6_7, ie_7_0, ie_7_1, ie_7_2, ie_7_3, ie_7_4, ie_7_5, ie_7_6, zt_50, nJ_0, nJ_1, nJ_2, nJ_3, nJ_4, hm] <;> rfl
  · rcases (by have h : k < 1 := hk; omega : k = 0) with rfl
    simp only [c_6034, e_6034_0, e_6034_1, e_6034_32, e_6034_33, e_6034_36, e_6034_38, e_6034_41, e_6034_42, e_6034_43, e_6034_46, e_6034_48, e_6034_51, e_6034_54, e_6034_55, e_6034_56, e_6034_59, e_6034_61, e_6034_64, e_6034_65, e_6034_66, e_6034_69, e_6034_72, e_6034_75, e_6034_76, e_6034_77, e_6034_80, e_6034_82, e_6034_85, e_6034_86, e_6034_87, e_6034_90, e_6034_92, e_6034_95, e_6034_96, e_6034_99, e_6034_100, e_6034_101, e_6034_102, e_6034_103, e_6034_104, e_6034_106, e_6034_107, e_6034_109, zk_int, zk_ref, zk_null, zk_none, zk_long, zisR_r, zisR_n, zcl_int, zcl_ref, zcl_null, zpush_s, zpush_n, zbs, zbn, true_or, or_true, not_false_eq_true, not_true_eq_false, ↓reduceIte, and_self, and_true, true_and, ie_0_1, ie_0_2, ie_0_3, ie_0_4, ie_0_5, ie_0_6, ie_0_7, ie_1_0, ie_1_2, ie_1_3, ie_1_4, ie_1_5, ie_1_6, ie_1_7, ie_2_0, ie_2_1, ie_2_3, ie_2_4, ie_2_5, ie_2_6, ie_2_7, ie_3_0, ie_3_1, ie_3_2, ie_3_4, ie_3_5, ie_3_6, ie_3_7, ie_4_0, ie_4_1, ie_4_2, ie_4_3, ie_4_5, ie_4_6, ie_4_7, ie_5_0, ie_5_1, ie_5_2, ie_5_3, ie_5_4, ie_5_6, ie_5_7, ie_6_0, ie_6_1, ie_6_2, ie_6_3, ie_6_4, ie_6_5, ie_6_7, ie_7_0, ie_7_1, ie_7_2, ie_7_3, ie_7_4, ie_7_5, ie_7_6, zt_50, nJ_0, nJ_2] <;> rfl
  · rcases (by have h : k < 1 := hk; omega : k = 0) with rfl
    simp only [c_6034, e_6034_0, e_6034_1, e_6034_32, e_6034_33, e_6034_36, e_6034_38, e_6034_41, e_6034_42, e_6034_43, e_6034_46, e_6034_48, e_6034_51, e_6034_54, e_6034_55, e_6034_56, e_6034_59, e_6034_61, e_6034_64, e_6034_65, e_6034_66, e_6034_69, e_6034_72, e_6034_75, e_6034_76, e_6034_77, e_6034_80, e_6034_82, e_6034_85, e_6034_86, e_6034_87, e_6034_90, e_6034_92, e_6034_95, e_6034_96, e_6034_99, e_6034_100, e_6034_101, e_6034_102, e_6034_103, e_6034_104, e_6034_106, e_6034_107, e_6034_109, zk_int, zk_ref, zk_null, zk_none, zk_long, zisR_r, zisR_n, zcl_int, zcl_ref, zcl_null, zpush_s, zpush_n, zbs, zbn, true_or, or_true, not_false_eq_true, not_true_eq_false, ↓reduceIte, and_self, and_true, true_and, ie_0_1, ie_0_2, ie_0_3, ie_0_4, ie_0_5, ie_0_6, ie_0_7, ie_1_0, ie_1_2, ie_1_3, ie_1_4, ie_1_5, ie_1_6, ie_1_7, ie_2_0, ie_2_1, ie_2_3, ie_2_4, ie_2_5, ie_2_6, ie_2_7, ie_3_0, ie_3_1, ie_3_2, ie_3_4, ie_3_5, ie_3_6, ie_3_7, ie_4_0, ie_4_1, ie_4_2, ie_4_3, ie_4_5, ie_4_6, ie_4_7, ie_5_0, ie_5_1, ie_5_2, ie_5_3, ie_5_4, ie_5_6, ie_5_7, ie_6_0, ie_6_1, ie_6_2, ie_6_3, ie_6_4, ie_6_5, ie_6_7, ie_7_0, ie_7_1, ie_7_2, ie_7_3, ie_7_4, ie_7_5, ie_7_6, zt_50, nJ_0, nJ_3] <;> rfl
  · rcases (by have h : k < 3 := hk; omega : k = 0 ∨ k = 1 ∨ k = 2) with rfl | rfl | rfl <;> simp only [c_6034, e_6034_0, e_6034_1, e_6034_32, e_6034_33, e_6034_36, e_6034_38, e_6034_41, e_6034_42, e_6034_43, e_6034_46, e_6034_48, e_6034_51, e_6034_54, e_6034_55, e_6034_56, e_6034_59, e_6034_61, e_6034_64, e_6034_65, e_6034_66, e_6034_69, e_6034_72, e_6034_75, e_6034_76, e_6034_77, e_6034_80, e_6034_82, e_6034_85, e_6034_86, e_6034_87, e_6034_90, e_6034_92, e_6034_95, e_6034_96, e_6034_99, e_6034_100, e_6034_101, e_6034_102, e_6034_103, e_6034_104, e_6034_106, e_6034_107, e_6034_109, zk_int, zk_ref, zk_null, zk_none, zk_long, zisR_r, zisR_n, zcl_int, zcl_ref, zcl_null, zpush_s, zpush_n, zbs, zbn, true_or, or_true, not_false_eq_true, not_true_eq_false, ↓reduceIte, and_self, and_true, true_and, ie_0_1, ie_0_2, ie_0_3, ie_0_4, ie_0_5, ie_0_6, ie_0_7, ie_1_0, ie_1_2, ie_1_3, ie_1_4, ie_1_5, ie_1_6, ie_1_7, ie_2_0, ie_2_1, ie_2_3, ie_2_4, ie_2_5, ie_2_6, ie_2_7, ie_3_0, ie_3_1, ie_3_2, ie_3_4, ie_3_5, ie_3_6, ie_3_7, ie_4_0, ie_4_1, ie_4_2, ie_4_3, ie_4_5, ie_4_6, ie_4_7, ie_5_0, ie_5_1, ie_5_2, ie_5_3, ie_5_4, ie_5_6, ie_5_7, ie_6_0, ie_6_1, ie_6_2, ie_6_3, ie_6_4, ie_6_5, ie_6_7, ie_7_0, ie_7_1, ie_7_2, ie_7_3, ie_7_4, ie_7_5, ie_7_6, zt_50, nJ_0, nJ_1, nJ_2, nJ_4] <;> rfl
end PZ
