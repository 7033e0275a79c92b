def zCr (f g : Nat → Int64) (sp k : Nat) : Nat → Int64 := fun x => if x < k then f (sp + x) else g x
theorem zCr_0 (f g : Nat → Int64) (sp : Nat) : zCr f g sp 0 = g := by
  funext x
  exact if_neg (by omega)
theorem zCr_s (f g : Nat → Int64) (sp k : Nat) : vp_updL (zCr f g sp k) k (f (sp + k)) = zCr f g sp (k + 1) := by
  funext x
  unfold vp_updL zCr
  by_cases h : x = k
  · subst h
    rw [if_pos rfl, if_pos (by omega)]
  · rw [if_neg h]
    by_cases h2 : x < k
    · rw [if_pos h2, if_pos (by omega)]
    · rw [if_neg h2, if_neg (by omega)]
def zCw (f g : Nat → Int64) (dp k : Nat) : Nat → Int64 := fun x => if dp ≤ x ∧ x < dp + k then f (x - dp) else g x
theorem zCw_0 (f g : Nat → Int64) (dp : Nat) : zCw f g dp 0 = g := by
  funext x
  exact if_neg (by omega)
theorem zCw_s (f g : Nat → Int64) (dp k : Nat) : vp_updL (zCw f g dp k) (dp + k) (f k) = zCw f g dp (k + 1) := by
  funext x
  unfold vp_updL zCw
  by_cases h : x = dp + k
  · subst h
    rw [if_pos rfl, if_pos (by omega)]
    congr 1
    omega
  · rw [if_neg h]
    by_cases h2 : dp ≤ x ∧ x < dp + k
    · rw [if_pos h2, if_pos (by omega)]
    · rw [if_neg h2, if_neg (by omega)]
theorem ix160k (j i k : Nat) : 160 * nI j + nI i + nI k = nI (160 * j + i + k) := by
  rw [ix160, nI_add]
theorem sub_ti {z c : Nat} (hz : z ≤ 160) (hc : c < 2147483648) : (nI z - nI c).toInt = (z : Int) - c := by
  have e1 := nI_toInt (n := z) (by omega)
  have e2 := nI_toInt (n := c) hc
  rw [ti_sub (by omega) (by omega), e1, e2]
section PV
variable {d n m : Nat} {w w1 w2 X : zM} {S : Nat → Int32} {L : Int32} {T V G : Nat → Int32}
theorem f_spansC {h z c : Nat} {i : Int32} (H : zSs h) (hz : w.1 h 2 = nI z) (hz1 : z ≤ 160) (hc : c < 2147483648) : cal d 4008 [.ref h, .int i, .int (nI c)] w = some (some (.int (if 0 ≤ i.toInt ∧ i.toInt + c ≤ z then 1 else 0)), w) := by
  have q := q_spans (d := d) (w := w) (i := i) (n := nI c) H
  rw [hz] at q
  have e1 := nI_toInt (n := z) (by omega)
  have e2 := nI_toInt (n := c) hc
  have e3 := sub_ti hz1 hc
  have e : (0 ≤ i ∧ 0 ≤ nI c ∧ nI c ≤ nI z ∧ i ≤ nI z - nI c) ↔ (0 ≤ i.toInt ∧ i.toInt + c ≤ z) := by
    rw [ti_le, ti_le, ti_le, ti_le, e1, e2, e3, ti_0]
    omega
  rw [q]
  by_cases hh : 0 ≤ i.toInt ∧ i.toInt + c ≤ z
  · rw [if_pos hh, if_pos (e.mpr hh)]
  · rw [if_neg hh, if_neg (fun x => hh (e.mp x))]
theorem m_cp_1 {p q0 a b c : Nat} (hp : p < 8) (ha : a + c ≤ 160) : ∀ r k, k + r = c → den d 6009 167 [some (.ref 50), some (.int (nI p)), some (.int (nI q0)), some (.int (nI a)), some (.int (nI b)), some (.int (nI c)), some (.int (nI k))] [] (zuB X 69 (zCr (X.2 68) (X.2 69) (160 * p + a) k)) = den d 6009 202 [some (.ref 50), some (.int (nI p)), some (.int (nI q0)), some (.int (nI a)), some (.int (nI b)), some (.int (nI c)), some (.int (nI c))] [] (zuB X 69 (zCr (X.2 68) (X.2 69) (160 * p + a) c)) := by
  have n68 : ∀ F, (zuB X 69 F).2 68 = X.2 68 := fun F => zB_n _ _ (by decide)
  intro r
  induction r with
  | zero =>
    intro k hk
    have e : k = c := by omega
    subst e
    have g1 := nI_le_n (Nat.le_refl k) (by omega)
    rw [e_6009_167]
    simp only [e_6009_169, e_6009_171, zk_int, zk_ref, zk_null, zk_none, zk_long, zisR_r, zisR_n, zcl_int, zcl_ref, zcl_null, zpush_s, zpush_n, zbs, zbn, true_or, or_true, not_false_eq_true, not_true_eq_false, ↓reduceIte, and_self, and_true, true_and, g1]
  | succ r ih =>
    intro k hk
    have hkc : k < c := by omega
    have g1 := nI_ge_f hkc (by omega)
    have hz := zis_nI (j := k) (n := 160) (by omega) (by decide)
    have hc := nI_clamp (n := k) (by omega)
    have hz2 := zis_nI (j := 160 * p + a + k) (n := 1280) (by omega) (by decide)
    have hc2 := nI_clamp (n := 160 * p + a + k) (by omega)
    rw [e_6009_167]
    simp only [c_6009, e_6009_0, e_6009_1, e_6009_2, e_6009_5, e_6009_8, e_6009_9, e_6009_10, e_6009_13, e_6009_16, e_6009_17, e_6009_18, e_6009_21, e_6009_22, e_6009_23, e_6009_26, e_6009_27, e_6009_28, e_6009_29, e_6009_32, e_6009_33, e_6009_36, e_6009_37, e_6009_38, e_6009_39, e_6009_42, e_6009_43, e_6009_46, e_6009_47, e_6009_48, e_6009_49, e_6009_52, e_6009_53, e_6009_56, e_6009_57, e_6009_58, e_6009_59, e_6009_62, e_6009_63, e_6009_66, e_6009_67, e_6009_68, e_6009_69, e_6009_72, e_6009_73, e_6009_74, e_6009_77, e_6009_78, e_6009_80, e_6009_83, e_6009_84, e_6009_85, e_6009_88, e_6009_89, e_6009_90, e_6009_93, e_6009_94, e_6009_97, e_6009_98, e_6009_99, e_6009_102, e_6009_103, e_6009_105, e_6009_108, e_6009_109, e_6009_111, e_6009_114, e_6009_115, e_6009_117, e_6009_120, e_6009_121, e_6009_122, e_6009_125, e_6009_127, e_6009_130, e_6009_131, e_6009_132, e_6009_135, e_6009_136, e_6009_137, e_6009_139, e_6009_140, e_6009_143, e_6009_145, e_6009_146, e_6009_149, e_6009_150, e_6009_151, e_6009_153, e_6009_154, e_6009_157, e_6009_158, e_6009_160, e_6009_163, e_6009_164, e_6009_165, e_6009_169, e_6009_171, e_6009_174, e_6009_175, e_6009_178, e_6009_180, e_6009_181, e_6009_184, e_6009_187, e_6009_188, e_6009_189, e_6009_190, e_6009_191, e_6009_193, e_6009_194, e_6009_195, e_6009_196, e_6009_199, e_6009_203, e_6009_207, e_6009_209, e_6009_212, e_6009_213, e_6009_216, e_6009_219, e_6009_220, e_6009_221, e_6009_223, e_6009_224, e_6009_226, e_6009_227, e_6009_228, e_6009_231, e_6009_233, e_6009_234, e_6009_235, e_6009_238, e_6009_241, e_6009_242, zk_int, zk_ref, zk_null, zk_none, zk_long, zisR_r, zisR_n, zcl_int, zcl_ref, zcl_null, zpush_s, zpush_n, zbs, zbn, true_or, or_true, not_false_eq_true, not_true_eq_false, ↓reduceIte, and_self, and_true, true_and, zt_50, zr_50_25, zt_68, zn_68, zq_68, zr_50_26, zt_69, zn_69, zq_69, g1, ix160k, hz, hc, hz2, hc2, zul_B, zB_s, zB_B, n68, zCr_s, nI_1]
    exact ih (k + 1) (by omega)
theorem m_cp_2 {p q0 a b c : Nat} (hq : q0 < 8) (hb : b + c ≤ 160) : ∀ r k, k + r = c → den d 6009 205 [some (.ref 50), some (.int (nI p)), some (.int (nI q0)), some (.int (nI a)), some (.int (nI b)), some (.int (nI c)), some (.int (nI k))] [] (zuB X 68 (zCw (X.2 69) (X.2 68) (160 * q0 + b) k)) = some (some (.int 1), zuB X 68 (zCw (X.2 69) (X.2 68) (160 * q0 + b) c)) := by
  have n69 : ∀ F, (zuB X 68 F).2 69 = X.2 69 := fun F => zB_n _ _ (by decide)
  intro r
  induction r with
  | zero =>
    intro k hk
    have e : k = c := by omega
    subst e
    have g1 := nI_le_n (Nat.le_refl k) (by omega)
    rw [e_6009_205]
    simp only [e_6009_207, e_6009_209, e_6009_241, e_6009_242, zk_int, zk_ref, zk_null, zk_none, zk_long, zisR_r, zisR_n, zcl_int, zcl_ref, zcl_null, zpush_s, zpush_n, zbs, zbn, true_or, or_true, not_false_eq_true, not_true_eq_false, ↓reduceIte, and_self, and_true, true_and, g1]
  | succ r ih =>
    intro k hk
    have hkc : k < c := by omega
    have g1 := nI_ge_f hkc (by omega)
    have hz := zis_nI (j := k) (n := 160) (by omega) (by decide)
    have hc := nI_clamp (n := k) (by omega)
    have hz2 := zis_nI (j := 160 * q0 + b + k) (n := 1280) (by omega) (by decide)
    have hc2 := nI_clamp (n := 160 * q0 + b + k) (by omega)
    rw [e_6009_205]
    simp only [c_6009, e_6009_0, e_6009_1, e_6009_2, e_6009_5, e_6009_8, e_6009_9, e_6009_10, e_6009_13, e_6009_16, e_6009_17, e_6009_18, e_6009_21, e_6009_22, e_6009_23, e_6009_26, e_6009_27, e_6009_28, e_6009_29, e_6009_32, e_6009_33, e_6009_36, e_6009_37, e_6009_38, e_6009_39, e_6009_42, e_6009_43, e_6009_46, e_6009_47, e_6009_48, e_6009_49, e_6009_52, e_6009_53, e_6009_56, e_6009_57, e_6009_58, e_6009_59, e_6009_62, e_6009_63, e_6009_66, e_6009_67, e_6009_68, e_6009_69, e_6009_72, e_6009_73, e_6009_74, e_6009_77, e_6009_78, e_6009_80, e_6009_83, e_6009_84, e_6009_85, e_6009_88, e_6009_89, e_6009_90, e_6009_93, e_6009_94, e_6009_97, e_6009_98, e_6009_99, e_6009_102, e_6009_103, e_6009_105, e_6009_108, e_6009_109, e_6009_111, e_6009_114, e_6009_115, e_6009_117, e_6009_120, e_6009_121, e_6009_122, e_6009_125, e_6009_127, e_6009_130, e_6009_131, e_6009_132, e_6009_135, e_6009_136, e_6009_137, e_6009_139, e_6009_140, e_6009_143, e_6009_145, e_6009_146, e_6009_149, e_6009_150, e_6009_151, e_6009_153, e_6009_154, e_6009_157, e_6009_158, e_6009_160, e_6009_163, e_6009_164, e_6009_165, e_6009_169, e_6009_171, e_6009_174, e_6009_175, e_6009_178, e_6009_180, e_6009_181, e_6009_184, e_6009_187, e_6009_188, e_6009_189, e_6009_190, e_6009_191, e_6009_193, e_6009_194, e_6009_195, e_6009_196, e_6009_199, e_6009_202, e_6009_203, e_6009_207, e_6009_209, e_6009_212, e_6009_213, e_6009_216, e_6009_219, e_6009_220, e_6009_221, e_6009_223, e_6009_224, e_6009_226, e_6009_227, e_6009_228, e_6009_231, e_6009_233, e_6009_234, e_6009_235, e_6009_238, e_6009_241, e_6009_242, zk_int, zk_ref, zk_null, zk_none, zk_long, zisR_r, zisR_n, zcl_int, zcl_ref, zcl_null, zpush_s, zpush_n, zbs, zbn, true_or, or_true, not_false_eq_true, not_true_eq_false, ↓reduceIte, and_self, and_true, true_and, zt_50, zr_50_25, zt_68, zn_68, zq_68, zr_50_26, zt_69, zn_69, zq_69, g1, ix160k, hz, hc, hz2, hc2, zul_B, zB_s, zB_B, n69, zCw_s, nI_1]
    exact ih (k + 1) (by omega)
theorem s_gs0 {j : Nat} (hj : j < 8) (h : w.1 (34 + 2 * j) 1 = -1) : cal d 4003 [.ref (34 + 2 * j)] w = some (some (.int 0), w) ∧ cal d 4002 [.ref (34 + 2 * j)] w = some (some (.int 0), w) := by
  have a := q_hasGuests (d := d) (w := w) (zSs_j hj)
  have b := q_hasRow (d := d) (w := w) (zSs_j hj)
  rw [if_neg (fun x => x.1 h)] at a
  rw [if_neg (by rw [h]; decide)] at b
  exact ⟨a, b⟩
theorem s_gs1 {j s : Nat} (hj : j < 8) (hs : s < 4) (h : w.1 (34 + 2 * j) 1 = nI (100 + s)) : cal d 4003 [.ref (34 + 2 * j)] w = some (some (.int 0), w) ∧ cal d 4002 [.ref (34 + 2 * j)] w = some (some (.int 1), w) := by
  have a := q_hasGuests (d := d) (w := w) (zSs_j hj)
  have b := q_hasRow (d := d) (w := w) (zSs_j hj)
  have h100 : 100 ≤ w.1 (34 + 2 * j) 1 := by rw [h]; exact nI_le (a := 100) (by omega) (by omega)
  rw [if_neg (fun x => x.2 h100)] at a
  rw [if_pos h100] at b
  exact ⟨a, b⟩
theorem s_gs2 {j t : Nat} (hj : j < 8) (ht : t < 8) (h : w.1 (34 + 2 * j) 1 = nI t) : cal d 4003 [.ref (34 + 2 * j)] w = some (some (.int 1), w) ∧ cal d 4002 [.ref (34 + 2 * j)] w = some (some (.int 0), w) := by
  have a := q_hasGuests (d := d) (w := w) (zSs_j hj)
  have b := q_hasRow (d := d) (w := w) (zSs_j hj)
  have h100 : ¬ 100 ≤ w.1 (34 + 2 * j) 1 := by rw [h]; exact nI_ge (b := 100) (by omega) (by decide)
  have hne : ¬ w.1 (34 + 2 * j) 1 = -1 := by rw [h]; exact nI_neN (by omega)
  rw [if_pos ⟨hne, h100⟩] at a
  rw [if_neg h100] at b
  exact ⟨a, b⟩
end PV
