def zfoldl {σ : Type} (f : σ → Nat → σ) (s : σ) : Nat → σ
  | 0 => s
  | y + 1 => f (zfoldl f s y) y
def sGf (T V G : Nat → Int32) (t y : Nat) (a : Int32) : Int32 := sGift T G t (sSvc V y) a
noncomputable def pF (m : Nat) (k ev : Int32) (T V G Q : Nat → Int32) : Nat → Nat → Int32 → (Nat → Int32) → (Nat → Int32) → zSt4 → zSt4
  | 0, _, _, O, _, s => sKeep m ev O s
  | q + 1, t, a, O, K, s => @ite _ (sHp m t ev O Q s) (Classical.propDecidable _) s (zfoldl (fun s y => if k ≤ K y then s else pF m k ev T V G Q q (t + 1) (sGf T V G t y a) (upd O y (O y + sGf T V G t y a)) (upd K y (K y + 1)) (upd s.1 t (nI y), s.2)) s m)
section PLF
variable {d n m : Nat} {Z : zM} {T V G : Nat → Int32} {k ev : Int32}
theorem upd_back (O : Nat → Int32) (y : Nat) (g : Int32) : upd (upd O y (O y + g)) y (upd O y (O y + g) y - g) = O := by
  have e1 : upd O y (O y + g) y = O y + g := if_pos rfl
  have e2 : O y + g - g = O y := by grind
  rw [e1, upd_u, e2, upd_id]
theorem w_placeFrom (C : zSc Z n m T V G) (hnm : 0 < n → 0 < m) : ∀ q t a O K s, t + q = n → cal (d + 5 + q) 2020 [.ref 13, .int (nI t), .int a, .int k, .int ev] (sW Z O K s) = some (none, sW Z O K (pF m k ev T V G (Z.1 22) q t a O K s)) := by
  have hm4 := C.1.2.2.2.2
  have hn8 := C.1.2.2.1
  intro q
  induction q with
  | zero =>
    intro t a O K s ht
    have e : t = n := by omega
    subst e
    have l2 : (nI t < nI t) = False := nI_lt_f (Nat.le_refl t) (by omega)
    have kp := w_keep (d := d + 2) (O := O) (K := K) (s := s) (ev := ev) C
    by_cases h8 : (8 : Int32) ≤ nI t
    · simp only [c_2020, e_2020_0, e_2020_1, e_2020_3, e_2020_6, e_2020_7, e_2020_8, e_2020_11, e_2020_14, e_2020_17, e_2020_18, e_2020_20, e_2020_23, e_2020_24, e_2020_25, e_2020_26, e_2020_28, e_2020_31, e_2020_34, e_2020_35, e_2020_36, e_2020_40, e_2020_41, e_2020_44, e_2020_47, e_2020_50, e_2020_51, e_2020_54, e_2020_56, e_2020_59, e_2020_60, e_2020_63, e_2020_64, e_2020_67, e_2020_68, e_2020_69, e_2020_72, e_2020_74, e_2020_77, e_2020_78, e_2020_81, e_2020_83, e_2020_84, e_2020_87, e_2020_88, e_2020_90, e_2020_93, e_2020_94, e_2020_97, e_2020_99, e_2020_100, e_2020_103, e_2020_105, e_2020_108, e_2020_109, e_2020_110, e_2020_113, e_2020_114, e_2020_117, e_2020_119, e_2020_120, e_2020_123, e_2020_125, e_2020_128, e_2020_130, e_2020_131, e_2020_134, e_2020_135, e_2020_136, e_2020_137, e_2020_138, e_2020_140, e_2020_141, e_2020_143, e_2020_146, e_2020_147, e_2020_150, e_2020_152, e_2020_153, e_2020_156, e_2020_158, e_2020_161, e_2020_162, e_2020_163, e_2020_166, e_2020_167, e_2020_170, e_2020_172, e_2020_173, e_2020_176, e_2020_178, e_2020_181, e_2020_183, e_2020_184, e_2020_187, e_2020_190, e_2020_193, zk_int, zk_ref, zk_null, zk_none, zk_long, zisR_r, zisR_n, zcl_int, zcl_ref, zcl_null, zpush_s, zpush_n, zbs, zbn, true_or, or_true, not_false_eq_true, not_true_eq_false, ↓reduceIte, and_self, and_true, true_and, zt_13, zr_13_0, zt_14, h8, kp]
      rfl
    · simp only [c_2020, e_2020_0, e_2020_1, e_2020_3, e_2020_6, e_2020_7, e_2020_8, e_2020_11, e_2020_14, e_2020_17, e_2020_18, e_2020_20, e_2020_23, e_2020_24, e_2020_25, e_2020_26, e_2020_28, e_2020_31, e_2020_34, e_2020_35, e_2020_36, e_2020_40, e_2020_41, e_2020_44, e_2020_47, e_2020_50, e_2020_51, e_2020_54, e_2020_56, e_2020_59, e_2020_60, e_2020_63, e_2020_64, e_2020_67, e_2020_68, e_2020_69, e_2020_72, e_2020_74, e_2020_77, e_2020_78, e_2020_81, e_2020_83, e_2020_84, e_2020_87, e_2020_88, e_2020_90, e_2020_93, e_2020_94, e_2020_97, e_2020_99, e_2020_100, e_2020_103, e_2020_105, e_2020_108, e_2020_109, e_2020_110, e_2020_113, e_2020_114, e_2020_117, e_2020_119, e_2020_120, e_2020_123, e_2020_125, e_2020_128, e_2020_130, e_2020_131, e_2020_134, e_2020_135, e_2020_136, e_2020_137, e_2020_138, e_2020_140, e_2020_141, e_2020_143, e_2020_146, e_2020_147, e_2020_150, e_2020_152, e_2020_153, e_2020_156, e_2020_158, e_2020_161, e_2020_162, e_2020_163, e_2020_166, e_2020_167, e_2020_170, e_2020_172, e_2020_173, e_2020_176, e_2020_178, e_2020_181, e_2020_183, e_2020_184, e_2020_187, e_2020_190, e_2020_193, zk_int, zk_ref, zk_null, zk_none, zk_long, zisR_r, zisR_n, zcl_int, zcl_ref, zcl_null, zpush_s, zpush_n, zbs, zbn, true_or, or_true, not_false_eq_true, not_true_eq_false, ↓reduceIte, and_self, and_true, true_and, zt_13, zr_13_0, zt_14, h8, w_tableCount C, l2, kp]
      rfl
  | succ q ih =>
    intro t a O K s ht
    have htn : t < n := by omega
    have hm0 := hnm (by omega)
    have l1 : ((8 : Int32) ≤ nI t) = False := nI_ge_f (a := t) (b := 8) (by omega) (by omega)
    have l2 : (nI t < nI n) = True := eq_true (nI_lt htn (by omega))
    obtain ⟨b, hb, hb2⟩ := w_hopeless (d := d + 3 + q) (O := O) (K := K) (s := s) (ev := ev) (t := t) C (by omega) hm0
    have hb : cal (d + 5 + q) 2021 [.ref 13, .int (nI t), .int ev] (sW Z O K s) = some (some (.int b), sW Z O K s) := by
      have e : d + 5 + q = d + 3 + q + 2 := by omega
      rw [e]; exact hb
    have ed : d + 5 + (q + 1) = d + 5 + q + 1 := by omega
    rcases hb2 with ⟨rfl, hp⟩ | ⟨rfl, hp⟩
    · have e1 : pF m k ev T V G (Z.1 22) (q + 1) t a O K s = s := if_pos hp
      have z : ((1 : Int32) = 0) = False := by decide
      rw [e1, ed]
      simp only [c_2020, e_2020_0, e_2020_1, e_2020_3, e_2020_6, e_2020_7, e_2020_8, e_2020_11, e_2020_14, e_2020_17, e_2020_18, e_2020_20, e_2020_23, e_2020_24, e_2020_25, e_2020_26, e_2020_28, e_2020_31, e_2020_34, e_2020_35, e_2020_36, e_2020_40, e_2020_41, e_2020_44, e_2020_47, e_2020_50, e_2020_51, e_2020_54, e_2020_56, e_2020_59, e_2020_60, e_2020_63, e_2020_64, e_2020_67, e_2020_68, e_2020_69, e_2020_72, e_2020_74, e_2020_77, e_2020_78, e_2020_81, e_2020_83, e_2020_84, e_2020_87, e_2020_88, e_2020_90, e_2020_93, e_2020_94, e_2020_97, e_2020_99, e_2020_100, e_2020_103, e_2020_105, e_2020_108, e_2020_109, e_2020_110, e_2020_113, e_2020_114, e_2020_117, e_2020_119, e_2020_120, e_2020_123, e_2020_125, e_2020_128, e_2020_130, e_2020_131, e_2020_134, e_2020_135, e_2020_136, e_2020_137, e_2020_138, e_2020_140, e_2020_141, e_2020_143, e_2020_146, e_2020_147, e_2020_150, e_2020_152, e_2020_153, e_2020_156, e_2020_158, e_2020_161, e_2020_162, e_2020_163, e_2020_166, e_2020_167, e_2020_170, e_2020_172, e_2020_173, e_2020_176, e_2020_178, e_2020_181, e_2020_183, e_2020_184, e_2020_187, e_2020_190, e_2020_193, zk_int, zk_ref, zk_null, zk_none, zk_long, zisR_r, zisR_n, zcl_int, zcl_ref, zcl_null, zpush_s, zpush_n, zbs, zbn, true_or, or_true, not_false_eq_true, not_true_eq_false, ↓reduceIte, and_self, and_true, true_and, zt_13, zr_13_0, zt_14, l1, l2, w_tableCount C, hb, z]
    · have e1 : pF m k ev T V G (Z.1 22) (q + 1) t a O K s = zfoldl (fun s y => if k ≤ K y then s else pF m k ev T V G (Z.1 22) q (t + 1) (sGf T V G t y a) (upd O y (O y + sGf T V G t y a)) (upd K y (K y + 1)) (upd s.1 t (nI y), s.2)) s m := if_neg hp
      rw [e1, ed]
      generalize hf : (fun (s : zSt4) (y : Nat) => if k ≤ K y then s else pF m k ev T V G (Z.1 22) q (t + 1) (sGf T V G t y a) (upd O y (O y + sGf T V G t y a)) (upd K y (K y + 1)) (upd s.1 t (nI y), s.2)) = f
      have key : ∀ r y o6, y + r = m → den (d + 5 + q + 1) 2020 38 [some (.ref 13), some (.int (nI t)), some (.int a), some (.int k), some (.int ev), some (.int (nI y)), o6] [] (sW Z O K (zfoldl f s y)) = some (none, sW Z O K (zfoldl f s m)) := by
        intro r
        induction r with
        | zero =>
          intro y o6 hy
          have e : y = m := by omega
          subst e
          have l3 := nI_le_n (Nat.le_refl y) (by omega)
          rw [e_2020_38]
          simp only [e_2020_40, e_2020_41, e_2020_44, e_2020_47, e_2020_193, zk_int, zk_ref, zk_null, zk_none, zk_long, zisR_r, zisR_n, zcl_int, zcl_ref, zcl_null, zpush_s, zpush_n, zbs, zbn, true_or, or_true, not_false_eq_true, not_true_eq_false, ↓reduceIte, and_self, and_true, true_and, zt_13, zr_13_0, zt_14, w_waiterCount C, l3]
        | succ r ihr =>
          intro y o6 hy
          have hym : y < m := by omega
          have hy4 : y < 4 := by omega
          have l3 := nI_ge_f hym (by omega)
          have qt := fun O K s => w_taken (d := d + 5 + q) (Z := Z) (O := O) (K := K) (s := s) hy4
          have qo := fun O K s => w_own (d := d + 5 + q) (Z := Z) (O := O) (K := K) (s := s) hy4
          have pt := fun O K s v => w_ptaken (d := d + 5 + q) (Z := Z) (O := O) (K := K) (s := s) (v := v) hy4
          have po := fun O K s v => w_pown (d := d + 5 + q) (Z := Z) (O := O) (K := K) (s := s) (v := v) hy4
          have ph := fun O K s v => w_phand (d := d + 5 + q) (Z := Z) (O := O) (K := K) (s := s) (v := v) (t := t) (by omega)
          by_cases hc : k ≤ K y
          · have e2 : zfoldl f s (y + 1) = zfoldl f s y := by
              show f (zfoldl f s y) y = zfoldl f s y
              rw [← hf]
              exact if_pos hc
            have ih2 := ihr (y + 1) o6 (by omega)
            rw [e2] at ih2
            rw [e_2020_38]
            simp only [c_2020, e_2020_0, e_2020_1, e_2020_3, e_2020_6, e_2020_7, e_2020_8, e_2020_11, e_2020_14, e_2020_17, e_2020_18, e_2020_20, e_2020_23, e_2020_24, e_2020_25, e_2020_26, e_2020_28, e_2020_31, e_2020_34, e_2020_35, e_2020_36, e_2020_40, e_2020_41, e_2020_44, e_2020_47, e_2020_50, e_2020_51, e_2020_54, e_2020_56, e_2020_59, e_2020_60, e_2020_63, e_2020_64, e_2020_67, e_2020_68, e_2020_69, e_2020_72, e_2020_74, e_2020_77, e_2020_78, e_2020_81, e_2020_83, e_2020_84, e_2020_87, e_2020_88, e_2020_90, e_2020_93, e_2020_94, e_2020_97, e_2020_99, e_2020_100, e_2020_103, e_2020_105, e_2020_108, e_2020_109, e_2020_110, e_2020_113, e_2020_114, e_2020_117, e_2020_119, e_2020_120, e_2020_123, e_2020_125, e_2020_128, e_2020_130, e_2020_131, e_2020_134, e_2020_135, e_2020_136, e_2020_137, e_2020_138, e_2020_140, e_2020_141, e_2020_143, e_2020_146, e_2020_147, e_2020_150, e_2020_152, e_2020_153, e_2020_156, e_2020_158, e_2020_161, e_2020_162, e_2020_163, e_2020_166, e_2020_167, e_2020_170, e_2020_172, e_2020_173, e_2020_176, e_2020_178, e_2020_181, e_2020_183, e_2020_184, e_2020_187, e_2020_190, e_2020_193, zk_int, zk_ref, zk_null, zk_none, zk_long, zisR_r, zisR_n, zcl_int, zcl_ref, zcl_null, zpush_s, zpush_n, zbs, zbn, true_or, or_true, not_false_eq_true, not_true_eq_false, ↓reduceIte, and_self, and_true, true_and, zt_13, zr_13_0, zr_13_5, zt_14, w_waiterCount C, l3, qt, hc, nI_1]
            exact ih2
          · have e2 : zfoldl f s (y + 1) = pF m k ev T V G (Z.1 22) q (t + 1) (sGf T V G t y a) (upd O y (O y + sGf T V G t y a)) (upd K y (K y + 1)) (upd (zfoldl f s y).1 t (nI y), (zfoldl f s y).2) := by
              show f (zfoldl f s y) y = _
              rw [← hf]
              exact if_neg hc
            have ih2 := fun o6 => ihr (y + 1) o6 (by omega)
            rw [e2] at ih2
            have g1 := w_service (d := d + 3 + q) (O := O) (K := K) (s := zfoldl f s y) C hym
            have g2 := w_gift (d := d + 2 + q) (O := O) (K := K) (s := zfoldl f s y) (y := y) (a := a) C htn
            have g1 : cal (d + 5 + q) 1027 [.ref 14, .int (nI y)] (sW Z O K (zfoldl f s y)) = some (some (.int (sSvc V y)), sW Z O K (zfoldl f s y)) := by
              have e : d + 5 + q = d + 3 + q + 2 := by omega
              rw [e]; exact g1
            have g2 : cal (d + 5 + q) 1033 [.ref 14, .int (nI t), .int (sSvc V y), .int a] (sW Z O K (zfoldl f s y)) = some (some (.int (sGf T V G t y a)), sW Z O K (zfoldl f s y)) := by
              have e : d + 5 + q = d + 2 + q + 3 := by omega
              rw [e]; exact g2
            have rcc := ih (t + 1) (sGf T V G t y a) (upd O y (O y + sGf T V G t y a)) (upd K y (K y + 1)) (upd (zfoldl f s y).1 t (nI y), (zfoldl f s y).2) (by omega)
            have b1 := upd_back O y (sGf T V G t y a)
            have b2 := upd_back K y 1
            rw [e_2020_38]
            simp only [c_2020, e_2020_0, e_2020_1, e_2020_3, e_2020_6, e_2020_7, e_2020_8, e_2020_11, e_2020_14, e_2020_17, e_2020_18, e_2020_20, e_2020_23, e_2020_24, e_2020_25, e_2020_26, e_2020_28, e_2020_31, e_2020_34, e_2020_35, e_2020_36, e_2020_40, e_2020_41, e_2020_44, e_2020_47, e_2020_50, e_2020_51, e_2020_54, e_2020_56, e_2020_59, e_2020_60, e_2020_63, e_2020_64, e_2020_67, e_2020_68, e_2020_69, e_2020_72, e_2020_74, e_2020_77, e_2020_78, e_2020_81, e_2020_83, e_2020_84, e_2020_87, e_2020_88, e_2020_90, e_2020_93, e_2020_94, e_2020_97, e_2020_99, e_2020_100, e_2020_103, e_2020_105, e_2020_108, e_2020_109, e_2020_110, e_2020_113, e_2020_114, e_2020_117, e_2020_119, e_2020_120, e_2020_123, e_2020_125, e_2020_128, e_2020_130, e_2020_131, e_2020_134, e_2020_135, e_2020_136, e_2020_137, e_2020_138, e_2020_140, e_2020_141, e_2020_143, e_2020_146, e_2020_147, e_2020_150, e_2020_152, e_2020_153, e_2020_156, e_2020_158, e_2020_161, e_2020_162, e_2020_163, e_2020_166, e_2020_167, e_2020_170, e_2020_172, e_2020_173, e_2020_176, e_2020_178, e_2020_181, e_2020_183, e_2020_184, e_2020_187, e_2020_190, e_2020_193, zk_int, zk_ref, zk_null, zk_none, zk_long, zisR_r, zisR_n, zcl_int, zcl_ref, zcl_null, zpush_s, zpush_n, zbs, zbn, true_or, or_true, not_false_eq_true, not_true_eq_false, ↓reduceIte, and_self, and_true, true_and, zt_13, zr_13_0, zr_13_5, zr_13_7, zr_13_4, zt_14, w_waiterCount C, l3, qt, hc, g1, g2, ph, pt, qo, po, nI_1, rcc, b1, b2]
            exact ih2 _
      have h1 := key m 0 none (by omega)
      simp only [c_2020, e_2020_0, e_2020_1, e_2020_3, e_2020_6, e_2020_7, e_2020_8, e_2020_11, e_2020_14, e_2020_17, e_2020_18, e_2020_20, e_2020_23, e_2020_24, e_2020_25, e_2020_26, e_2020_28, e_2020_31, e_2020_34, e_2020_35, e_2020_36, e_2020_40, e_2020_41, e_2020_44, e_2020_47, e_2020_50, e_2020_51, e_2020_54, e_2020_56, e_2020_59, e_2020_60, e_2020_63, e_2020_64, e_2020_67, e_2020_68, e_2020_69, e_2020_72, e_2020_74, e_2020_77, e_2020_78, e_2020_81, e_2020_83, e_2020_84, e_2020_87, e_2020_88, e_2020_90, e_2020_93, e_2020_94, e_2020_97, e_2020_99, e_2020_100, e_2020_103, e_2020_105, e_2020_108, e_2020_109, e_2020_110, e_2020_113, e_2020_114, e_2020_117, e_2020_119, e_2020_120, e_2020_123, e_2020_125, e_2020_128, e_2020_130, e_2020_131, e_2020_134, e_2020_135, e_2020_136, e_2020_137, e_2020_138, e_2020_140, e_2020_141, e_2020_143, e_2020_146, e_2020_147, e_2020_150, e_2020_152, e_2020_153, e_2020_156, e_2020_158, e_2020_161, e_2020_162, e_2020_163, e_2020_166, e_2020_167, e_2020_170, e_2020_172, e_2020_173, e_2020_176, e_2020_178, e_2020_181, e_2020_183, e_2020_184, e_2020_187, e_2020_190, e_2020_193, zk_int, zk_ref, zk_null, zk_none, zk_long, zisR_r, zisR_n, zcl_int, zcl_ref, zcl_null, zpush_s, zpush_n, zbs, zbn, true_or, or_true, not_false_eq_true, not_true_eq_false, ↓reduceIte, and_self, and_true, true_and, zt_13, zr_13_0, zt_14, l1, l2, w_tableCount C, hb]
      exact h1
end PLF
