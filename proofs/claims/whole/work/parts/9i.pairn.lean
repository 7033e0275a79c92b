section QB
variable {d n m j z p : Nat} {w w1 w2 X : zM} {L : Nat → Int32}
theorem m_wa_c (E : mE X j z p L) {i : Nat} (hi : i < 5) : ∀ r c, c + r = off i → den d 6036 4 [some (.ref 50), some (.int (nI i)), some (.int (nI c)), some (.int (nI (zc c)))] [] X = den d 6036 32 [some (.ref 50), some (.int (nI i)), some (.int (nI (off i))), some (.int (nI i))] [] X := by
  obtain ⟨e1, e2, e3, e4, e5, e6, e7, e8⟩ := E
  have h40 := off_40 hi
  obtain ⟨a1, a2, a3, a4, a5⟩ := wl_a ⟨i, hi⟩
  dsimp only at a1 a2 a3 a4 a5
  intro r
  induction r with
  | zero =>
    intro c hc
    have e : c = off i := by omega
    rw [e, a5]
    have g1 := nI_le_n (Nat.le_refl i) (by omega)
    rw [e_6036_4]
    simp only [e_6036_5, e_6036_6, zk_int, zk_ref, zk_null, zk_none, zk_long, zisR_r, zisR_n, zcl_int, zcl_ref, zcl_null, zpush_s, zpush_n, zbs, zbn, true_or, or_true, not_false_eq_true, not_true_eq_false, ↓reduceIte, and_self, and_true, true_and, g1]
  | succ r ih =>
    intro c hc
    have hlt : off i < 32 := by
      rcases (by omega : i = 0 ∨ i = 1 ∨ i = 2 ∨ i = 3 ∨ i = 4) with rfl | rfl | rfl | rfl | rfl <;> decide
    have hzc := wl_e ⟨i, hi⟩ ⟨c, by omega⟩ (by show c < off i; omega)
    dsimp only at hzc
    have g1 := nI_ge_f hzc (by omega)
    have hz := zis_nI (j := c) (n := 40) (by omega) (by decide)
    have hcl := nI_clamp (n := c) (by omega)
    have v := e8 c (by omega)
    have ez : zc (c + 1) = zc c + if zWd c = 0 then 1 else 0 := rfl
    have h := ih (c + 1) (by omega)
    obtain ⟨n0, -⟩ := nI_a (zc c)
    rw [← h, e_6036_4]
    by_cases hw : zWd c = 0
    · rw [if_pos hw] at ez
      rw [ez]
      simp only [e_6036_5, e_6036_6, e_6036_9, e_6036_10, e_6036_11, e_6036_14, e_6036_15, e_6036_16, e_6036_19, e_6036_20, e_6036_23, e_6036_24, e_6036_25, e_6036_26, e_6036_29, zk_int, zk_ref, zk_null, zk_none, zk_long, zisR_r, zisR_n, zcl_int, zcl_ref, zcl_null, zpush_s, zpush_n, zbs, zbn, true_or, or_true, not_false_eq_true, not_true_eq_false, ↓reduceIte, and_self, and_true, true_and, zt_50, zr_50_27, zt_70, zn_70, zo_70, zl_70, zq_70, g1, hz, hcl, v, hw, nI_1]
    · rw [if_neg hw, Nat.add_zero] at ez
      rw [ez]
      simp only [e_6036_5, e_6036_6, e_6036_9, e_6036_10, e_6036_11, e_6036_14, e_6036_15, e_6036_16, e_6036_19, e_6036_20, e_6036_23, e_6036_24, e_6036_25, e_6036_26, e_6036_29, zk_int, zk_ref, zk_null, zk_none, zk_long, zisR_r, zisR_n, zcl_int, zcl_ref, zcl_null, zpush_s, zpush_n, zbs, zbn, true_or, or_true, not_false_eq_true, not_true_eq_false, ↓reduceIte, and_self, and_true, true_and, zt_50, zr_50_27, zt_70, zn_70, zo_70, zl_70, zq_70, g1, hz, hcl, v, hw, nI_1, n0, Nat.add_zero]
theorem m_wa_m (E : mE X j z p L) {i : Nat} (hi : i < 5) : ∀ cs k q, (rStr (2000 + i)).drop k = cs → k ≤ (rStr (2000 + i)).length → q + cs.length < 1000 → den d 6036 37 [some (.ref 50), some (.int (nI i)), some (.int (nI (off i + k))), some (.int (nI q))] [] X = some (some (.int (if (rWrd L cs q).1 = true then 1 else 0)), X) := by
  obtain ⟨e1, e2, e3, e4, e5, e6, e7, e8⟩ := E
  have h40 := off_40 hi
  obtain ⟨a1, a2, a3, a4, a5⟩ := wl_a ⟨i, hi⟩
  dsimp only at a1 a2 a3 a4 a5
  intro cs
  induction cs with
  | nil =>
    intro k q hk hk2 hq
    have e := drop_n hk hk2
    rw [e]
    have hz := zis_nI (j := off i + (rStr (2000 + i)).length) (n := 40) (by omega) (by decide)
    have hc := nI_clamp (n := off i + (rStr (2000 + i)).length) (by omega)
    have v := (e8 (off i + (rStr (2000 + i)).length) (by omega)).trans (wl_d ⟨i, hi⟩)
    have g1 : ((32 : Int32) ≤ 32) = True := eq_true (by decide)
    have g2 : ((32 : Int32) < 32) = False := eq_false (by decide)
    have er : rWrd L [] q = (true, q) := rfl
    rw [er, if_pos rfl, e_6036_37 zisR_r]
    simp only [c_6036, e_6036_0, e_6036_1, e_6036_2, e_6036_3, e_6036_5, e_6036_6, e_6036_9, e_6036_10, e_6036_11, e_6036_14, e_6036_15, e_6036_16, e_6036_19, e_6036_20, e_6036_23, e_6036_24, e_6036_25, e_6036_26, e_6036_29, e_6036_32, e_6036_33, e_6036_36, e_6036_38, e_6036_41, e_6036_42, e_6036_43, e_6036_45, e_6036_48, e_6036_49, e_6036_50, e_6036_53, e_6036_56, e_6036_57, e_6036_60, e_6036_61, e_6036_64, e_6036_65, e_6036_66, e_6036_67, e_6036_68, e_6036_69, e_6036_72, e_6036_73, e_6036_74, e_6036_77, e_6036_80, e_6036_83, e_6036_86, e_6036_87, e_6036_90, e_6036_91, e_6036_92, e_6036_94, e_6036_97, e_6036_98, e_6036_101, e_6036_102, zk_int, zk_ref, zk_null, zk_none, zk_long, zisR_r, zisR_n, zcl_int, zcl_ref, zcl_null, zpush_s, zpush_n, zbs, zbn, true_or, or_true, not_false_eq_true, not_true_eq_false, ↓reduceIte, and_self, and_true, true_and, zt_50, zr_50_27, zt_70, zn_70, zo_70, zl_70, zq_70, hz, hc, v, g1, g2]
  | cons c cs ih =>
    intro k q hk hk2 hq
    obtain ⟨g1, g2, g3⟩ := drop_c hk
    have b := wl_c ⟨i, hi⟩ ⟨k, by omega⟩ g1
    dsimp only at b
    rw [g2] at b
    have hz := zis_nI (j := off i + k) (n := 40) (by omega) (by decide)
    have hc := nI_clamp (n := off i + k) (by omega)
    have v := (e8 (off i + k) (by omega)).trans b.1
    have v0 : (c ≤ 32) = False := eq_false (by rw [← b.1]; exact Int32.not_le.mpr b.2)
    have v1 : (32 < c) = True := eq_true (by rw [← b.1]; exact b.2)
    have er : rWrd L (c :: cs) q = if L q = c then rWrd L cs (q + 1) else (false, q) := rfl
    rw [List.length_cons] at hq
    have ff : (false = true) = False := eq_false (by decide)
    by_cases hqz : q < z
    · have l1 := nI_ge_f hqz (by omega)
      have hz2 := zis_nI (j := 160 * j + q) (n := 1280) (by omega) (by decide)
      have hc2 := nI_clamp (n := 160 * j + q) (by omega)
      have v2 := e4 q hqz
      by_cases hl : L q = c
      · rw [if_pos hl] at er
        have h := ih (k + 1) (q + 1) g3 (by omega) (by omega)
        have hl' : (L q = c) = True := eq_true hl
        rw [er, ← h, e_6036_37 zisR_r]
        simp only [c_6036, e_6036_0, e_6036_1, e_6036_2, e_6036_3, e_6036_5, e_6036_6, e_6036_9, e_6036_10, e_6036_11, e_6036_14, e_6036_15, e_6036_16, e_6036_19, e_6036_20, e_6036_23, e_6036_24, e_6036_25, e_6036_26, e_6036_29, e_6036_32, e_6036_33, e_6036_36, e_6036_38, e_6036_41, e_6036_42, e_6036_43, e_6036_45, e_6036_48, e_6036_49, e_6036_50, e_6036_53, e_6036_56, e_6036_57, e_6036_60, e_6036_61, e_6036_64, e_6036_65, e_6036_66, e_6036_67, e_6036_68, e_6036_69, e_6036_72, e_6036_73, e_6036_74, e_6036_77, e_6036_80, e_6036_83, e_6036_86, e_6036_87, e_6036_90, e_6036_91, e_6036_92, e_6036_94, e_6036_97, e_6036_98, e_6036_101, e_6036_102, zk_int, zk_ref, zk_null, zk_none, zk_long, zisR_r, zisR_n, zcl_int, zcl_ref, zcl_null, zpush_s, zpush_n, zbs, zbn, true_or, or_true, not_false_eq_true, not_true_eq_false, ↓reduceIte, and_self, and_true, true_and, zt_50, zr_50_27, zt_70, zn_70, zo_70, zl_70, zq_70, zr_50_25, zt_68, zn_68, zq_68, e1, e3, hz, hc, v, v0, v1, l1, nI_add, hz2, hc2, v2, hl', nI_1]
        rfl
      · rw [if_neg hl] at er
        rw [er, e_6036_37 zisR_r]
        simp only [c_6036, e_6036_0, e_6036_1, e_6036_2, e_6036_3, e_6036_5, e_6036_6, e_6036_9, e_6036_10, e_6036_11, e_6036_14, e_6036_15, e_6036_16, e_6036_19, e_6036_20, e_6036_23, e_6036_24, e_6036_25, e_6036_26, e_6036_29, e_6036_32, e_6036_33, e_6036_36, e_6036_38, e_6036_41, e_6036_42, e_6036_43, e_6036_45, e_6036_48, e_6036_49, e_6036_50, e_6036_53, e_6036_56, e_6036_57, e_6036_60, e_6036_61, e_6036_64, e_6036_65, e_6036_66, e_6036_67, e_6036_68, e_6036_69, e_6036_72, e_6036_73, e_6036_74, e_6036_77, e_6036_80, e_6036_83, e_6036_86, e_6036_87, e_6036_90, e_6036_91, e_6036_92, e_6036_94, e_6036_97, e_6036_98, e_6036_101, e_6036_102, zk_int, zk_ref, zk_null, zk_none, zk_long, zisR_r, zisR_n, zcl_int, zcl_ref, zcl_null, zpush_s, zpush_n, zbs, zbn, true_or, or_true, not_false_eq_true, not_true_eq_false, ↓reduceIte, and_self, and_true, true_and, zt_50, zr_50_27, zt_70, zn_70, zo_70, zl_70, zq_70, zr_50_25, zt_68, zn_68, zq_68, e1, e3, hz, hc, v, v0, v1, l1, nI_add, hz2, hc2, v2, hl, ff]
    · have l1 := nI_le_n (a := z) (b := q) (by omega) (by omega)
      have hl : ¬ L q = c := fun h => by
        rw [e5 q (by omega)] at h
        rw [b.1, ← h] at b
        exact absurd b.2 (by decide)
      rw [if_neg hl] at er
      rw [er, e_6036_37 zisR_r]
      simp only [c_6036, e_6036_0, e_6036_1, e_6036_2, e_6036_3, e_6036_5, e_6036_6, e_6036_9, e_6036_10, e_6036_11, e_6036_14, e_6036_15, e_6036_16, e_6036_19, e_6036_20, e_6036_23, e_6036_24, e_6036_25, e_6036_26, e_6036_29, e_6036_32, e_6036_33, e_6036_36, e_6036_38, e_6036_41, e_6036_42, e_6036_43, e_6036_45, e_6036_48, e_6036_49, e_6036_50, e_6036_53, e_6036_56, e_6036_57, e_6036_60, e_6036_61, e_6036_64, e_6036_65, e_6036_66, e_6036_67, e_6036_68, e_6036_69, e_6036_72, e_6036_73, e_6036_74, e_6036_77, e_6036_80, e_6036_83, e_6036_86, e_6036_87, e_6036_90, e_6036_91, e_6036_92, e_6036_94, e_6036_97, e_6036_98, e_6036_101, e_6036_102, zk_int, zk_ref, zk_null, zk_none, zk_long, zisR_r, zisR_n, zcl_int, zcl_ref, zcl_null, zpush_s, zpush_n, zbs, zbn, true_or, or_true, not_false_eq_true, not_true_eq_false, ↓reduceIte, and_self, and_true, true_and, zt_50, zr_50_27, zt_70, zn_70, zo_70, zl_70, zq_70, zr_50_25, zt_68, zn_68, zq_68, e3, hz, hc, v, v0, v1, l1, ff]
theorem m_wordAt (E : mE X j z p L) (hp : p < 900) {i : Nat} (hi : i < 5) : cal d 6036 [.ref 50, .int (nI i)] X = some (some (.int (if (rWrd L (rStr (2000 + i)) p).1 = true then 1 else 0)), X) := by
  have e30 := E.2.1
  have l1 := m_wa_c (d := d) E hi (off i) 0 (by omega)
  have hlen := rStr_len hi
  have l2 := m_wa_m (d := d) E hi (rStr (2000 + i)) 0 p rfl (by omega) (by omega)
  rw [show zc 0 = 0 from rfl, nI_0] at l1
  rw [Nat.add_zero] at l2
  rw [← l2]
  simp only [c_6036, e_6036_0, e_6036_1, e_6036_2, e_6036_3, zk_int, zk_ref, zk_null, zk_none, zk_long, zisR_r, zisR_n, zcl_int, zcl_ref, zcl_null, zpush_s, zpush_n, zbs, zbn, true_or, or_true, not_false_eq_true, not_true_eq_false, ↓reduceIte, and_self, and_true, true_and, zt_50, l1]
  simp only [e_6036_32, e_6036_33, e_6036_36, zk_int, zk_ref, zk_null, zk_none, zk_long, zisR_r, zisR_n, zcl_int, zcl_ref, zcl_null, zpush_s, zpush_n, zbs, zbn, true_or, or_true, not_false_eq_true, not_true_eq_false, ↓reduceIte, and_self, and_true, true_and, zt_50, e30]
end QB
/- what the first letter tells -/
theorem rFst_d : ∀ i k : Fin 5, rFst i.1 = rFst k.1 → i = k := by decide +kernel
theorem wl_h' : ∀ i : Fin 5, wl i.1 = rFst i.1 :: (wl i.1).tail ∧ rStr (2000 + i.1) = rFst i.1 :: (rStr (2000 + i.1)).tail := by decide +kernel
theorem wl_h : ∀ i : Fin 5, ∃ cs, wl i.1 = rFst i.1 :: cs ∧ ∃ cs', rStr (2000 + i.1) = rFst i.1 :: cs' := fun i => ⟨_, (wl_h' i).1, _, (wl_h' i).2⟩
theorem rWrd_n {L : Nat → Int32} {p i : Nat} (hi : i < 5) (h : ¬ L p = rFst i) : rWrd L (wl i) p = (false, p) ∧ rWrd L (rStr (2000 + i)) p = (false, p) := by
  obtain ⟨cs, h1, cs', h2⟩ := wl_h ⟨i, hi⟩
  dsimp only at h1 h2
  rw [h1, h2]
  exact ⟨if_neg h, if_neg h⟩
theorem rByF_n {x : Int32} : ∀ r i, i + r = 5 → rByF x r i = -1 → ∀ k, i ≤ k → k < 5 → ¬ x = rFst k := by
  intro r
  induction r with
  | zero => intro i hi _ k h1 h2; omega
  | succ r ih =>
    intro i hi h k h1 h2
    have e : rByF x (r + 1) i = if x = rFst i then nI i else rByF x r (i + 1) := rfl
    rw [e] at h
    by_cases hx : x = rFst i
    · rw [if_pos hx] at h
      exact absurd h (nI_neN (by omega))
    · rw [if_neg hx] at h
      by_cases hk : k = i
      · rw [hk]; exact hx
      · exact ih (i + 1) (by omega) h k (by omega) h2
theorem rByF_i {x : Int32} : ∀ r i, i + r = 5 → ∀ k, k < 5 → rByF x r i = nI k → x = rFst k := by
  intro r
  induction r with
  | zero =>
    intro i hi k hk h
    have h' : (-1 : Int32) = nI k := h
    exact absurd h'.symm (nI_neN (by omega))
  | succ r ih =>
    intro i hi k hk h
    have e : rByF x (r + 1) i = if x = rFst i then nI i else rByF x r (i + 1) := rfl
    rw [e] at h
    by_cases hx : x = rFst i
    · rw [if_pos hx] at h
      have := (nI_eq (by omega) (by omega)).mp h
      rw [← this]; exact hx
    · rw [if_neg hx] at h
      exact ih (i + 1) (by omega) k hk h
theorem mWd_n {L : Nat → Int32} {p : Nat} (h : rBy (L p) = -1) : mWd L p 5 0 p = (-1, p) := by
  have hk := fun k hk => (rWrd_n hk (rByF_n 5 0 rfl h k (Nat.zero_le _) hk)).1
  have key : ∀ r i, i + r = 5 → mWd L p r i p = (-1, p) := by
    intro r
    induction r with
    | zero => intro i _; rfl
    | succ r ih =>
      intro i hi
      have e : mWd L p (r + 1) i p = if (rWrd L (wl i) p).1 = true then (nI i, (rWrd L (wl i) p).2) else mWd L p r (i + 1) (max p (rWrd L (wl i) p).2) := rfl
      rw [e, hk i (by omega), if_neg Bool.false_ne_true, Nat.max_self]
      exact ih (i + 1) (by omega)
  exact key 5 0 rfl
theorem mWd_i {L : Nat → Int32} {p b : Nat} (hb : b < 5) (h : rBy (L p) = nI b) : mWd L p 5 0 p = if (rWrd L (wl b) p).1 = true then (nI b, (rWrd L (wl b) p).2) else (-1, (rWrd L (wl b) p).2) := by
  have hx := rByF_i 5 0 rfl b hb h
  have hk : ∀ k, k < 5 → k ≠ b → rWrd L (wl k) p = (false, p) := fun k hk hkb => (rWrd_n hk (fun e => hkb (by
    have := rFst_d ⟨k, hk⟩ ⟨b, hb⟩ (e.symm.trans hx)
    exact congrArg Fin.val this))).1
  have ge := rWrd_ge L (wl b) p
  have after : ∀ r i f, i + r = 5 → b < i → p ≤ f → mWd L p r i f = (-1, f) := by
    intro r
    induction r with
    | zero => intro i f _ _ _; rfl
    | succ r ih =>
      intro i f hi hbi hf
      have e : mWd L p (r + 1) i f = if (rWrd L (wl i) p).1 = true then (nI i, (rWrd L (wl i) p).2) else mWd L p r (i + 1) (max f (rWrd L (wl i) p).2) := rfl
      rw [e, hk i (by omega) (by omega), if_neg Bool.false_ne_true, Nat.max_eq_left hf]
      exact ih (i + 1) f (by omega) (by omega) hf
  have key : ∀ r i, i + r = 5 → i ≤ b → mWd L p r i p = if (rWrd L (wl b) p).1 = true then (nI b, (rWrd L (wl b) p).2) else (-1, (rWrd L (wl b) p).2) := by
    intro r
    induction r with
    | zero => intro i hi hb2; omega
    | succ r ih =>
      intro i hi hib
      have e : mWd L p (r + 1) i p = if (rWrd L (wl i) p).1 = true then (nI i, (rWrd L (wl i) p).2) else mWd L p r (i + 1) (max p (rWrd L (wl i) p).2) := rfl
      by_cases hib2 : i = b
      · rw [e, hib2]
        by_cases ho : (rWrd L (wl b) p).1 = true
        · rw [if_pos ho, if_pos ho]
        · rw [if_neg ho, if_neg ho, Nat.max_eq_right ge]
          exact after r (b + 1) _ (by omega) (by omega) ge
      · rw [e, hk i (by omega) hib2, if_neg Bool.false_ne_true, Nat.max_self]
        exact ih (i + 1) (by omega) (by omega)
  exact key 5 0 rfl (Nat.zero_le _)
theorem rWrd_app {L : Nat → Int32} (c : Int32) : ∀ cs p, rWrd L (cs ++ [c]) p = if (rWrd L cs p).1 = true then (if L (rWrd L cs p).2 = c then (true, (rWrd L cs p).2 + 1) else (false, (rWrd L cs p).2)) else rWrd L cs p := by
  intro cs
  induction cs with
  | nil => intro p; rfl
  | cons a cs ih =>
    intro p
    have e1 : rWrd L ((a :: cs) ++ [c]) p = if L p = a then rWrd L (cs ++ [c]) (p + 1) else (false, p) := rfl
    have e2 : rWrd L (a :: cs) p = if L p = a then rWrd L cs (p + 1) else (false, p) := rfl
    rw [e1, e2]
    by_cases h : L p = a
    · rw [if_pos h, if_pos h]
      exact ih (p + 1)
    · rw [if_neg h, if_neg h, if_neg Bool.false_ne_true]
