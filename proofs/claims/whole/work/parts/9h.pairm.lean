def wl (i : Nat) : List Int32 := rStr (2000 + i) ++ [32]
def off (i : Nat) : Nat := ([0, 8, 15, 24, 31] : List Nat).getD i 40
def zc : Nat → Nat
  | 0 => 0
  | c + 1 => zc c + if zWd c = 0 then 1 else 0
theorem wl_a : ∀ i : Fin 5, (wl i.1).length ≤ 8 ∧ off i.1 + (wl i.1).length + 1 = off (i.1 + 1) ∧ zWd (off i.1 + (wl i.1).length) = 0 ∧ (wl i.1).length = (rStr (2000 + i.1)).length + 1 ∧ zc (off i.1) = i.1 := by decide +kernel
theorem wl_b : ∀ i : Fin 5, ∀ k : Fin 9, k.1 < (wl i.1).length → (zWd (off i.1 + k.1) = (wl i.1).getD k.1 0 ∧ ¬ zWd (off i.1 + k.1) = 0) := by decide +kernel
theorem wl_c : ∀ i : Fin 5, ∀ k : Fin 9, k.1 < (rStr (2000 + i.1)).length → (zWd (off i.1 + k.1) = (rStr (2000 + i.1)).getD k.1 0 ∧ 32 < zWd (off i.1 + k.1)) := by decide +kernel
theorem wl_d : ∀ i : Fin 5, zWd (off i.1 + (rStr (2000 + i.1)).length) = 32 := by decide +kernel
theorem wl_e : ∀ i : Fin 5, ∀ c : Fin 32, c.1 < off i.1 → zc c.1 < i.1 := by decide +kernel
theorem off_40 {i : Nat} (hi : i < 5) : off (i + 1) ≤ 40 := by
  rcases (by omega : i = 0 ∨ i = 1 ∨ i = 2 ∨ i = 3 ∨ i = 4) with rfl | rfl | rfl | rfl | rfl <;> decide
theorem drop_c {l : List Int32} {k : Nat} {c : Int32} {cs : List Int32} (h : l.drop k = c :: cs) : k < l.length ∧ l.getD k 0 = c ∧ l.drop (k + 1) = cs := by
  have hk : k < l.length := by
    rcases Nat.lt_or_ge k l.length with g | g
    · exact g
    · rw [List.drop_eq_nil_of_le g] at h
      cases h
  rw [List.drop_eq_getElem_cons hk] at h
  injection h with h1 h2
  refine ⟨hk, ?_, h2⟩
  rw [List.getD_eq_getElem?_getD, List.getElem?_eq_getElem hk]
  exact h1
theorem drop_n {l : List Int32} {k : Nat} (h : l.drop k = []) (hk : k ≤ l.length) : k = l.length := by
  have := List.drop_eq_nil_iff.mp h
  omega
theorem rWrd_ge (L : Nat → Int32) : ∀ cs q, q ≤ (rWrd L cs q).2 := by
  intro cs
  induction cs with
  | nil => intro q; exact Nat.le_refl _
  | cons c cs ih =>
    intro q
    show q ≤ (if L q = c then rWrd L cs (q + 1) else (false, q)).2
    by_cases h : L q = c
    · rw [if_pos h]
      have := ih (q + 1)
      omega
    · rw [if_neg h]; exact Nat.le_refl _
theorem rWrd_lt {L : Nat → Int32} : ∀ cs q, (rWrd L cs q).1 = false → (rWrd L cs q).2 < q + cs.length := by
  intro cs
  induction cs with
  | nil => intro q h; cases h
  | cons c cs ih =>
    intro q h
    have e : rWrd L (c :: cs) q = if L q = c then rWrd L cs (q + 1) else (false, q) := rfl
    rw [e] at h ⊢
    by_cases hc : L q = c
    · rw [if_pos hc] at h ⊢
      have := ih (q + 1) h
      rw [List.length_cons]
      omega
    · rw [if_neg hc]
      rw [List.length_cons]
      show q < _
      omega
section QA
variable {d n m j z p : Nat} {w w1 w2 X : zM} {L : Nat → Int32}
theorem m_w_in (E : mE X j z p L) {i : Nat} {o1 o2 : Int32} (hi : i < 5) : ∀ cs k q, (wl i).drop k = cs → k ≤ (wl i).length → q + cs.length < 1000 → den d 6031 23 [some (.ref 50), some (.int o1), some (.int o2), some (.int (nI i)), some (.int (nI q)), some (.int (nI (off i + k)))] [] X = den d 6031 74 [some (.ref 50), some (.int o1), some (.int o2), some (.int (nI i)), some (.int (nI (rWrd L cs q).2)), some (.int (nI (off i + k + ((rWrd L cs q).2 - q))))] [] X := by
  obtain ⟨e1, e2, e3, e4, e5, e6, e7, e8⟩ := E
  have h40 := off_40 hi
  obtain ⟨a1, a2, a3, a4, -⟩ := wl_a ⟨i, hi⟩
  dsimp only at a1 a2 a3 a4
  intro cs
  induction cs with
  | nil =>
    intro k q hk hk2 hq
    have e := drop_n hk hk2
    rw [e]
    have hz := zis_nI (j := off i + (wl i).length) (n := 40) (by omega) (by decide)
    have hc := nI_clamp (n := off i + (wl i).length) (by omega)
    have v := (e8 (off i + (wl i).length) (by omega)).trans a3
    have er : rWrd L [] q = (true, q) := rfl
    rw [er, e_6031_23 zisR_r]
    simp only [e_6031_24, e_6031_27, e_6031_29, e_6031_30, zk_int, zk_ref, zk_null, zk_none, zk_long, zisR_r, zisR_n, zcl_int, zcl_ref, zcl_null, zpush_s, zpush_n, zbs, zbn, true_or, or_true, not_false_eq_true, not_true_eq_false, ↓reduceIte, and_self, and_true, true_and, zt_50, zr_50_27, zt_70, zn_70, zo_70, zl_70, zq_70, hz, hc, v, Nat.sub_self, Nat.add_zero]
  | cons c cs ih =>
    intro k q hk hk2 hq
    obtain ⟨g1, g2, g3⟩ := drop_c hk
    have b := wl_b ⟨i, hi⟩ ⟨k, by omega⟩ g1
    dsimp only at b
    rw [g2] at b
    have hz := zis_nI (j := off i + k) (n := 40) (by omega) (by decide)
    have hc := nI_clamp (n := off i + k) (by omega)
    have v := (e8 (off i + k) (by omega)).trans b.1
    have v0 : (c = 0) = False := eq_false (by rw [← b.1]; exact b.2)
    have er : rWrd L (c :: cs) q = if L q = c then rWrd L cs (q + 1) else (false, q) := rfl
    rw [List.length_cons] at hq
    by_cases hqz : q < z
    · have l1 := nI_ge_f hqz (by omega)
      have hz2 := zis_nI (j := 160 * j + q) (n := 1280) (by omega) (by decide)
      have hc2 := nI_clamp (n := 160 * j + q) (by omega)
      have v2 := e4 q hqz
      by_cases hl : L q = c
      · rw [if_pos hl] at er
        have h := ih (k + 1) (q + 1) g3 (by omega) (by omega)
        have ge := rWrd_ge L cs (q + 1)
        have e9 : off i + (k + 1) + ((rWrd L cs (q + 1)).2 - (q + 1)) = off i + k + ((rWrd L cs (q + 1)).2 - q) := by omega
        rw [e9] at h
        rw [er, ← h, e_6031_23 zisR_r]
        have hl' : (L q = c) = True := eq_true hl
        simp only [c_6031, e_6031_0, e_6031_1, e_6031_2, e_6031_3, e_6031_6, e_6031_7, e_6031_8, e_6031_10, e_6031_11, e_6031_14, e_6031_15, e_6031_18, e_6031_20, e_6031_21, e_6031_24, e_6031_27, e_6031_29, e_6031_30, e_6031_33, e_6031_35, e_6031_36, e_6031_39, e_6031_42, e_6031_43, e_6031_46, e_6031_47, e_6031_50, e_6031_52, e_6031_53, e_6031_54, e_6031_55, e_6031_56, e_6031_59, e_6031_61, e_6031_62, e_6031_65, e_6031_68, e_6031_71, e_6031_75, e_6031_78, e_6031_80, e_6031_81, e_6031_84, e_6031_85, e_6031_87, e_6031_90, e_6031_91, e_6031_92, e_6031_94, e_6031_95, e_6031_98, e_6031_100, e_6031_103, e_6031_104, e_6031_106, e_6031_109, e_6031_110, e_6031_111, e_6031_114, e_6031_117, e_6031_120, e_6031_123, e_6031_126, e_6031_129, e_6031_130, e_6031_131, e_6031_134, e_6031_135, zk_int, zk_ref, zk_null, zk_none, zk_long, zisR_r, zisR_n, zcl_int, zcl_ref, zcl_null, zpush_s, zpush_n, zbs, zbn, true_or, or_true, not_false_eq_true, not_true_eq_false, ↓reduceIte, and_self, and_true, true_and, zt_50, zr_50_27, zt_70, zn_70, zo_70, zl_70, zq_70, zr_50_25, zt_68, zn_68, zq_68, e1, e3, hz, hc, v, v0, l1, nI_add, hz2, hc2, v2, hl', nI_1]
        rfl
      · rw [if_neg hl] at er
        rw [er, e_6031_23 zisR_r]
        simp only [c_6031, e_6031_0, e_6031_1, e_6031_2, e_6031_3, e_6031_6, e_6031_7, e_6031_8, e_6031_10, e_6031_11, e_6031_14, e_6031_15, e_6031_18, e_6031_20, e_6031_21, e_6031_24, e_6031_27, e_6031_29, e_6031_30, e_6031_33, e_6031_35, e_6031_36, e_6031_39, e_6031_42, e_6031_43, e_6031_46, e_6031_47, e_6031_50, e_6031_52, e_6031_53, e_6031_54, e_6031_55, e_6031_56, e_6031_59, e_6031_61, e_6031_62, e_6031_65, e_6031_68, e_6031_71, e_6031_75, e_6031_78, e_6031_80, e_6031_81, e_6031_84, e_6031_85, e_6031_87, e_6031_90, e_6031_91, e_6031_92, e_6031_94, e_6031_95, e_6031_98, e_6031_100, e_6031_103, e_6031_104, e_6031_106, e_6031_109, e_6031_110, e_6031_111, e_6031_114, e_6031_117, e_6031_120, e_6031_123, e_6031_126, e_6031_129, e_6031_130, e_6031_131, e_6031_134, e_6031_135, zk_int, zk_ref, zk_null, zk_none, zk_long, zisR_r, zisR_n, zcl_int, zcl_ref, zcl_null, zpush_s, zpush_n, zbs, zbn, true_or, or_true, not_false_eq_true, not_true_eq_false, ↓reduceIte, and_self, and_true, true_and, zt_50, zr_50_27, zt_70, zn_70, zo_70, zl_70, zq_70, zr_50_25, zt_68, zn_68, zq_68, e1, e3, hz, hc, v, v0, l1, nI_add, hz2, hc2, v2, hl, Nat.sub_self, Nat.add_zero]
    · have l1 := nI_le_n (a := z) (b := q) (by omega) (by omega)
      have hl : ¬ L q = c := fun h => by
        rw [e5 q (by omega)] at h
        exact b.2 (by rw [b.1, ← h])
      rw [if_neg hl] at er
      rw [er, e_6031_23 zisR_r]
      simp only [c_6031, e_6031_0, e_6031_1, e_6031_2, e_6031_3, e_6031_6, e_6031_7, e_6031_8, e_6031_10, e_6031_11, e_6031_14, e_6031_15, e_6031_18, e_6031_20, e_6031_21, e_6031_24, e_6031_27, e_6031_29, e_6031_30, e_6031_33, e_6031_35, e_6031_36, e_6031_39, e_6031_42, e_6031_43, e_6031_46, e_6031_47, e_6031_50, e_6031_52, e_6031_53, e_6031_54, e_6031_55, e_6031_56, e_6031_59, e_6031_61, e_6031_62, e_6031_65, e_6031_68, e_6031_71, e_6031_75, e_6031_78, e_6031_80, e_6031_81, e_6031_84, e_6031_85, e_6031_87, e_6031_90, e_6031_91, e_6031_92, e_6031_94, e_6031_95, e_6031_98, e_6031_100, e_6031_103, e_6031_104, e_6031_106, e_6031_109, e_6031_110, e_6031_111, e_6031_114, e_6031_117, e_6031_120, e_6031_123, e_6031_126, e_6031_129, e_6031_130, e_6031_131, e_6031_134, e_6031_135, zk_int, zk_ref, zk_null, zk_none, zk_long, zisR_r, zisR_n, zcl_int, zcl_ref, zcl_null, zpush_s, zpush_n, zbs, zbn, true_or, or_true, not_false_eq_true, not_true_eq_false, ↓reduceIte, and_self, and_true, true_and, zt_50, zr_50_27, zt_70, zn_70, zo_70, zl_70, zq_70, zr_50_25, zt_68, zn_68, zq_68, e3, hz, hc, v, v0, l1, Nat.sub_self, Nat.add_zero]
theorem m_w_sk (E : mE X j z p L) {i : Nat} {o2 o4 o5 : Int32} (hi : i < 5) : ∀ r k, k + r = (wl i).length → den d 6031 105 [some (.ref 50), some (.int (nI (off i + k))), some (.int o2), some (.int (nI i)), some (.int o4), some (.int o5)] [] X = den d 6031 9 [some (.ref 50), some (.int (nI (off (i + 1)))), some (.int o2), some (.int (nI (i + 1))), some (.int o4), some (.int o5)] [] X := by
  obtain ⟨e1, e2, e3, e4, e5, e6, e7, e8⟩ := E
  have h40 := off_40 hi
  obtain ⟨a1, a2, a3, a4, -⟩ := wl_a ⟨i, hi⟩
  dsimp only at a1 a2 a3 a4
  intro r
  induction r with
  | zero =>
    intro k hk
    have e : k = (wl i).length := by omega
    rw [e]
    have hz := zis_nI (j := off i + (wl i).length) (n := 40) (by omega) (by decide)
    have hc := nI_clamp (n := off i + (wl i).length) (by omega)
    have v := (e8 (off i + (wl i).length) (by omega)).trans a3
    rw [e_6031_105 zisR_r]
    simp only [e_6031_106, e_6031_109, e_6031_110, e_6031_111, e_6031_120, e_6031_123, e_6031_126, zk_int, zk_ref, zk_null, zk_none, zk_long, zisR_r, zisR_n, zcl_int, zcl_ref, zcl_null, zpush_s, zpush_n, zbs, zbn, true_or, or_true, not_false_eq_true, not_true_eq_false, ↓reduceIte, and_self, and_true, true_and, zt_50, zr_50_27, zt_70, zn_70, zo_70, zl_70, zq_70, hz, hc, v, nI_1, a2]
  | succ r ih =>
    intro k hk
    have b := wl_b ⟨i, hi⟩ ⟨k, by omega⟩ (by show k < (wl i).length; omega)
    dsimp only at b
    have hz := zis_nI (j := off i + k) (n := 40) (by omega) (by decide)
    have hc := nI_clamp (n := off i + k) (by omega)
    have v0 : (X.1 70 (off i + k) = 0) = False := eq_false (by rw [e8 (off i + k) (by omega)]; exact b.2)
    rw [← ih (k + 1) (by omega), e_6031_105 zisR_r]
    simp only [e_6031_106, e_6031_109, e_6031_110, e_6031_111, e_6031_114, e_6031_117, zk_int, zk_ref, zk_null, zk_none, zk_long, zisR_r, zisR_n, zcl_int, zcl_ref, zcl_null, zpush_s, zpush_n, zbs, zbn, true_or, or_true, not_false_eq_true, not_true_eq_false, ↓reduceIte, and_self, and_true, true_and, zt_50, zr_50_27, zt_70, zn_70, zo_70, zl_70, zq_70, hz, hc, v0, nI_1]
    rfl
def mWd (L : Nat → Int32) (p : Nat) : Nat → Nat → Nat → Int32 × Nat
  | 0, _, f => (-1, f)
  | r + 1, i, f => if (rWrd L (wl i) p).1 = true then (nI i, (rWrd L (wl i) p).2) else mWd L p r (i + 1) (max f (rWrd L (wl i) p).2)
theorem m_w_l (E : mE X j z p L) (hp : p < 900) : ∀ r i f o4 o5, i + r = 5 → f < 1000 → den d 6031 9 [some (.ref 50), some (.int (nI (off i))), some (.int (nI f)), some (.int (nI i)), o4, o5] [] X = some (some (.int (mWd L p r i f).1), if (mWd L p r i f).1 = -1 then zui X 50 33 (nI (mWd L p r i f).2) else zui X 50 30 (nI (mWd L p r i f).2)) := by
  have e30 := E.2.1
  intro r
  induction r with
  | zero =>
    intro i f o4 o5 hr hf
    have e : i = 5 := by omega
    subst e
    have g1 : ((5 : Int32) ≤ nI 5) = True := eq_true (by decide)
    have e0 : mWd L p 0 5 f = (-1, f) := rfl
    rw [e0, if_pos rfl, e_6031_9]
    simp only [e_6031_10, e_6031_11, e_6031_129, e_6031_130, e_6031_131, e_6031_134, e_6031_135, zk_int, zk_ref, zk_null, zk_none, zk_long, zisR_r, zisR_n, zcl_int, zcl_ref, zcl_null, zpush_s, zpush_n, zbs, zbn, true_or, or_true, not_false_eq_true, not_true_eq_false, ↓reduceIte, and_self, and_true, true_and, zt_50, g1]
  | succ r ih =>
    intro i f o4 o5 hr hf
    have hi : i < 5 := by omega
    have h40 := off_40 hi
    obtain ⟨a1, a2, a3, a4, -⟩ := wl_a ⟨i, hi⟩
    dsimp only at a1 a2 a3 a4
    have g1 : ((5 : Int32) ≤ nI i) = False := nI_ge_f (b := 5) hi (by decide)
    have q1 := m_w_in (d := d) (o1 := nI (off i)) (o2 := nI f) E hi (wl i) 0 p rfl (by omega) (by omega)
    have bb := rWrd_b L (wl i) p
    have ge := rWrd_ge L (wl i) p
    have key : den d 6031 9 [some (.ref 50), some (.int (nI (off i))), some (.int (nI f)), some (.int (nI i)), o4, o5] [] X = den d 6031 74 [some (.ref 50), some (.int (nI (off i))), some (.int (nI f)), some (.int (nI i)), some (.int (nI (rWrd L (wl i) p).2)), some (.int (nI (off i + 0 + ((rWrd L (wl i) p).2 - p))))] [] X := by
      rw [← q1, e_6031_9]
      simp only [e_6031_10, e_6031_11, e_6031_14, e_6031_15, e_6031_18, e_6031_20, e_6031_21, zk_int, zk_ref, zk_null, zk_none, zk_long, zisR_r, zisR_n, zcl_int, zcl_ref, zcl_null, zpush_s, zpush_n, zbs, zbn, true_or, or_true, not_false_eq_true, not_true_eq_false, ↓reduceIte, and_self, and_true, true_and, zt_50, g1, e30, Nat.add_zero]
    rw [key, Nat.add_zero]
    have hz := zis_nI (j := off i + ((rWrd L (wl i) p).2 - p)) (n := 40) (by omega) (by decide)
    have hc := nI_clamp (n := off i + ((rWrd L (wl i) p).2 - p)) (by omega)
    obtain ⟨e1, e2, e3, e4, e5, e6, e7, e8⟩ := id E
    by_cases ho : (rWrd L (wl i) p).1 = true
    · have e : mWd L p (r + 1) i f = (nI i, (rWrd L (wl i) p).2) := if_pos ho
      have en := rWrd_ok (wl i) p ho
      have ev : off i + ((rWrd L (wl i) p).2 - p) = off i + (wl i).length := by omega
      have v : X.1 70 (off i + ((rWrd L (wl i) p).2 - p)) = 0 := by
        rw [e8 _ (by omega), ev]
        exact a3
      rw [e, if_neg (nI_neN (by omega)), e_6031_74 zisR_r]
      simp only [e_6031_75, e_6031_78, e_6031_80, e_6031_81, e_6031_84, e_6031_85, e_6031_87, e_6031_90, e_6031_91, zk_int, zk_ref, zk_null, zk_none, zk_long, zisR_r, zisR_n, zcl_int, zcl_ref, zcl_null, zpush_s, zpush_n, zbs, zbn, true_or, or_true, not_false_eq_true, not_true_eq_false, ↓reduceIte, and_self, and_true, true_and, zt_50, zr_50_27, zt_70, zn_70, zo_70, zl_70, zq_70, hz, hc, v]
    · have hf' : (rWrd L (wl i) p).1 = false := by cases h : (rWrd L (wl i) p).1 with
        | true => exact absurd h ho
        | false => rfl
      have lt := rWrd_lt (wl i) p hf'
      have e : mWd L p (r + 1) i f = mWd L p r (i + 1) (max f (rWrd L (wl i) p).2) := if_neg ho
      have b := wl_b ⟨i, hi⟩ ⟨(rWrd L (wl i) p).2 - p, by omega⟩ (by show (rWrd L (wl i) p).2 - p < (wl i).length; omega)
      dsimp only at b
      have v0 : (X.1 70 (off i + ((rWrd L (wl i) p).2 - p)) = 0) = False := eq_false (by rw [e8 _ (by omega)]; exact b.2)
      have sk := m_w_sk (d := d) (o2 := nI (max f (rWrd L (wl i) p).2)) (o4 := nI (rWrd L (wl i) p).2) (o5 := nI (off i + ((rWrd L (wl i) p).2 - p))) E hi (wl i).length 0 (by omega)
      have h := ih (i + 1) (max f (rWrd L (wl i) p).2) (some (.int (nI (rWrd L (wl i) p).2))) (some (.int (nI (off i + ((rWrd L (wl i) p).2 - p))))) (by omega) (by omega)
      rw [e, ← h, ← sk, e_6031_74 zisR_r]
      by_cases hm : (rWrd L (wl i) p).2 ≤ f
      · have l1 := nI_le_n hm (by omega)
        have em : max f (rWrd L (wl i) p).2 = f := by omega
        rw [em]
        simp only [e_6031_75, e_6031_78, e_6031_80, e_6031_81, e_6031_92, e_6031_94, e_6031_95, e_6031_98, e_6031_100, e_6031_103, e_6031_104, zk_int, zk_ref, zk_null, zk_none, zk_long, zisR_r, zisR_n, zcl_int, zcl_ref, zcl_null, zpush_s, zpush_n, zbs, zbn, true_or, or_true, not_false_eq_true, not_true_eq_false, ↓reduceIte, and_self, and_true, true_and, zt_50, zr_50_27, zt_70, zn_70, zo_70, zl_70, zq_70, hz, hc, v0, l1, Nat.add_zero]
      · have l1 := nI_ge_f (a := f) (b := (rWrd L (wl i) p).2) (by omega) (by omega)
        have em : max f (rWrd L (wl i) p).2 = (rWrd L (wl i) p).2 := by omega
        rw [em]
        simp only [e_6031_75, e_6031_78, e_6031_80, e_6031_81, e_6031_92, e_6031_94, e_6031_95, e_6031_98, e_6031_100, e_6031_103, e_6031_104, zk_int, zk_ref, zk_null, zk_none, zk_long, zisR_r, zisR_n, zcl_int, zcl_ref, zcl_null, zpush_s, zpush_n, zbs, zbn, true_or, or_true, not_false_eq_true, not_true_eq_false, ↓reduceIte, and_self, and_true, true_and, zt_50, zr_50_27, zt_70, zn_70, zo_70, zl_70, zq_70, hz, hc, v0, l1, Nat.add_zero]
theorem m_word (E : mE X j z p L) (hp : p < 900) : cal d 6031 [.ref 50] X = some (some (.int (mWd L p 5 0 p).1), if (mWd L p 5 0 p).1 = -1 then zui X 50 33 (nI (mWd L p 5 0 p).2) else zui X 50 30 (nI (mWd L p 5 0 p).2)) := by
  have e30 := E.2.1
  have l := m_w_l (d := d) E hp 5 0 p none none rfl (by omega)
  rw [← l]
  have o0 : nI (off 0) = 0 := rfl
  rw [o0, nI_0]
  simp only [c_6031, e_6031_0, e_6031_1, e_6031_2, e_6031_3, e_6031_6, e_6031_7, e_6031_8, zk_int, zk_ref, zk_null, zk_none, zk_long, zisR_r, zisR_n, zcl_int, zcl_ref, zcl_null, zpush_s, zpush_n, zbs, zbn, true_or, or_true, not_false_eq_true, not_true_eq_false, ↓reduceIte, and_self, and_true, true_and, zt_50, e30]
end QA
