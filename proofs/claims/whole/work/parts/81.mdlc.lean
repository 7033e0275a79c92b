section MO
variable {d n m : Nat} {w : zM} {T V G : Nat → Int32}
theorem tLf_fd {ev : Int32} {s : zSt4} (h : s.2.1 = 0 ∨ s.2.1 = 1) : (tLf n m ev T V G s).2.1 = 0 ∨ (tLf n m ev T V G s).2.1 = 1 := by
  unfold tLf
  split
  · exact h
  · exact Or.inr rfl
theorem tLf_1 {ev : Int32} {s : zSt4} : (tLf n m ev T V G s).1 = s.1 := by
  unfold tLf
  split <;> rfl
theorem tF_k {k ev : Int32} : ∀ q t (s : zSt4), t + q = n → (s.2.1 = 0 ∨ s.2.1 = 1) → ((tF n m k ev T V G q t s).2.1 = 0 ∨ (tF n m k ev T V G q t s).2.1 = 1) ∧ ∀ i, (i < t ∨ n ≤ i) → (tF n m k ev T V G q t s).1 i = s.1 i := by
  intro q
  induction q with
  | zero =>
    intro t s ht h
    exact ⟨tLf_fd h, fun i _ => by rw [show tF n m k ev T V G 0 t s = tLf n m ev T V G s from rfl, tLf_1]⟩
  | succ q ih =>
    intro t s ht h
    refine zfoldl_P (f := fun s y => if k ≤ nI (tCn s.1 y t) then s else tF n m k ev T V G q (t + 1) (upd s.1 t (nI y), s.2)) (fun z : zSt4 => (z.2.1 = 0 ∨ z.2.1 = 1) ∧ ∀ i, (i < t ∨ n ≤ i) → z.1 i = s.1 i) ⟨h, fun _ _ => rfl⟩ ?_ m
    intro z y ⟨hz1, hz2⟩
    by_cases c : k ≤ nI (tCn z.1 y t)
    · rw [if_pos c]
      exact ⟨hz1, hz2⟩
    · rw [if_neg c]
      obtain ⟨a, b⟩ := ih (t + 1) (upd z.1 t (nI y), z.2) (by omega) hz1
      refine ⟨a, fun i hi => ?_⟩
      rw [b i (by omega)]
      show upd z.1 t (nI y) i = _
      rw [u_ne (by omega)]
      exact hz2 i hi
theorem m_tr_l {s : zSt4} {k ev : Int32} (C : zMc w T V G n m) (h1 : ∀ i, i < n → ∃ y, y < m ∧ s.1 i = nI y) (h2 : ∀ i, n ≤ i → s.1 i = w.1 56 i) (h3 : s.2.1 = 0 ∨ s.2.1 = 1) (hev : ev = 0 ∨ ev = 1) : cal (d + 21) 6071 [.ref 50, .int (nI n), .int k, .int ev] (TW w s) = some (none, TW w (tLf n m ev T V G s)) := by
  have hn8 := C.2.1.2.2.1
  have CT := TW_C C h1 h2
  have q1 := m_spread (d := d + 1) CT
  have q2 := m_allGiven (d := d + 2) CT
  have c0 := C.2.1.1
  have kp := fun v => m_tr_k (d := d + 21) (w := w) (s := (s.1, 1, v, s.2.2.2)) (t := nI n) (v := v) (k := k) (ev := ev) (o6 := none)
  have z1 : (1 : Int32) = 0 ∨ (1 : Int32) = 1 := Or.inr rfl
  have u1 : ∀ v, zuA (TW w (s.1, 1, s.2.2)) 50 (upd ((TW w (s.1, 1, s.2.2)).1 50) 41 v) = TW w (s.1, 1, v, s.2.2.2) := fun v => TW_ubt _ _
  have main : ∀ v, v = tVal n m ev T V G s.1 → den (d + 21) 6071 26 [some (.ref 50), some (.int (nI n)), some (.int k), some (.int ev), some (.int v), none, none] [] (TW w s) = some (none, TW w (tLf n m ev T V G s)) := by
    intro v hv
    subst hv
    unfold tLf
    by_cases f : s.2.1 = 0
    · rw [if_neg (fun h => h.1 f)]
      simp only [e_6071_26, e_6071_27, e_6071_30, e_6071_43, e_6071_44, e_6071_45, e_6071_48, e_6071_49, e_6071_51, e_6071_54, e_6071_55, zk_int, zk_ref, zk_null, zk_none, zk_long, zisR_r, zisR_n, zcl_int, zcl_ref, zcl_null, zpush_s, zpush_n, zbs, zbn, true_or, or_true, not_false_eq_true, not_true_eq_false, ↓reduceIte, and_self, and_true, true_and, zt_50, TW_fd, f, z1, zui_A, TW_ufd, u1, kp]
    · by_cases g : tVal n m ev T V G s.1 ≤ s.2.2.1
      · rw [if_pos ⟨f, g⟩]
        have g' : (s.2.2.1 < tVal n m ev T V G s.1) = False := eq_false (Int32.not_lt.mpr g)
        simp only [e_6071_26, e_6071_27, e_6071_30, e_6071_33, e_6071_35, e_6071_36, e_6071_39, e_6071_42, zk_int, zk_ref, zk_null, zk_none, zk_long, zisR_r, zisR_n, zcl_int, zcl_ref, zcl_null, zpush_s, zpush_n, zbs, zbn, true_or, or_true, not_false_eq_true, not_true_eq_false, ↓reduceIte, and_self, and_true, true_and, zt_50, TW_fd, TW_bt, f, g']
      · rw [if_neg (fun h => g h.2)]
        have g' : (s.2.2.1 < tVal n m ev T V G s.1) = True := eq_true (Int32.not_le.mp g)
        simp only [e_6071_26, e_6071_27, e_6071_30, e_6071_33, e_6071_35, e_6071_36, e_6071_39, e_6071_43, e_6071_44, e_6071_45, e_6071_48, e_6071_49, e_6071_51, e_6071_54, e_6071_55, zk_int, zk_ref, zk_null, zk_none, zk_long, zisR_r, zisR_n, zcl_int, zcl_ref, zcl_null, zpush_s, zpush_n, zbs, zbn, true_or, or_true, not_false_eq_true, not_true_eq_false, ↓reduceIte, and_self, and_true, true_and, zt_50, TW_fd, TW_bt, f, g', z1, zui_A, TW_ufd, u1, kp]
  rcases hev with rfl | rfl
  · have mv := main _ (show zsum (sGv (sTs T s.1 n) V G) n = tVal n m 0 T V G s.1 from rfl)
    simp only [c_6071, e_6071_0, e_6071_1, e_6071_2, e_6071_5, e_6071_8, e_6071_9, e_6071_20, e_6071_21, e_6071_24, zk_int, zk_ref, zk_null, zk_none, zk_long, zisR_r, zisR_n, zcl_int, zcl_ref, zcl_null, zpush_s, zpush_n, zbs, zbn, true_or, or_true, not_false_eq_true, not_true_eq_false, ↓reduceIte, and_self, and_true, true_and, zt_50, TW_n0, c0, q2, mv]
  · have mv := main _ (show - sSpr (sTs T s.1 n) V G n m = tVal n m 1 T V G s.1 from rfl)
    simp only [c_6071, e_6071_0, e_6071_1, e_6071_2, e_6071_5, e_6071_8, e_6071_9, e_6071_12, e_6071_13, e_6071_16, e_6071_17, e_6071_24, zk_int, zk_ref, zk_null, zk_none, zk_long, zisR_r, zisR_n, zcl_int, zcl_ref, zcl_null, zpush_s, zpush_n, zbs, zbn, true_or, or_true, not_false_eq_true, not_true_eq_false, ↓reduceIte, and_self, and_true, true_and, ie_0_1, ie_0_2, ie_0_3, ie_0_4, ie_0_5, ie_0_6, ie_0_7, ie_1_0, ie_1_2, ie_1_3, ie_1_4, ie_1_5, ie_1_6, ie_1_7, ie_2_0, ie_2_1, ie_2_3, ie_2_4, ie_2_5, ie_2_6, ie_2_7, ie_3_0, ie_3_1, ie_3_2, ie_3_4, ie_3_5, ie_3_6, ie_3_7, ie_4_0, ie_4_1, ie_4_2, ie_4_3, ie_4_5, ie_4_6, ie_4_7, ie_5_0, ie_5_1, ie_5_2, ie_5_3, ie_5_4, ie_5_6, ie_5_7, ie_6_0, ie_6_1, ie_6_2, ie_6_3, ie_6_4, ie_6_5, ie_6_7, ie_7_0, ie_7_1, ie_7_2, ie_7_3, ie_7_4, ie_7_5, ie_7_6, zt_50, TW_n0, c0, q1, mv]
theorem m_tries {k ev : Int32} (C : zMc w T V G n m) (hev : ev = 0 ∨ ev = 1) : ∀ q t s, t + q = n → (∀ i, i < t → ∃ y, y < m ∧ s.1 i = nI y) → (∀ i, n ≤ i → s.1 i = w.1 56 i) → (s.2.1 = 0 ∨ s.2.1 = 1) → cal (d + 21 + q) 6071 [.ref 50, .int (nI t), .int k, .int ev] (TW w s) = some (none, TW w (tF n m k ev T V G q t s)) := by
  have hn8 := C.2.1.2.2.1
  have hm4 := C.2.1.2.2.2
  intro q
  induction q with
  | zero =>
    intro t s ht h1 h2 h3
    have e : t = n := by omega
    subst e
    exact m_tr_l C h1 h2 h3 hev
  | succ q ih =>
    intro t s ht h1 h2 h3
    have htn : t < n := by omega
    have hne : (nI t = nI n) = False := eq_false (fun h => by have := (nI_eq (a := t) (b := n) (by omega) (by omega)).mp h; omega)
    have e1 : d + 21 + (q + 1) = d + 21 + q + 1 := by omega
    rw [e1]
    have hz := zis_nI (j := t) (n := 8) (by omega) (by decide)
    have hc := nI_clamp (n := t) (by omega)
    have key : ∀ r y o5 o6, y + r = m → den (d + 21 + q + 1) 6071 88 [some (.ref 50), some (.int (nI t)), some (.int k), some (.int ev), some (.int (nI y)), o5, o6] [] (TW w (zfoldl (fun s y => if k ≤ nI (tCn s.1 y t) then s else tF n m k ev T V G q (t + 1) (upd s.1 t (nI y), s.2)) s y)) = some (none, TW w (tF n m k ev T V G (q + 1) t s)) := by
      intro r
      induction r with
      | zero =>
        intro y o5 o6 hy
        have e : y = m := by omega
        subst e
        have g1 := nI_le_n (Nat.le_refl y) (by omega)
        rw [e_6071_88]
        simp only [e_6071_90, e_6071_91, e_6071_94, e_6071_162, zk_int, zk_ref, zk_null, zk_none, zk_long, zisR_r, zisR_n, zcl_int, zcl_ref, zcl_null, zpush_s, zpush_n, zbs, zbn, true_or, or_true, not_false_eq_true, not_true_eq_false, ↓reduceIte, and_self, and_true, true_and, zt_50, TW_n1, C.2.1.2.1, g1]
        rfl
      | succ r ihr =>
        intro y o5 o6 hy
        have hym : y < m := by omega
        have g1 := nI_ge_f hym (by omega)
        have P := zfoldl_P (f := fun s y => if k ≤ nI (tCn s.1 y t) then s else tF n m k ev T V G q (t + 1) (upd s.1 t (nI y), s.2)) (s := s) (fun z : zSt4 => (z.2.1 = 0 ∨ z.2.1 = 1) ∧ ∀ i, (i < t ∨ n ≤ i) → z.1 i = s.1 i) ⟨h3, fun _ _ => rfl⟩ (by
          intro z y ⟨hz1, hz2⟩
          by_cases c : k ≤ nI (tCn z.1 y t)
          · rw [if_pos c]
            exact ⟨hz1, hz2⟩
          · rw [if_neg c]
            obtain ⟨a, b⟩ := tF_k (n := n) (m := m) (k := k) (ev := ev) (T := T) (V := V) (G := G) q (t + 1) (upd z.1 t (nI y), z.2) (by omega) hz1
            refine ⟨a, fun i hi => ?_⟩
            rw [b i (by omega)]
            show upd z.1 t (nI y) i = _
            rw [u_ne (by omega)]
            exact hz2 i hi) y
        have st : zfoldl (fun s y => if k ≤ nI (tCn s.1 y t) then s else tF n m k ev T V G q (t + 1) (upd s.1 t (nI y), s.2)) s (y + 1) = (if k ≤ nI (tCn (zfoldl (fun s y => if k ≤ nI (tCn s.1 y t) then s else tF n m k ev T V G q (t + 1) (upd s.1 t (nI y), s.2)) s y).1 y t) then (zfoldl (fun s y => if k ≤ nI (tCn s.1 y t) then s else tF n m k ev T V G q (t + 1) (upd s.1 t (nI y), s.2)) s y) else tF n m k ev T V G q (t + 1) (upd (zfoldl (fun s y => if k ≤ nI (tCn s.1 y t) then s else tF n m k ev T V G q (t + 1) (upd s.1 t (nI y), s.2)) s y).1 t (nI y), (zfoldl (fun s y => if k ≤ nI (tCn s.1 y t) then s else tF n m k ev T V G q (t + 1) (upd s.1 t (nI y), s.2)) s y).2)) := rfl
        have i1 := fun o5 o6 => ihr (y + 1) o5 o6 (by omega)
        rw [st] at i1
        generalize zfoldl (fun s y => if k ≤ nI (tCn s.1 y t) then s else tF n m k ev T V G q (t + 1) (upd s.1 t (nI y), s.2)) s y = z at P i1 ⊢
        obtain ⟨p1, p2⟩ := P
        have cn := m_tr_c (d := d + 21 + q + 1) (w := w) (s := z) (t := t) (y := y) (k := k) (ev := ev) (by omega)
        rw [e_6071_88]
        by_cases c : k ≤ nI (tCn z.1 y t)
        · have c' : (nI (tCn z.1 y t) < k) = False := eq_false (Int32.not_lt.mpr c)
          rw [if_pos c] at i1
          simp only [e_6071_90, e_6071_91, e_6071_94, e_6071_97, e_6071_98, e_6071_100, e_6071_101, zk_int, zk_ref, zk_null, zk_none, zk_long, zisR_r, zisR_n, zcl_int, zcl_ref, zcl_null, zpush_s, zpush_n, zbs, zbn, true_or, or_true, not_false_eq_true, not_true_eq_false, ↓reduceIte, and_self, and_true, true_and, zt_50, TW_n1, C.2.1.2.1, g1, cn]
          simp only [e_6071_130, e_6071_132, e_6071_133, e_6071_136, e_6071_156, e_6071_159, zk_int, zk_ref, zk_null, zk_none, zk_long, zisR_r, zisR_n, zcl_int, zcl_ref, zcl_null, zpush_s, zpush_n, zbs, zbn, true_or, or_true, not_false_eq_true, not_true_eq_false, ↓reduceIte, and_self, and_true, true_and, c', nI_1]
          exact i1 _ _
        · have c' : (nI (tCn z.1 y t) < k) = True := eq_true (Int32.not_le.mp c)
          rw [if_neg c] at i1
          have rc := ih (t + 1) (upd z.1 t (nI y), z.2) (by omega) (fun i hi => by
            by_cases hit : i = t
            · exact ⟨y, hym, by rw [hit]; exact u_eq _ _ _⟩
            · obtain ⟨y2, a, b⟩ := h1 i (by omega)
              exact ⟨y2, a, by show upd z.1 t (nI y) i = _; rw [u_ne hit, p2 i (by omega), b]⟩) (fun i hi => by show upd z.1 t (nI y) i = _; rw [u_ne (by omega), p2 i (by omega), h2 i hi]) p1
          simp only [e_6071_90, e_6071_91, e_6071_94, e_6071_97, e_6071_98, e_6071_100, e_6071_101, zk_int, zk_ref, zk_null, zk_none, zk_long, zisR_r, zisR_n, zcl_int, zcl_ref, zcl_null, zpush_s, zpush_n, zbs, zbn, true_or, or_true, not_false_eq_true, not_true_eq_false, ↓reduceIte, and_self, and_true, true_and, zt_50, TW_n1, C.2.1.2.1, g1, cn]
          simp only [e_6071_130, e_6071_132, e_6071_133, e_6071_139, e_6071_140, e_6071_143, e_6071_144, e_6071_146, e_6071_147, e_6071_148, e_6071_149, e_6071_150, e_6071_151, e_6071_152, e_6071_153, e_6071_156, e_6071_159, zk_int, zk_ref, zk_null, zk_none, zk_long, zisR_r, zisR_n, zcl_int, zcl_ref, zcl_null, zpush_s, zpush_n, zbs, zbn, true_or, or_true, not_false_eq_true, not_true_eq_false, ↓reduceIte, and_self, and_true, true_and, zt_50, zr_50_13, zt_56, zn_56, zo_56, zl_56, zq_56, c', hz, hc, zui_A, TW_56, TW_u56, nI_1, rc]
          exact i1 _ _
    have k0 := key m 0 none none (by omega)
    have z0 : zfoldl (fun (s : zSt4) y => if k ≤ nI (tCn s.1 y t) then s else tF n m k ev T V G q (t + 1) (upd s.1 t (nI y), s.2)) s 0 = s := rfl
    rw [z0, nI_0] at k0
    simp only [c_6071, e_6071_0, e_6071_1, e_6071_2, e_6071_5, e_6071_85, e_6071_86, zk_int, zk_ref, zk_null, zk_none, zk_long, zisR_r, zisR_n, zcl_int, zcl_ref, zcl_null, zpush_s, zpush_n, zbs, zbn, true_or, or_true, not_false_eq_true, not_true_eq_false, ↓reduceIte, and_self, and_true, true_and, zt_50, TW_n0, C.2.1.1, hne]
    exact k0
end MO
