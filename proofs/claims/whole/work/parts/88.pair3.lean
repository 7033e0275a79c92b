def zKh (w w2 : zM) : Prop := (∀ a, (a = 0 ∨ (6 ≤ a ∧ a ≤ 9) ∨ a = 11 ∨ a = 12 ∨ (14 ≤ a ∧ a ≤ 17) ∨ (25 ≤ a ∧ a ≤ 29) ∨ (33 ≤ a ∧ a < 50) ∨ a = 51 ∨ (64 ≤ a ∧ a ≤ 68) ∨ a = 70 ∨ a = 73 ∨ a = 79 ∨ a = 998 ∨ a = 999) → w2.1 a = w.1 a) ∧ (∀ k, (k = 7 ∨ k = 46 ∨ k = 47) → w2.1 50 k = w.1 50 k) ∧ (∀ a, a ≠ 69 → w2.2 a = w.2 a)
theorem zi_n (w : zM) {a b k : Nat} {v : Int32} (h : b ≠ a) : (zui w a k v).1 b = w.1 b := by rw [zui_A, zA_n _ _ h]
theorem zi_s (w : zM) {a k : Nat} {v : Int32} : (zui w a k v).1 a = upd (w.1 a) k v := by rw [zui_A, zA_s]
theorem zi_2 (w : zM) {a k : Nat} {v : Int32} : (zui w a k v).2 = w.2 := id rfl
section PE
variable {d n m n2 m2 : Nat} {w w1 w2 : zM} {S : Nat → Int32} {L : Int32} {T V G : Nat → Int32}
theorem zKh_r (w : zM) : zKh w w := ⟨fun _ _ => rfl, fun _ _ => rfl, fun _ _ => rfl⟩
theorem zKh_t (A : zKh w w1) (B : zKh w1 w2) : zKh w w2 :=
  ⟨fun a h => (B.1 a h).trans (A.1 a h), fun k h => (B.2.1 k h).trans (A.2.1 k h), fun a h => (B.2.2 a h).trans (A.2.2 a h)⟩
theorem zKh_A {a : Nat} {f : Nat → Int32} (h : (1 ≤ a ∧ a ≤ 5) ∨ a = 10 ∨ (52 ≤ a ∧ a ≤ 63)) : zKh w (zuA w a f) :=
  ⟨fun b hb => zA_n _ _ (by omega), fun k _ => by rw [zA_n _ _ (by omega)], fun _ _ => rfl⟩
theorem zKh_i {a k : Nat} {v : Int32} (h : (1 ≤ a ∧ a ≤ 5) ∨ (52 ≤ a ∧ a ≤ 63)) : zKh w (zui w a k v) := by
  rw [zui_A]
  exact zKh_A (by omega)
theorem zKh_50 {k : Nat} {v : Int32} (h : k ≤ 6) : zKh w (zui w 50 k v) :=
  ⟨fun b hb => zi_n _ (by omega), fun j hj => by rw [zi_s, u_ne (by omega)], fun _ _ => rfl⟩
theorem zRl_h (A : zRl w S L n m) (K : zKh w w2) (a : rA w2 n2 m2) (hn : n ≤ n2) (z1 : zHz w2 1) : zRl w2 S L n2 m2 := by
  obtain ⟨_, i, s, f, t, c, o, z⟩ := A
  obtain ⟨kk, k2, k4⟩ := K
  refine ⟨a, rI_k i (kk 0 (by omega)) (kk 6 (by omega)) (kk 7 (by omega)) (kk 8 (by omega)) (kk 9 (by omega)) (k2 47 (by omega)) (kk 73 (by omega)), fun j hj => rSj_n (rSj_k (s j hj) (by rw [kk 64 (by omega)]) (by rw [kk 65 (by omega)]) (by rw [kk 66 (by omega)]) (by rw [kk 67 (by omega)]) (kk _ (by omega)) (fun i => by rw [k4 68 (by decide)]) (k4 _ (by omega))) hn, ?_, ?_, rC_k c (kk 11 (by omega)) (kk 12 (by omega)) (k2 46 (by omega)) (kk 79 (by omega)), rW_k o (kk 70 (by omega)) (kk 998 (by omega)) (kk 999 (by omega)), z1, ?_, ?_, ?_⟩
  · unfold rF
    rw [kk 33 (by omega), kk 51 (by omega)]
    exact f
  · rw [kk 25 (by omega), k2 7 (by omega)]
    exact t
  · exact zHz_k (fun b h1 h2 => kk b (by omega)) z.2.1
  · exact zHz_k (fun b h1 h2 => kk b (by omega)) z.2.2.1
  · exact zHz_k (fun b h1 h2 => kk b (by omega)) z.2.2.2
def mAdW (w : zM) (m : Nat) (s p q : Int32) : zM := zui (zui (zui (zui (zui (zui (zui w 57 m s) 58 m 0) 59 m p) 60 m 1) 61 m q) 62 m 0) 50 1 (nI (m + 1))
theorem mAdW_s (A : zMs w T V G) {s p q : Int32} (hm : m < 4) : zMs (mAdW w m s p q) T (sWtr V m s p q) G := by
  have a0 := zMs_V0 (y := m) (e := s) A hm
  rw [← zui_A] at a0
  have a1 := zMs_V1 (y := m) (e := 0) a0 hm
  rw [← zui_A] at a1
  have a2 := zMs_V2 (y := m) (e := p) a1 hm
  rw [← zui_A] at a2
  have a3 := zMs_V3 (y := m) (e := 1) a2 hm
  rw [← zui_A] at a3
  have a4 := zMs_V4 (y := m) (e := q) a3 hm
  rw [← zui_A] at a4
  have a5 := zMs_V5 (y := m) (e := 0) a4 hm
  rw [← zui_A] at a5
  exact zMs_k a5 ⟨by unfold mAdW; rw [zi_s, u_ne (by decide)], by unfold mAdW; rw [zi_s, u_ne (by decide)]⟩ (fun a h1 h2 => by unfold mAdW; rw [zi_n _ (by omega)])
theorem mAdW_h {s p q : Int32} : zKh w (mAdW w m s p q) :=
  zKh_t (zKh_t (zKh_t (zKh_t (zKh_t (zKh_t (zKh_i (by omega)) (zKh_i (by omega))) (zKh_i (by omega))) (zKh_i (by omega))) (zKh_i (by omega))) (zKh_i (by omega))) (zKh_50 (by omega))
theorem mAdW_50 {s p q : Int32} {k : Nat} : (mAdW w m s p q).1 50 k = upd (w.1 50) 1 (nI (m + 1)) k := by
  unfold mAdW
  rw [zi_s, zi_n _ (by decide), zi_n _ (by decide), zi_n _ (by decide), zi_n _ (by decide), zi_n _ (by decide), zi_n _ (by decide)]
theorem mAdW_n {s p q : Int32} {a : Nat} (h : a < 50) : (mAdW w m s p q).1 a = w.1 a := by
  unfold mAdW
  rw [zi_n _ (by omega), zi_n _ (by omega), zi_n _ (by omega), zi_n _ (by omega), zi_n _ (by omega), zi_n _ (by omega), zi_n _ (by omega)]
theorem m_comes {s p q : Int32} (h1 : w.1 50 1 = nI m) (hm : m < 4) : cal d 6017 [.ref 50, .int s, .int p, .int q] w = some (some (.int (nI m)), mAdW w m s p q) := by
  have hz := zis_nI hm (by decide)
  have hc := nI_clamp (n := m) (by omega)
  have n0 : ∀ (w : zM) a k v, a ≠ 50 → (zui w a k v).1 50 = w.1 50 := fun w a k v h => zi_n _ (fun e => h e.symm)
  simp only [c_6017, e_6017_0, e_6017_1, e_6017_4, e_6017_5, e_6017_8, e_6017_9, e_6017_10, e_6017_11, e_6017_14, e_6017_15, e_6017_18, e_6017_19, e_6017_20, e_6017_21, e_6017_24, e_6017_25, e_6017_28, e_6017_29, e_6017_30, e_6017_31, e_6017_34, e_6017_35, e_6017_38, e_6017_39, e_6017_40, e_6017_41, e_6017_44, e_6017_45, e_6017_48, e_6017_49, e_6017_50, e_6017_51, e_6017_54, e_6017_55, e_6017_58, e_6017_59, e_6017_60, e_6017_61, e_6017_62, e_6017_65, e_6017_66, e_6017_67, e_6017_68, e_6017_71, zk_int, zk_ref, zk_null, zk_none, zk_long, zisR_r, zisR_n, zcl_int, zcl_ref, zcl_null, zpush_s, zpush_n, zbs, zbn, true_or, or_true, not_false_eq_true, not_true_eq_false, ↓reduceIte, and_self, and_true, true_and, zt_50, zr_50_14, zt_57, zn_57, zo_57, zl_57, zq_57, zr_50_15, zt_58, zn_58, zo_58, zl_58, zq_58, zr_50_16, zt_59, zn_59, zo_59, zl_59, zq_59, zr_50_17, zt_60, zn_60, zo_60, zl_60, zq_60, zr_50_18, zt_61, zn_61, zo_61, zl_61, zq_61, zr_50_19, zt_62, zn_62, zo_62, zl_62, zq_62, hz, hc, h1, n0 _ 57 _ _ (by decide), n0 _ 58 _ _ (by decide), n0 _ 59 _ _ (by decide), n0 _ 60 _ _ (by decide), n0 _ 61 _ _ (by decide), n0 _ 62 _ _ (by decide), nI_1]
  rfl
theorem m_waiter_6 {s p q : Int32} (hk : ¬ sOkW s p q) : cal (d + 1) 6018 [.ref 50, .int s, .int p, .int q] w = some (some (.int (-6)), mRf w 6) := by
  have r := m_no (d := d) (w := w) (j := 6) (c := -6) (by decide) (by decide)
  unfold sOkW at hk
  by_cases a1 : s < 0
  · simp only [c_6018, e_6018_0, e_6018_1, e_6018_4, e_6018_5, e_6018_7, e_6018_10, e_6018_11, e_6018_14, e_6018_15, e_6018_17, e_6018_20, e_6018_21, e_6018_24, e_6018_25, e_6018_28, e_6018_31, e_6018_32, e_6018_34, e_6018_37, e_6018_38, e_6018_39, e_6018_42, e_6018_43, e_6018_46, e_6018_47, e_6018_49, e_6018_52, e_6018_55, e_6018_56, e_6018_57, e_6018_58, e_6018_59, e_6018_62, zk_int, zk_ref, zk_null, zk_none, zk_long, zisR_r, zisR_n, zcl_int, zcl_ref, zcl_null, zpush_s, zpush_n, zbs, zbn, true_or, or_true, not_false_eq_true, not_true_eq_false, ↓reduceIte, and_self, and_true, true_and, zt_50, a1, r]
  · by_cases a2 : s ≤ 6
    · by_cases a3 : p < 0
      · simp only [c_6018, e_6018_0, e_6018_1, e_6018_4, e_6018_5, e_6018_7, e_6018_10, e_6018_11, e_6018_14, e_6018_15, e_6018_17, e_6018_20, e_6018_21, e_6018_24, e_6018_25, e_6018_28, e_6018_31, e_6018_32, e_6018_34, e_6018_37, e_6018_38, e_6018_39, e_6018_42, e_6018_43, e_6018_46, e_6018_47, e_6018_49, e_6018_52, e_6018_55, e_6018_56, e_6018_57, e_6018_58, e_6018_59, e_6018_62, zk_int, zk_ref, zk_null, zk_none, zk_long, zisR_r, zisR_n, zcl_int, zcl_ref, zcl_null, zpush_s, zpush_n, zbs, zbn, true_or, or_true, not_false_eq_true, not_true_eq_false, ↓reduceIte, and_self, and_true, true_and, zt_50, a1, Int32.not_lt.mpr a2, a3, r]
      · by_cases a4 : p ≤ 99
        · by_cases a5 : q < 0
          · simp only [c_6018, e_6018_0, e_6018_1, e_6018_4, e_6018_5, e_6018_7, e_6018_10, e_6018_11, e_6018_14, e_6018_15, e_6018_17, e_6018_20, e_6018_21, e_6018_24, e_6018_25, e_6018_28, e_6018_31, e_6018_32, e_6018_34, e_6018_37, e_6018_38, e_6018_39, e_6018_42, e_6018_43, e_6018_46, e_6018_47, e_6018_49, e_6018_52, e_6018_55, e_6018_56, e_6018_57, e_6018_58, e_6018_59, e_6018_62, zk_int, zk_ref, zk_null, zk_none, zk_long, zisR_r, zisR_n, zcl_int, zcl_ref, zcl_null, zpush_s, zpush_n, zbs, zbn, true_or, or_true, not_false_eq_true, not_true_eq_false, ↓reduceIte, and_self, and_true, true_and, zt_50, a1, Int32.not_lt.mpr a2, a3, Int32.not_lt.mpr a4, a5, r]
          · have a6 : ¬ q ≤ 999 := fun h => hk ⟨⟨Int32.not_lt.mp a1, a2⟩, ⟨Int32.not_lt.mp a3, a4⟩, ⟨Int32.not_lt.mp a5, h⟩⟩
            simp only [c_6018, e_6018_0, e_6018_1, e_6018_4, e_6018_5, e_6018_7, e_6018_10, e_6018_11, e_6018_14, e_6018_15, e_6018_17, e_6018_20, e_6018_21, e_6018_24, e_6018_25, e_6018_28, e_6018_31, e_6018_32, e_6018_34, e_6018_37, e_6018_38, e_6018_39, e_6018_42, e_6018_43, e_6018_46, e_6018_47, e_6018_49, e_6018_52, e_6018_55, e_6018_56, e_6018_57, e_6018_58, e_6018_59, e_6018_62, zk_int, zk_ref, zk_null, zk_none, zk_long, zisR_r, zisR_n, zcl_int, zcl_ref, zcl_null, zpush_s, zpush_n, zbs, zbn, true_or, or_true, not_false_eq_true, not_true_eq_false, ↓reduceIte, and_self, and_true, true_and, zt_50, a1, Int32.not_lt.mpr a2, a3, Int32.not_lt.mpr a4, a5, a6, r]
        · simp only [c_6018, e_6018_0, e_6018_1, e_6018_4, e_6018_5, e_6018_7, e_6018_10, e_6018_11, e_6018_14, e_6018_15, e_6018_17, e_6018_20, e_6018_21, e_6018_24, e_6018_25, e_6018_28, e_6018_31, e_6018_32, e_6018_34, e_6018_37, e_6018_38, e_6018_39, e_6018_42, e_6018_43, e_6018_46, e_6018_47, e_6018_49, e_6018_52, e_6018_55, e_6018_56, e_6018_57, e_6018_58, e_6018_59, e_6018_62, zk_int, zk_ref, zk_null, zk_none, zk_long, zisR_r, zisR_n, zcl_int, zcl_ref, zcl_null, zpush_s, zpush_n, zbs, zbn, true_or, or_true, not_false_eq_true, not_true_eq_false, ↓reduceIte, and_self, and_true, true_and, zt_50, a1, Int32.not_lt.mpr a2, a3, Int32.not_le.mp a4, r]
    · simp only [c_6018, e_6018_0, e_6018_1, e_6018_4, e_6018_5, e_6018_7, e_6018_10, e_6018_11, e_6018_14, e_6018_15, e_6018_17, e_6018_20, e_6018_21, e_6018_24, e_6018_25, e_6018_28, e_6018_31, e_6018_32, e_6018_34, e_6018_37, e_6018_38, e_6018_39, e_6018_42, e_6018_43, e_6018_46, e_6018_47, e_6018_49, e_6018_52, e_6018_55, e_6018_56, e_6018_57, e_6018_58, e_6018_59, e_6018_62, zk_int, zk_ref, zk_null, zk_none, zk_long, zisR_r, zisR_n, zcl_int, zcl_ref, zcl_null, zpush_s, zpush_n, zbs, zbn, true_or, or_true, not_false_eq_true, not_true_eq_false, ↓reduceIte, and_self, and_true, true_and, zt_50, a1, Int32.not_le.mp a2, r]
theorem m_waiter {s p q : Int32} (hk : sOkW s p q) : cal (d + 1) 6018 [.ref 50, .int s, .int p, .int q] w = den (d + 1) 6018 38 [some (.ref 50), some (.int s), some (.int p), some (.int q)] [] w := by
  obtain ⟨⟨a1, a2⟩, ⟨a3, a4⟩, ⟨a5, a6⟩⟩ := hk
  simp only [c_6018, e_6018_0, e_6018_1, e_6018_4, e_6018_5, e_6018_7, e_6018_10, e_6018_11, e_6018_14, e_6018_15, e_6018_17, e_6018_20, e_6018_21, e_6018_24, e_6018_25, e_6018_28, zk_int, zk_ref, zk_null, zk_none, zk_long, zisR_r, zisR_n, zcl_int, zcl_ref, zcl_null, zpush_s, zpush_n, zbs, zbn, true_or, or_true, not_false_eq_true, not_true_eq_false, ↓reduceIte, and_self, and_true, true_and, Int32.not_lt.mpr a1, Int32.not_lt.mpr a2, Int32.not_lt.mpr a3, Int32.not_lt.mpr a4, Int32.not_lt.mpr a5, a6]
theorem zRg_W {s p q : Int32} (R : zRg T V G n m) (hm : m < 4) (hk : sOkW s p q) : zRg T (sWtr V m s p q) G n (m + 1) := by
  obtain ⟨rt, rv, g0, g1, g2, g3, g4, rn, rm⟩ := R
  refine ⟨fun t ht => ?_, fun x hx => ?_, g0, g1, g2, g3, g4, rn, by omega⟩
  · obtain ⟨h0, h1, h2, h3, y, h4, h5⟩ := rt t ht
    exact ⟨h0, h1, h2, h3, y, by omega, h5⟩
  · unfold sWtr
    by_cases hxm : x = m
    · subst hxm
      have e6 : (6 : Int32).toInt = 6 := by decide
      refine ⟨?_, ?_, ?_⟩
      · rw [u_ne (by omega), u_ne (by omega), u_ne (by omega), u_ne (by omega), u_ne (by omega), u_eq]
        obtain ⟨a1, a2⟩ := hk.1
        rw [ti_le, ti_0] at a1
        rw [ti_le, e6] at a2
        exact ⟨a1, by omega⟩
      · rw [u_ne (by omega), u_ne (by omega), u_ne (by omega), u_ne (by omega), u_eq]
        unfold zBt; rw [ti_0]; omega
      · rw [u_ne (by omega), u_ne (by omega), u_eq]
        unfold zBt; rw [ti_1]; omega
    · obtain ⟨h0, h1, h3⟩ := rv x (by omega)
      refine ⟨?_, ?_, ?_⟩
      · rw [u_ne (by omega), u_ne (by omega), u_ne (by omega), u_ne (by omega), u_ne (by omega), u_ne (by omega)]; exact h0
      · rw [u_ne (by omega), u_ne (by omega), u_ne (by omega), u_ne (by omega), u_ne (by omega), u_ne (by omega)]; exact h1
      · rw [u_ne (by omega), u_ne (by omega), u_ne (by omega), u_ne (by omega), u_ne (by omega), u_ne (by omega)]; exact h3
theorem sk_W {s p q : Int32} (h : ∀ x, x < m → zBt (V (6 * x + 0)) 0 6) (hk : sOkW s p q) : ∀ x, x < m + 1 → zBt (sWtr V m s p q (6 * x + 0)) 0 6 := by
  intro x hx
  unfold sWtr
  by_cases hxm : x = m
  · subst hxm
    have e6 : (6 : Int32).toInt = 6 := by decide
    rw [u_ne (by omega), u_ne (by omega), u_ne (by omega), u_ne (by omega), u_ne (by omega), u_eq]
    obtain ⟨a1, a2⟩ := hk.1
    rw [ti_le, ti_0] at a1
    rw [ti_le, e6] at a2
    exact ⟨a1, a2⟩
  · rw [u_ne (by omega), u_ne (by omega), u_ne (by omega), u_ne (by omega), u_ne (by omega), u_ne (by omega)]
    exact h x (by omega)
theorem sWtr_z {s p q : Int32} (hm : m < 4) (hV : ∀ k, 24 ≤ k → V k = 0) : ∀ k, 24 ≤ k → sWtr V m s p q k = 0 := by
  intro k hk
  unfold sWtr
  rw [u_ne (by omega), u_ne (by omega), u_ne (by omega), u_ne (by omega), u_ne (by omega), u_ne (by omega)]
  exact hV k hk
theorem p_waiter {s p q : Int32} (A : zRl w S L n m) : zPr d 5008 6018 [.int s, .int p, .int q] w S L := by
  have C := rl_C A
  have M := rl_M A
  have hz := rl_z1 A
  by_cases hk : sOkW s p q
  · by_cases hm : m < 4
    · have n1 : ∀ a, a ≠ 1 → a ≠ 3 → (sAdW w 1 m s p q).1 a = w.1 a := fun a h1 h2 => by unfold sAdW; rw [zA_n _ _ h2, zA_n _ _ h1]
      have e1 : (sAdW w 1 m s p q).1 1 = upd (w.1 1) 4 (nI (m + 1)) := by unfold sAdW; rw [zA_n _ _ (by decide), zA_s]
      have e3 : (sAdW w 1 m s p q).1 3 = sWtr (w.1 3) m s p q := zA_s _ _ _
      have c1 : (sAdW w 1 m s p q).1 50 1 = nI m := by rw [n1 _ (by decide) (by decide)]; exact M.2.1.2.1
      have g4 : (nI m = 4) = False := eq_false (fun h => by have := (nI_eq (a := m) (b := 4) (by omega) (by omega)).mp h; omega)
      have qm := m_comes (d := d + 39) (w := sAdW w 1 m s p q) (s := s) (p := p) (q := q) c1 hm
      have hm2 : cal (d + 40) 6018 [.ref 50, .int s, .int p, .int q] (sAdW w 1 m s p q) = some (some (.int (nI m)), mAdW (sAdW w 1 m s p q) m s p q) := by
        rw [m_waiter (d := d + 39) hk]
        simp only [e_6018_38, e_6018_39, e_6018_42, e_6018_43, e_6018_55, e_6018_56, e_6018_57, e_6018_58, e_6018_59, e_6018_62, zk_int, zk_ref, zk_null, zk_none, zk_long, zisR_r, zisR_n, zcl_int, zcl_ref, zcl_null, zpush_s, zpush_n, zbs, zbn, true_or, or_true, not_false_eq_true, not_true_eq_false, ↓reduceIte, and_self, and_true, true_and, zt_50, c1, g4, qm]
      have Ms : zMs (sAdW w 1 m s p q) (w.1 2) (w.1 3) (w.1 4) := zMs_k M.1 ⟨by rw [n1 _ (by decide) (by decide)], by rw [n1 _ (by decide) (by decide)]⟩ (fun a h1 h2 => n1 a (by omega) (by omega))
      have Ms2 := mAdW_s (s := s) (p := p) (q := q) Ms hm
      refine ⟨_, _, _, n, m + 1, f_wtr (d := d + 36) (j := 0) C hk hm, hm2, zRl_h A (zKh_t (zKh_t (zKh_A (by omega)) (zKh_A (by omega))) mAdW_h) ?_ (Nat.le_refl _) ?_⟩
      · have d1 : (mAdW (sAdW w 1 m s p q) m s p q).1 1 = upd (w.1 1) 4 (nI (m + 1)) := (mAdW_n (by decide)).trans e1
        have d2 : (mAdW (sAdW w 1 m s p q) m s p q).1 2 = w.1 2 := (mAdW_n (by decide)).trans (n1 _ (by decide) (by decide))
        have d3 : (mAdW (sAdW w 1 m s p q) m s p q).1 3 = sWtr (w.1 3) m s p q := (mAdW_n (by decide)).trans e3
        have d4 : (mAdW (sAdW w 1 m s p q) m s p q).1 4 = w.1 4 := (mAdW_n (by decide)).trans (n1 _ (by decide) (by decide))
        have d50 : ∀ k, k ≠ 1 → (mAdW (sAdW w 1 m s p q) m s p q).1 50 k = w.1 50 k := fun k hk => by rw [mAdW_50, u_ne hk, n1 _ (by decide) (by decide)]
        unfold rA zHc
        rw [d1, d2, d3, d4, d50 4 (by decide), d50 5 (by decide), d50 6 (by decide), u_ne (by decide), u_eq, u_ne (by decide), u_ne (by decide), u_ne (by decide)]
        refine ⟨⟨C.1, C.2.1, C.2.2.1, rfl, by omega⟩, ⟨Ms2, ⟨by rw [d50 0 (by decide)]; exact M.2.1.1, by rw [mAdW_50, u_eq], M.2.1.2.2.1, by omega⟩, zRg_W M.2.2 hm hk⟩, sk_W A.1.2.2.1 hk, A.1.2.2.2⟩
      · refine ⟨?_, ?_, ?_, ?_⟩
        · rw [mAdW_n (by decide), n1 _ (by decide) (by decide)]; exact hz.1
        · rw [mAdW_n (by decide), e3]; exact sWtr_z hm hz.2.1
        · rw [mAdW_n (by decide), n1 _ (by decide) (by decide)]; exact hz.2.2.1
        · intro k hk
          rw [mAdW_n (by decide), e1, u_ne (by omega)]
          exact hz.2.2.2 k hk
    · have MF := (zMc_f (j := 7) M).2.1
      have e4 : m = 4 := by have := rl_m A; omega
      have g4 : (nI 4 = 4) = True := eq_true (by decide)
      have c1 : (fRf w 7).1 50 1 = nI 4 := by rw [MF.2.1, e4]
      have r := m_no (d := d + 39) (w := fRf w 7) (j := 7) (c := -7) (by decide) (by decide)
      refine pr_f A (by decide) (f_wtr_7 (d := d + 36) C hk hm) (zKp_r _) ?_ (zKp_r _)
      rw [m_waiter (d := d + 39) hk]
      simp only [e_6018_38, e_6018_39, e_6018_42, e_6018_43, e_6018_46, e_6018_47, e_6018_49, e_6018_52, e_6018_62, zk_int, zk_ref, zk_null, zk_none, zk_long, zisR_r, zisR_n, zcl_int, zcl_ref, zcl_null, zpush_s, zpush_n, zbs, zbn, true_or, or_true, not_false_eq_true, not_true_eq_false, ↓reduceIte, and_self, and_true, true_and, zt_50, c1, g4, r]
  · exact pr_f A (by decide) (f_wtr_6 (d := d + 36) hk) (zKp_r _) (m_waiter_6 (d := d + 39) hk) (zKp_r _)
end PE
