def sOw (T V G : Nat → Int32) (n : Nat) : Nat → Int32 := fun y => zsum (sOwnF T (sGv T V G) (nI y)) n
def sSpr (T V G : Nat → Int32) (n m : Nat) : Int32 := sMx (sOw T V G n) (m - 1) - sMn (sOw T V G n) (m - 1)
def lo0 (f : Nat → Int32) : Nat → Int32
  | 0 => 0
  | j + 1 => sMn f j
def hi0 (f : Nat → Int32) : Nat → Int32
  | 0 => 0
  | j + 1 => sMx f j
section MN
variable {d n m : Nat} {w : zM} {T V G : Nat → Int32}
theorem m_spread (C : zMc w T V G n m) : cal (d + 19) 6070 [.ref 50] w = some (some (.int (sSpr T V G n m)), w) := by
  have hm4 := C.2.1.2.2.2
  have cm := C.2.1.2.1
  have key : ∀ q j o4, j + q = m → den (d + 19) 6070 6 [some (.ref 50), some (.int (lo0 (sOw T V G n) j)), some (.int (hi0 (sOw T V G n) j)), some (.int (nI j)), o4] [] w = some (some (.int (hi0 (sOw T V G n) m - lo0 (sOw T V G n) m)), w) := by
    intro q
    induction q with
    | zero =>
      intro j o4 hj
      have e : j = m := by omega
      subst e
      have g1 := nI_le_n (Nat.le_refl j) (by omega)
      simp only [c_6070, e_6070_0, e_6070_1, e_6070_2, e_6070_3, e_6070_4, e_6070_5, e_6070_6, e_6070_7, e_6070_8, e_6070_11, e_6070_14, e_6070_15, e_6070_16, e_6070_19, e_6070_21, e_6070_22, e_6070_25, e_6070_27, e_6070_28, e_6070_31, e_6070_33, e_6070_36, e_6070_37, e_6070_38, e_6070_39, e_6070_42, e_6070_44, e_6070_45, e_6070_48, e_6070_50, e_6070_53, e_6070_54, e_6070_55, e_6070_58, e_6070_61, e_6070_62, e_6070_63, e_6070_64, zk_int, zk_ref, zk_null, zk_none, zk_long, zisR_r, zisR_n, zcl_int, zcl_ref, zcl_null, zpush_s, zpush_n, zbs, zbn, true_or, or_true, not_false_eq_true, not_true_eq_false, ↓reduceIte, and_self, and_true, true_and, zt_50, cm, g1]
    | succ q ih =>
      intro j o4 hj
      have hjm : j < m := by omega
      have g1 := nI_ge_f hjm (by omega)
      have q1 := m_ownOf (d := d) (y := nI j) C
      have eo : zsum (sOwnF T (sGv T V G) (nI j)) n = sOw T V G n j := rfl
      rw [eo] at q1
      have i1 := ih (j + 1) (some (.int (sOw T V G n j))) (by omega)
      rw [e_6070_6]
      cases j with
      | zero =>
        have e0 : nI 0 = 0 := nI_0
        rw [e0] at g1 q1 ⊢
        have e1 : (0 : Int32) + 1 = nI (0 + 1) := by decide
        simp only [c_6070, e_6070_0, e_6070_1, e_6070_2, e_6070_3, e_6070_4, e_6070_5, e_6070_7, e_6070_8, e_6070_11, e_6070_14, e_6070_15, e_6070_16, e_6070_19, e_6070_21, e_6070_22, e_6070_25, e_6070_27, e_6070_28, e_6070_31, e_6070_33, e_6070_36, e_6070_37, e_6070_38, e_6070_39, e_6070_42, e_6070_44, e_6070_45, e_6070_48, e_6070_50, e_6070_53, e_6070_54, e_6070_55, e_6070_58, e_6070_61, e_6070_62, e_6070_63, e_6070_64, zk_int, zk_ref, zk_null, zk_none, zk_long, zisR_r, zisR_n, zcl_int, zcl_ref, zcl_null, zpush_s, zpush_n, zbs, zbn, true_or, or_true, not_false_eq_true, not_true_eq_false, ↓reduceIte, and_self, and_true, true_and, zt_50, cm, g1, q1, e1]
        exact i1
      | succ j =>
        have hn0 := nI_ne0' (n := j + 1) (by omega) (by omega)
        have el : lo0 (sOw T V G n) (j + 1 + 1) = imin (lo0 (sOw T V G n) (j + 1)) (sOw T V G n (j + 1)) := rfl
        have eh : hi0 (sOw T V G n) (j + 1 + 1) = imax (hi0 (sOw T V G n) (j + 1)) (sOw T V G n (j + 1)) := rfl
        rw [el, eh] at i1
        generalize lo0 (sOw T V G n) (j + 1) = L at i1 ⊢
        generalize hi0 (sOw T V G n) (j + 1) = H at i1 ⊢
        unfold imin imax at i1
        by_cases a : sOw T V G n (j + 1) < L
        · have a' : (L ≤ sOw T V G n (j + 1)) = False := eq_false (Int32.not_le.mpr a)
          rw [if_pos a] at i1
          by_cases b : H < sOw T V G n (j + 1)
          · have b' : (sOw T V G n (j + 1) ≤ H) = False := eq_false (Int32.not_le.mpr b)
            rw [if_pos b] at i1
            simp only [c_6070, e_6070_0, e_6070_1, e_6070_2, e_6070_3, e_6070_4, e_6070_5, e_6070_7, e_6070_8, e_6070_11, e_6070_14, e_6070_15, e_6070_16, e_6070_19, e_6070_21, e_6070_22, e_6070_25, e_6070_27, e_6070_28, e_6070_31, e_6070_33, e_6070_36, e_6070_37, e_6070_38, e_6070_39, e_6070_42, e_6070_44, e_6070_45, e_6070_48, e_6070_50, e_6070_53, e_6070_54, e_6070_55, e_6070_58, e_6070_61, e_6070_62, e_6070_63, e_6070_64, zk_int, zk_ref, zk_null, zk_none, zk_long, zisR_r, zisR_n, zcl_int, zcl_ref, zcl_null, zpush_s, zpush_n, zbs, zbn, true_or, or_true, not_false_eq_true, not_true_eq_false, ↓reduceIte, and_self, and_true, true_and, zt_50, cm, g1, q1, hn0, a', b', nI_1]
            exact i1
          · have b' : (sOw T V G n (j + 1) ≤ H) = True := eq_true (Int32.not_lt.mp b)
            rw [if_neg b] at i1
            simp only [c_6070, e_6070_0, e_6070_1, e_6070_2, e_6070_3, e_6070_4, e_6070_5, e_6070_7, e_6070_8, e_6070_11, e_6070_14, e_6070_15, e_6070_16, e_6070_19, e_6070_21, e_6070_22, e_6070_25, e_6070_27, e_6070_28, e_6070_31, e_6070_33, e_6070_36, e_6070_37, e_6070_38, e_6070_39, e_6070_42, e_6070_44, e_6070_45, e_6070_48, e_6070_50, e_6070_53, e_6070_54, e_6070_55, e_6070_58, e_6070_61, e_6070_62, e_6070_63, e_6070_64, zk_int, zk_ref, zk_null, zk_none, zk_long, zisR_r, zisR_n, zcl_int, zcl_ref, zcl_null, zpush_s, zpush_n, zbs, zbn, true_or, or_true, not_false_eq_true, not_true_eq_false, ↓reduceIte, and_self, and_true, true_and, zt_50, cm, g1, q1, hn0, a', b', nI_1]
            exact i1
        · have a' : (L ≤ sOw T V G n (j + 1)) = True := eq_true (Int32.not_lt.mp a)
          rw [if_neg a] at i1
          by_cases b : H < sOw T V G n (j + 1)
          · have b' : (sOw T V G n (j + 1) ≤ H) = False := eq_false (Int32.not_le.mpr b)
            rw [if_pos b] at i1
            simp only [c_6070, e_6070_0, e_6070_1, e_6070_2, e_6070_3, e_6070_4, e_6070_5, e_6070_7, e_6070_8, e_6070_11, e_6070_14, e_6070_15, e_6070_16, e_6070_19, e_6070_21, e_6070_22, e_6070_25, e_6070_27, e_6070_28, e_6070_31, e_6070_33, e_6070_36, e_6070_37, e_6070_38, e_6070_39, e_6070_42, e_6070_44, e_6070_45, e_6070_48, e_6070_50, e_6070_53, e_6070_54, e_6070_55, e_6070_58, e_6070_61, e_6070_62, e_6070_63, e_6070_64, zk_int, zk_ref, zk_null, zk_none, zk_long, zisR_r, zisR_n, zcl_int, zcl_ref, zcl_null, zpush_s, zpush_n, zbs, zbn, true_or, or_true, not_false_eq_true, not_true_eq_false, ↓reduceIte, and_self, and_true, true_and, zt_50, cm, g1, q1, hn0, a', b', nI_1]
            exact i1
          · have b' : (sOw T V G n (j + 1) ≤ H) = True := eq_true (Int32.not_lt.mp b)
            rw [if_neg b] at i1
            simp only [c_6070, e_6070_0, e_6070_1, e_6070_2, e_6070_3, e_6070_4, e_6070_5, e_6070_7, e_6070_8, e_6070_11, e_6070_14, e_6070_15, e_6070_16, e_6070_19, e_6070_21, e_6070_22, e_6070_25, e_6070_27, e_6070_28, e_6070_31, e_6070_33, e_6070_36, e_6070_37, e_6070_38, e_6070_39, e_6070_42, e_6070_44, e_6070_45, e_6070_48, e_6070_50, e_6070_53, e_6070_54, e_6070_55, e_6070_58, e_6070_61, e_6070_62, e_6070_63, e_6070_64, zk_int, zk_ref, zk_null, zk_none, zk_long, zisR_r, zisR_n, zcl_int, zcl_ref, zcl_null, zpush_s, zpush_n, zbs, zbn, true_or, or_true, not_false_eq_true, not_true_eq_false, ↓reduceIte, and_self, and_true, true_and, zt_50, cm, g1, q1, hn0, a', b', nI_1]
            exact i1
  have k0 := key m 0 none (by omega)
  have e1 : hi0 (sOw T V G n) m - lo0 (sOw T V G n) m = sSpr T V G n m := by
    unfold sSpr
    cases m with
    | zero => show (0 : Int32) - 0 = sOw T V G n 0 - sOw T V G n 0; rw [Int32.sub_self, Int32.sub_self]
    | succ m => rfl
  rw [nI_0, e1] at k0
  simp only [c_6070, e_6070_0, e_6070_1, e_6070_2, e_6070_3, e_6070_4, e_6070_5, e_6070_7, e_6070_8, e_6070_11, e_6070_14, e_6070_15, e_6070_16, e_6070_19, e_6070_21, e_6070_22, e_6070_25, e_6070_27, e_6070_28, e_6070_31, e_6070_33, e_6070_36, e_6070_37, e_6070_38, e_6070_39, e_6070_42, e_6070_44, e_6070_45, e_6070_48, e_6070_50, e_6070_53, e_6070_54, e_6070_55, e_6070_58, e_6070_61, e_6070_62, e_6070_63, e_6070_64, zk_int, zk_ref, zk_null, zk_none, zk_long, zisR_r, zisR_n, zcl_int, zcl_ref, zcl_null, zpush_s, zpush_n, zbs, zbn, true_or, or_true, not_false_eq_true, not_true_eq_false, ↓reduceIte, and_self, and_true, true_and]
  exact k0
def tVal (n m : Nat) (ev : Int32) (T V G S : Nat → Int32) : Int32 := if ev = 0 then zsum (sGv (sTs T S n) V G) n else - sSpr (sTs T S n) V G n m
def tLf (n m : Nat) (ev : Int32) (T V G : Nat → Int32) (s : zSt4) : zSt4 := if ¬ s.2.1 = 0 ∧ tVal n m ev T V G s.1 ≤ s.2.2.1 then s else (s.1, 1, tVal n m ev T V G s.1, zcpy s.1 s.2.2.2 8)
def tCn (S : Nat → Int32) (y : Nat) : Nat → Nat
  | 0 => 0
  | t + 1 => if S t = nI y then tCn S y t + 1 else tCn S y t
def tF (n m : Nat) (k ev : Int32) (T V G : Nat → Int32) : Nat → Nat → zSt4 → zSt4
  | 0, _, s => tLf n m ev T V G s
  | q + 1, t, s => zfoldl (fun s y => if k ≤ nI (tCn s.1 y t) then s else tF n m k ev T V G q (t + 1) (upd s.1 t (nI y), s.2)) s m
def TW (w : zM) (s : zSt4) : zM := zuA (zuA (zuA w 56 s.1) 77 s.2.2.2) 50 (upd (upd (w.1 50) 40 s.2.1) 41 s.2.2.1)
theorem TW_50 (s : zSt4) : (TW w s).1 50 = upd (upd (w.1 50) 40 s.2.1) 41 s.2.2.1 := zA_s _ _ _
theorem TW_56 (s : zSt4) : (TW w s).1 56 = s.1 := by unfold TW; rw [zA_n _ _ (by decide), zA_n _ _ (by decide), zA_s]
theorem TW_77 (s : zSt4) : (TW w s).1 77 = s.2.2.2 := by unfold TW; rw [zA_n _ _ (by decide), zA_s]
theorem TW_fd (s : zSt4) : (TW w s).1 50 40 = s.2.1 := by rw [TW_50, u_ne (by decide), u_eq]
theorem TW_bt (s : zSt4) : (TW w s).1 50 41 = s.2.2.1 := by rw [TW_50, u_eq]
theorem TW_n0 (s : zSt4) : (TW w s).1 50 0 = w.1 50 0 := by rw [TW_50, u_ne (by decide), u_ne (by decide)]
theorem TW_n1 (s : zSt4) : (TW w s).1 50 1 = w.1 50 1 := by rw [TW_50, u_ne (by decide), u_ne (by decide)]
theorem TW_u56 (s : zSt4) (f : Nat → Int32) : zuA (TW w s) 56 f = TW w (f, s.2) := by unfold TW; rw [zA_c _ _ _ (by decide : (50 : Nat) ≠ 56), zA_c _ _ _ (by decide : (77 : Nat) ≠ 56), zA_A]
theorem TW_u77 (s : zSt4) (f : Nat → Int32) : zuA (TW w s) 77 f = TW w (s.1, s.2.1, s.2.2.1, f) := by unfold TW; rw [zA_c _ _ _ (by decide : (50 : Nat) ≠ 77), zA_A]
theorem TW_ufd (s : zSt4) (x : Int32) : zuA (TW w s) 50 (upd ((TW w s).1 50) 40 x) = TW w (s.1, x, s.2.2) := by
  rw [TW_50, upd_c _ _ _ (by decide : (41 : Nat) ≠ 40), upd_u]
  unfold TW
  rw [zA_A]
theorem TW_ubt (s : zSt4) (x : Int32) : zuA (TW w s) 50 (upd ((TW w s).1 50) 41 x) = TW w (s.1, s.2.1, x, s.2.2.2) := by
  rw [TW_50, upd_u]
  unfold TW
  rw [zA_A]
theorem TW_C {s : zSt4} (C : zMc w T V G n m) (h1 : ∀ i, i < n → ∃ y, y < m ∧ s.1 i = nI y) (h2 : ∀ i, n ≤ i → s.1 i = w.1 56 i) : zMc (TW w s) (sTs T s.1 n) V G n m := by
  have e : s.1 = zcpy s.1 (w.1 56) n := by
    funext i
    unfold zcpy
    by_cases h : i < n
    · rw [if_pos h]
    · rw [if_neg h]; exact h2 i (by omega)
  have a := zMs_s (e := s.1) C.1 C.2.1.2.2.1
  rw [← e] at a
  refine ⟨zMs_k a ⟨?_, ?_⟩ (fun b hb1 hb2 => ?_), zMn_k C.2.1 (TW_n0 s) (TW_n1 s), zRg_s C.2.2 h1⟩
  · rw [TW_50, u_ne (by decide), u_ne (by decide), zA_n _ _ (by decide)]
  · rw [TW_50, u_ne (by decide), u_ne (by decide), zA_n _ _ (by decide)]
  · unfold TW
    rw [zA_n _ _ (by omega), zA_n _ _ (by omega)]
theorem tCn_le (S : Nat → Int32) (y : Nat) : ∀ t, tCn S y t ≤ t := by
  intro t
  induction t with
  | zero => exact Nat.le_refl _
  | succ t ih =>
    show (if _ then _ else _) ≤ _
    split
    · exact Nat.succ_le_succ ih
    · exact Nat.le_succ_of_le ih
theorem m_tr_c {s : zSt4} {t y : Nat} {k ev : Int32} (ht : t < 8) : den d 6071 103 [some (.ref 50), some (.int (nI t)), some (.int k), some (.int ev), some (.int (nI y)), some (.int 0), some (.int 0)] [] (TW w s) = den d 6071 130 [some (.ref 50), some (.int (nI t)), some (.int k), some (.int ev), some (.int (nI y)), some (.int (nI (tCn s.1 y t))), some (.int (nI t))] [] (TW w s) := by
  have key : ∀ r j, j + r = t → den d 6071 103 [some (.ref 50), some (.int (nI t)), some (.int k), some (.int ev), some (.int (nI y)), some (.int (nI (tCn s.1 y j))), some (.int (nI j))] [] (TW w s) = den d 6071 130 [some (.ref 50), some (.int (nI t)), some (.int k), some (.int ev), some (.int (nI y)), some (.int (nI (tCn s.1 y t))), some (.int (nI t))] [] (TW w s) := by
    intro r
    induction r with
    | zero =>
      intro j hj
      have e : j = t := by omega
      subst e
      have g1 := nI_le_n (Nat.le_refl j) (by omega)
      rw [e_6071_103]
      simp only [e_6071_105, e_6071_106, zk_int, zk_ref, zk_null, zk_none, zk_long, zisR_r, zisR_n, zcl_int, zcl_ref, zcl_null, zpush_s, zpush_n, zbs, zbn, true_or, or_true, not_false_eq_true, not_true_eq_false, ↓reduceIte, and_self, and_true, true_and, g1]
    | succ r ih =>
      intro j hj
      have hjt : j < t := by omega
      have g1 := nI_ge_f hjt (by omega)
      have hz := zis_nI (j := j) (n := 8) (by omega) (by decide)
      have hc := nI_clamp (n := j) (by omega)
      have i1 := ih (j + 1) (by omega)
      rw [e_6071_103]
      by_cases h : s.1 j = nI y
      · have e : tCn s.1 y (j + 1) = tCn s.1 y j + 1 := if_pos h
        rw [e] at i1
        simp only [e_6071_105, e_6071_106, e_6071_109, e_6071_110, e_6071_113, e_6071_115, e_6071_116, e_6071_118, e_6071_121, e_6071_124, e_6071_127, zk_int, zk_ref, zk_null, zk_none, zk_long, zisR_r, zisR_n, zcl_int, zcl_ref, zcl_null, zpush_s, zpush_n, zbs, zbn, true_or, or_true, not_false_eq_true, not_true_eq_false, ↓reduceIte, and_self, and_true, true_and, zt_50, zr_50_13, zt_56, zn_56, zo_56, zl_56, zq_56, TW_56, g1, hz, hc, h, nI_1]
        exact i1
      · have e : tCn s.1 y (j + 1) = tCn s.1 y j := if_neg h
        rw [e] at i1
        simp only [e_6071_105, e_6071_106, e_6071_109, e_6071_110, e_6071_113, e_6071_115, e_6071_116, e_6071_118, e_6071_121, e_6071_124, e_6071_127, zk_int, zk_ref, zk_null, zk_none, zk_long, zisR_r, zisR_n, zcl_int, zcl_ref, zcl_null, zpush_s, zpush_n, zbs, zbn, true_or, or_true, not_false_eq_true, not_true_eq_false, ↓reduceIte, and_self, and_true, true_and, zt_50, zr_50_13, zt_56, zn_56, zo_56, zl_56, zq_56, TW_56, g1, hz, hc, h, nI_1]
        exact i1
  have k0 := key t 0 (by omega)
  rw [nI_0] at k0
  exact k0
theorem m_tr_k {s : zSt4} {t v : Int32} {k ev : Int32} {o6 : Option Value} : den d 6071 57 [some (.ref 50), some (.int t), some (.int k), some (.int ev), some (.int v), some (.int 0), o6] [] (TW w s) = some (none, TW w (s.1, s.2.1, s.2.2.1, zcpy s.1 s.2.2.2 8)) := by
  have key : ∀ r j, j + r = 8 → den d 6071 57 [some (.ref 50), some (.int t), some (.int k), some (.int ev), some (.int v), some (.int (nI j)), o6] [] (TW w (s.1, s.2.1, s.2.2.1, zcpy s.1 s.2.2.2 j)) = some (none, TW w (s.1, s.2.1, s.2.2.1, zcpy s.1 s.2.2.2 8)) := by
    intro r
    induction r with
    | zero =>
      intro j hj
      have e : j = 8 := by omega
      subst e
      have g1 : ((8 : Int32) ≤ nI 8) = True := eq_true (by decide)
      rw [e_6071_57]
      simp only [e_6071_59, e_6071_61, e_6071_84, zk_int, zk_ref, zk_null, zk_none, zk_long, zisR_r, zisR_n, zcl_int, zcl_ref, zcl_null, zpush_s, zpush_n, zbs, zbn, true_or, or_true, not_false_eq_true, not_true_eq_false, ↓reduceIte, and_self, and_true, true_and, g1]
    | succ r ih =>
      intro j hj
      have hj8 : j < 8 := by omega
      have g1 : ((8 : Int32) ≤ nI j) = False := nI_ge_f (b := 8) hj8 (by decide)
      have hz := zis_nI hj8 (by decide)
      have hc := nI_clamp (n := j) (by omega)
      rw [e_6071_57]
      simp only [e_6071_59, e_6071_61, e_6071_64, e_6071_65, e_6071_68, e_6071_70, e_6071_71, e_6071_74, e_6071_76, e_6071_77, e_6071_78, e_6071_81, zk_int, zk_ref, zk_null, zk_none, zk_long, zisR_r, zisR_n, zcl_int, zcl_ref, zcl_null, zpush_s, zpush_n, zbs, zbn, true_or, or_true, not_false_eq_true, not_true_eq_false, ↓reduceIte, and_self, and_true, true_and, zt_50, zr_50_13, zt_56, zn_56, zo_56, zl_56, zq_56, zr_50_39, zt_77, zn_77, zo_77, zl_77, zq_77, g1, hz, hc, zui_A, TW_56, TW_77, TW_u77, zcpy_s, nI_1]
      exact ih (j + 1) (by omega)
  have k0 := key 8 0 (by omega)
  rw [zcpy_0, nI_0] at k0
  exact k0
end MN
