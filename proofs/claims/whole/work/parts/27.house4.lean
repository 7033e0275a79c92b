theorem nI_nle0 {n : Nat} (h0 : 0 < n) (h : n < 2147483648) : (nI n ≤ 0) = False := eq_false (nI_nle h0 h)
theorem nI_ne0' {n : Nat} (h0 : 0 < n) (h : n < 2147483648) : (nI n = 0) = False := eq_false (nI_ne0 h0 h)
theorem zHs_ap {h k : Nat} (H : zHs h) (K : zHs k) (hk : h ≠ k) : h + 5 ≤ k ∨ k + 5 ≤ h := by
  unfold zHs at H K
  omega
def sPts (V : Nat → Int32) (m : Nat) : Int32 := zsum (fun v => V (6 * v + 3)) m
def sPot (gv : Nat → Int32) (n m : Nat) : Int32 := zsum gv n / nI m
def sByP (V gv : Nat → Int32) (n m y : Nat) : Int32 := if sPts V m ≤ 0 then 0 else zsum gv n * V (6 * y + 3) / sPts V m
def sShr (T V G gv : Nat → Int32) (n m y : Nat) : Int32 := if G 0 = 1 then sPot gv n m else if G 0 = 2 then sByP V gv n m y else if G 0 = 3 then zsum (sOwnF T gv (nI y)) n / 2 + sPot gv n m / 2 else zsum (sOwnF T gv (nI y)) n
def sGain (T V G gv : Nat → Int32) (n m y : Nat) : Int32 := sShr T V G gv n m y - V (6 * y + 2) * V (6 * y + 1) * zsum (sCntF T (nI y)) n
theorem q_potOf {d h n m : Nat} {w : zM} (C : zHc w h n m) (hm : 0 < m) : cal (d + 2) 1040 [.ref h] w = some (some (.int (sPot (w.1 (h + 4)) n m)), w) := by
  obtain ⟨H, c1, c2, c3, c4⟩ := id C
  obtain ⟨f1, -⟩ := zHs_f H
  have g1 := nI_nle0 hm (by omega)
  have g2 := nI_ne0' hm (by omega)
  simp only [c_1040, e_1040_0, e_1040_1, e_1040_4, e_1040_7, e_1040_8, e_1040_11, e_1040_12, e_1040_15, e_1040_16, e_1040_19, e_1040_20, zk_int, zk_ref, zk_null, zk_none, zk_long, zisR_r, zisR_n, zcl_int, zcl_ref, zcl_null, zpush_s, zpush_n, zbs, zbn, true_or, or_true, not_false_eq_true, not_true_eq_false, ↓reduceIte, and_self, and_true, true_and, f1, c3, g1, g2, q_givenByAll C]
  rfl
theorem q_byPointsOf {d h n m y : Nat} {w : zM} (C : zHc w h n m) (hy : y < m) : cal (d + 2) 1041 [.ref h, .int (nI y)] w = some (some (.int (sByP (w.1 (h + 2)) (w.1 (h + 4)) n m y)), w) := by
  obtain ⟨H, c1, c2, c3, c4⟩ := id C
  obtain ⟨f1, f2, f3, f4, f5, f6, f7, f8, f9, f10, f11, f12, f13⟩ := zHs_f H
  have key : ∀ r j, j + r = m → den (d + 2) 1041 4 [some (.ref h), some (.int (nI y)), some (.int (sPts (w.1 (h + 2)) j)), some (.int (nI j))] [] w = some (some (.int (sByP (w.1 (h + 2)) (w.1 (h + 4)) n m y)), w) := by
    intro r
    induction r with
    | zero =>
      intro j hj
      have e : j = m := by omega
      subst e
      have g1 := nI_le_n (Nat.le_refl j) (by omega)
      have q2 := q_waiterPart_3 (d := d) C hy
      unfold sByP
      by_cases hp : sPts (w.1 (h + 2)) j ≤ 0
      · simp only [c_1041, e_1041_0, e_1041_1, e_1041_2, e_1041_3, e_1041_5, e_1041_6, e_1041_9, e_1041_12, e_1041_13, e_1041_14, e_1041_15, e_1041_16, e_1041_19, e_1041_20, e_1041_21, e_1041_24, e_1041_27, e_1041_28, e_1041_31, e_1041_32, e_1041_35, e_1041_36, e_1041_37, e_1041_38, e_1041_41, e_1041_42, e_1041_43, e_1041_44, e_1041_47, e_1041_48, e_1041_4, zk_int, zk_ref, zk_null, zk_none, zk_long, zisR_r, zisR_n, zcl_int, zcl_ref, zcl_null, zpush_s, zpush_n, zbs, zbn, true_or, or_true, not_false_eq_true, not_true_eq_false, ↓reduceIte, and_self, and_true, true_and, f1, c3, g1, hp]
      · have hp2 : (sPts (w.1 (h + 2)) j = 0) = False := eq_false (fun z => hp (by rw [z]; exact Int32.le_refl 0))
        simp only [c_1041, e_1041_0, e_1041_1, e_1041_2, e_1041_3, e_1041_4, e_1041_5, e_1041_6, e_1041_9, e_1041_12, e_1041_13, e_1041_14, e_1041_15, e_1041_16, e_1041_19, e_1041_20, e_1041_21, e_1041_24, e_1041_27, e_1041_28, e_1041_31, e_1041_32, e_1041_35, e_1041_36, e_1041_37, e_1041_38, e_1041_41, e_1041_42, e_1041_43, e_1041_44, e_1041_47, e_1041_48, zk_int, zk_ref, zk_null, zk_none, zk_long, zisR_r, zisR_n, zcl_int, zcl_ref, zcl_null, zpush_s, zpush_n, zbs, zbn, true_or, or_true, not_false_eq_true, not_true_eq_false, ↓reduceIte, and_self, and_true, true_and, f1, c3, g1, hp, hp2, q_givenByAll C, q2]
    | succ r ih =>
      intro j hj
      have hjn : j < m := by omega
      have g1 := nI_ge_f hjn (by omega)
      have q1 := q_waiterPart_3 (d := d) C hjn
      have q2 : sPts (w.1 (h + 2)) j + w.1 (h + 2) (6 * j + 3) = sPts (w.1 (h + 2)) (j + 1) := rfl
      rw [e_1041_4]
      simp only [c_1041, e_1041_0, e_1041_1, e_1041_2, e_1041_3, e_1041_5, e_1041_6, e_1041_9, e_1041_12, e_1041_13, e_1041_14, e_1041_15, e_1041_16, e_1041_19, e_1041_20, e_1041_21, e_1041_24, e_1041_27, e_1041_28, e_1041_31, e_1041_32, e_1041_35, e_1041_36, e_1041_37, e_1041_38, e_1041_41, e_1041_42, e_1041_43, e_1041_44, e_1041_47, e_1041_48, zk_int, zk_ref, zk_null, zk_none, zk_long, zisR_r, zisR_n, zcl_int, zcl_ref, zcl_null, zpush_s, zpush_n, zbs, zbn, true_or, or_true, not_false_eq_true, not_true_eq_false, ↓reduceIte, and_self, and_true, true_and, f1, c3, g1, q1, nI_1, q2]
      exact ih (j + 1) (by omega)
  simp only [c_1041, e_1041_0, e_1041_1, e_1041_2, e_1041_3, e_1041_5, e_1041_6, e_1041_9, e_1041_12, e_1041_13, e_1041_14, e_1041_15, e_1041_16, e_1041_19, e_1041_20, e_1041_21, e_1041_24, e_1041_27, e_1041_28, e_1041_31, e_1041_32, e_1041_35, e_1041_36, e_1041_37, e_1041_38, e_1041_41, e_1041_42, e_1041_43, e_1041_44, e_1041_47, e_1041_48, zk_int, zk_ref, zk_null, zk_none, zk_long, zisR_r, zisR_n, zcl_int, zcl_ref, zcl_null, zpush_s, zpush_n, zbs, zbn, true_or, or_true, not_false_eq_true, not_true_eq_false, ↓reduceIte, and_self, and_true, true_and]
  exact key m 0 (by omega)
theorem q_shareOf {d h n m y : Nat} {w : zM} (C : zHc w h n m) (hy : y < m) : cal (d + 3) 1042 [.ref h, .int (nI y)] w = some (some (.int (sShr (w.1 (h + 1)) (w.1 (h + 2)) (w.1 (h + 3)) (w.1 (h + 4)) n m y)), w) := by
  obtain ⟨H, c1, c2, c3, c4⟩ := id C
  obtain ⟨f1, -⟩ := zHs_f H
  have z : ((2 : Int32) = 0) = False := by decide
  have q1 := q_potOf (d := d) C (by omega)
  have q2 := q_byPointsOf (d := d) C hy
  have q3 := q_ownOf (d := d) (y := nI y) C
  simp only [c_1042, e_1042_0, e_1042_1, e_1042_2, e_1042_5, e_1042_32, e_1042_33, e_1042_36, e_1042_37, e_1042_38, e_1042_39, e_1042_42, e_1042_43, e_1042_44, e_1042_45, e_1042_48, e_1042_49, e_1042_50, e_1042_51, e_1042_54, e_1042_55, e_1042_56, e_1042_57, e_1042_58, e_1042_59, e_1042_60, e_1042_63, zk_int, zk_ref, zk_null, zk_none, zk_long, zisR_r, zisR_n, zcl_int, zcl_ref, zcl_null, zpush_s, zpush_n, zbs, zbn, true_or, or_true, not_false_eq_true, not_true_eq_false, ↓reduceIte, and_self, and_true, true_and, f1, q_setting_0 H, q1, q2, q3, z]
  unfold sShr
  repeat' split
  all_goals rfl
theorem q_gainOf {d h n m y : Nat} {w : zM} (C : zHc w h n m) (hy : y < m) : cal (d + 4) 1043 [.ref h, .int (nI y)] w = some (some (.int (sGain (w.1 (h + 1)) (w.1 (h + 2)) (w.1 (h + 3)) (w.1 (h + 4)) n m y)), w) := by
  obtain ⟨H, c1, c2, c3, c4⟩ := id C
  obtain ⟨f1, -⟩ := zHs_f H
  have q1 := q_shareOf (d := d) C hy
  have q2 := q_waiterPart_2 (d := d + 2) C hy
  have q3 := q_waiterPart_1 (d := d + 2) C hy
  have q4 := q_tablesOfWaiter (d := d + 1) (y := nI y) C
  simp only [c_1043, e_1043_0, e_1043_1, e_1043_2, e_1043_5, e_1043_6, e_1043_7, e_1043_8, e_1043_11, e_1043_12, e_1043_13, e_1043_14, e_1043_17, e_1043_18, e_1043_19, e_1043_20, e_1043_23, e_1043_24, e_1043_25, zk_int, zk_ref, zk_null, zk_none, zk_long, zisR_r, zisR_n, zcl_int, zcl_ref, zcl_null, zpush_s, zpush_n, zbs, zbn, true_or, or_true, not_false_eq_true, not_true_eq_false, ↓reduceIte, and_self, and_true, true_and, f1, q1, q2, q3, q4]
  rfl
def zor (f : Nat → Int32) : Nat → Int32
  | 0 => 0
  | n + 1 => zor f n ||| f n
theorem zor_s (f : Nat → Int32) (n : Nat) : zor f n ||| f n = zor f (n + 1) := id rfl
def sLvF (T V G gv : Nat → Int32) (n m j : Nat) : Int32 := if V (6 * j + 4) ≤ sShr T V G gv n m j then 0 else 1 <<< (nI j &&& 31)
theorem q_leaverBits {d h n m : Nat} {w : zM} (C : zHc w h n m) : cal (d + 4) 1044 [.ref h] w = some (some (.int (zor (sLvF (w.1 (h + 1)) (w.1 (h + 2)) (w.1 (h + 3)) (w.1 (h + 4)) n m) m)), w) := by
  obtain ⟨H, c1, c2, c3, c4⟩ := id C
  obtain ⟨f1, f2, f3, f4, f5, f6, f7, f8, f9, f10, f11, f12, f13⟩ := zHs_f H
  have key : ∀ r j, j + r = m → den (d + 4) 1044 4 [some (.ref h), some (.int (zor (sLvF (w.1 (h + 1)) (w.1 (h + 2)) (w.1 (h + 3)) (w.1 (h + 4)) n m) j)), some (.int (nI j))] [] w = some (some (.int (zor (sLvF (w.1 (h + 1)) (w.1 (h + 2)) (w.1 (h + 3)) (w.1 (h + 4)) n m) m)), w) := by
    intro r
    induction r with
    | zero =>
      intro j hj
      have e : j = m := by omega
      subst e
      have g1 := nI_le_n (Nat.le_refl j) (by omega)
      simp only [c_1044, e_1044_0, e_1044_1, e_1044_2, e_1044_3, e_1044_4, e_1044_5, e_1044_6, e_1044_9, e_1044_12, e_1044_13, e_1044_14, e_1044_15, e_1044_18, e_1044_19, e_1044_20, e_1044_21, e_1044_24, e_1044_27, e_1044_28, e_1044_29, e_1044_30, e_1044_33, e_1044_34, e_1044_35, e_1044_36, e_1044_39, e_1044_42, e_1044_43, zk_int, zk_ref, zk_null, zk_none, zk_long, zisR_r, zisR_n, zcl_int, zcl_ref, zcl_null, zpush_s, zpush_n, zbs, zbn, true_or, or_true, not_false_eq_true, not_true_eq_false, ↓reduceIte, and_self, and_true, true_and, f1, c3, g1]
    | succ r ih =>
      intro j hj
      have hjn : j < m := by omega
      have g1 := nI_ge_f hjn (by omega)
      have q1 := q_shareOf (d := d) C hjn
      have q2 := q_waiterPart_4 (d := d + 2) C hjn
      have ih2 := ih (j + 1) (by omega)
      rw [e_1044_4]
      by_cases hc : w.1 (h + 2) (6 * j + 4) ≤ sShr (w.1 (h + 1)) (w.1 (h + 2)) (w.1 (h + 3)) (w.1 (h + 4)) n m j
      · have q3 : sLvF (w.1 (h + 1)) (w.1 (h + 2)) (w.1 (h + 3)) (w.1 (h + 4)) n m j = 0 := if_pos hc
        simp only [c_1044, e_1044_0, e_1044_1, e_1044_2, e_1044_3, e_1044_5, e_1044_6, e_1044_9, e_1044_12, e_1044_13, e_1044_14, e_1044_15, e_1044_18, e_1044_19, e_1044_20, e_1044_21, e_1044_24, e_1044_27, e_1044_28, e_1044_29, e_1044_30, e_1044_33, e_1044_34, e_1044_35, e_1044_36, e_1044_39, e_1044_42, e_1044_43, zk_int, zk_ref, zk_null, zk_none, zk_long, zisR_r, zisR_n, zcl_int, zcl_ref, zcl_null, zpush_s, zpush_n, zbs, zbn, true_or, or_true, not_false_eq_true, not_true_eq_false, ↓reduceIte, and_self, and_true, true_and, f1, c3, g1, q1, q2, hc, nI_1]
        rw [← zor_s, q3] at ih2
        exact ih2
      · have q3 : sLvF (w.1 (h + 1)) (w.1 (h + 2)) (w.1 (h + 3)) (w.1 (h + 4)) n m j = 1 <<< (nI j &&& 31) := if_neg hc
        simp only [c_1044, e_1044_0, e_1044_1, e_1044_2, e_1044_3, e_1044_5, e_1044_6, e_1044_9, e_1044_12, e_1044_13, e_1044_14, e_1044_15, e_1044_18, e_1044_19, e_1044_20, e_1044_21, e_1044_24, e_1044_27, e_1044_28, e_1044_29, e_1044_30, e_1044_33, e_1044_34, e_1044_35, e_1044_36, e_1044_39, e_1044_42, e_1044_43, zk_int, zk_ref, zk_null, zk_none, zk_long, zisR_r, zisR_n, zcl_int, zcl_ref, zcl_null, zpush_s, zpush_n, zbs, zbn, true_or, or_true, not_false_eq_true, not_true_eq_false, ↓reduceIte, and_self, and_true, true_and, f1, c3, g1, q1, q2, hc, nI_1]
        rw [← zor_s, q3] at ih2
        exact ih2
  simp only [c_1044, e_1044_0, e_1044_1, e_1044_2, e_1044_3, e_1044_5, e_1044_6, e_1044_9, e_1044_12, e_1044_13, e_1044_14, e_1044_15, e_1044_18, e_1044_19, e_1044_20, e_1044_21, e_1044_24, e_1044_27, e_1044_28, e_1044_29, e_1044_30, e_1044_33, e_1044_34, e_1044_35, e_1044_36, e_1044_39, e_1044_42, e_1044_43, zk_int, zk_ref, zk_null, zk_none, zk_long, zisR_r, zisR_n, zcl_int, zcl_ref, zcl_null, zpush_s, zpush_n, zbs, zbn, true_or, or_true, not_false_eq_true, not_true_eq_false, ↓reduceIte, and_self, and_true, true_and]
  exact key m 0 (by omega)
def sNxt (s : Int32) : Int32 := s * 1103515245 + 12345
def sDrw (s n : Int32) : Int32 := (s.toUInt32 >>> ((16 : Int32).toUInt32 &&& Int32.toUInt32 31)).toInt32 - (s.toUInt32 >>> ((16 : Int32).toUInt32 &&& Int32.toUInt32 31)).toInt32 / n * n
theorem q_drawBelow {d h : Nat} {w : zM} {x : Int32} (H : zHs h) (hx : ¬ x ≤ 0) (hx0 : ¬ x = 0) : cal d 1046 [.ref h, .int x] w = some (some (.int (sDrw (sNxt (w.1 h 7)) x)), zuA w h (upd (w.1 h) 7 (sNxt (w.1 h 7)))) := by
  obtain ⟨f1, -⟩ := zHs_f H
  have e1 : ∀ (f : Nat → Int32) (v : Int32), upd f 7 v 7 = v := fun f v => if_pos rfl
  simp only [c_1046, e_1046_0, e_1046_1, e_1046_2, e_1046_5, e_1046_7, e_1046_8, e_1046_11, e_1046_12, e_1046_15, e_1046_16, e_1046_19, e_1046_20, e_1046_23, e_1046_25, e_1046_26, e_1046_27, e_1046_28, e_1046_31, e_1046_32, zk_int, zk_ref, zk_null, zk_none, zk_long, zisR_r, zisR_n, zcl_int, zcl_ref, zcl_null, zpush_s, zpush_n, zbs, zbn, true_or, or_true, not_false_eq_true, not_true_eq_false, ↓reduceIte, and_self, and_true, true_and, f1, zui_A, zA_s, e1, hx, hx0]
  rfl
def sDgW (w : zM) (h : Nat) (s : Int32) (T : Nat → Int32) : zM := zuA (zuA w h (upd (w.1 h) 7 s)) (h + 1) T
def sDg (s : Int32) (T : Nat → Int32) : Nat → Int32 × (Nat → Int32)
  | 0 => (s, T)
  | t + 1 => (sNxt (sNxt (sNxt (sNxt (sDg s T t).1))), sGst (sDg s T t).2 t (sDrw (sNxt (sDg s T t).1) 7) (sDrw (sNxt (sNxt (sDg s T t).1)) 99 + 1) (sDrw (sNxt (sNxt (sNxt (sDg s T t).1))) 6 + 1) (sDrw (sNxt (sNxt (sNxt (sNxt (sDg s T t).1)))) 25))
theorem q_drawB {d h : Nat} {w : zM} {s x : Int32} {T : Nat → Int32} (H : zHs h) (hx : ¬ x ≤ 0) (hx0 : ¬ x = 0) : cal d 1046 [.ref h, .int x] (sDgW w h s T) = some (some (.int (sDrw (sNxt s) x)), sDgW w h (sNxt s) T) := by
  have e1 : (sDgW w h s T).1 h = upd (w.1 h) 7 s := by unfold sDgW; rw [zA_n _ _ (by omega), zA_s]
  have e2 : upd (w.1 h) 7 s 7 = s := if_pos rfl
  rw [q_drawBelow H hx hx0, e1, e2, upd_u]
  unfold sDgW
  rw [zA_c _ _ _ (by omega), zA_A]
theorem q_drawGuests {d h n m : Nat} {w : zM} (C : zHc w h n m) : cal (d + 3) 1047 [.ref h] w = some (none, sDgW w h (sDg (w.1 h 7) (w.1 (h + 1)) n).1 (sDg (w.1 h 7) (w.1 (h + 1)) n).2) := by
  obtain ⟨H, c1, c2, c3, c4⟩ := id C
  obtain ⟨f1, -⟩ := zHs_f H
  have d7 := fun s T => q_drawB (d := d + 2) (w := w) (s := s) (T := T) (x := 7) H (by decide) (by decide)
  have d99 := fun s T => q_drawB (d := d + 2) (w := w) (s := s) (T := T) (x := 99) H (by decide) (by decide)
  have d6 := fun s T => q_drawB (d := d + 2) (w := w) (s := s) (T := T) (x := 6) H (by decide) (by decide)
  have d25 := fun s T => q_drawB (d := d + 2) (w := w) (s := s) (T := T) (x := 25) H (by decide) (by decide)
  have key : ∀ r j o2 o3 o4 o5, j + r = n → den (d + 3) 1047 2 [some (.ref h), some (.int (nI j)), o2, o3, o4, o5] [] (sDgW w h (sDg (w.1 h 7) (w.1 (h + 1)) j).1 (sDg (w.1 h 7) (w.1 (h + 1)) j).2) = some (none, sDgW w h (sDg (w.1 h 7) (w.1 (h + 1)) n).1 (sDg (w.1 h 7) (w.1 (h + 1)) n).2) := by
    intro r
    induction r with
    | zero =>
      intro j o2 o3 o4 o5 hj
      have e : j = n := by omega
      subst e
      have g1 := nI_le_n (Nat.le_refl j) (by omega)
      have c1' : (sDgW w h (sDg (w.1 h 7) (w.1 (h + 1)) j).1 (sDg (w.1 h 7) (w.1 (h + 1)) j).2).1 h 3 = nI j := by unfold sDgW; rw [zA_n _ _ (by omega), zA_s]; exact c1
      simp only [c_1047, e_1047_0, e_1047_1, e_1047_2, e_1047_3, e_1047_4, e_1047_7, e_1047_10, e_1047_11, e_1047_13, e_1047_16, e_1047_17, e_1047_18, e_1047_20, e_1047_23, e_1047_24, e_1047_25, e_1047_26, e_1047_27, e_1047_29, e_1047_32, e_1047_33, e_1047_34, e_1047_36, e_1047_37, e_1047_39, e_1047_42, e_1047_44, e_1047_45, e_1047_46, e_1047_47, e_1047_48, e_1047_50, e_1047_52, e_1047_55, e_1047_58, e_1047_61, zk_int, zk_ref, zk_null, zk_none, zk_long, zisR_r, zisR_n, zcl_int, zcl_ref, zcl_null, zpush_s, zpush_n, zbs, zbn, true_or, or_true, not_false_eq_true, not_true_eq_false, ↓reduceIte, and_self, and_true, true_and, f1, c1', g1]
    | succ r ih =>
      intro j o2 o3 o4 o5 hj
      have hjn : j < n := by omega
      have hj8 : j < 8 := by omega
      have g1 := nI_ge_f hjn (by omega)
      have c1' : (sDgW w h (sDg (w.1 h 7) (w.1 (h + 1)) j).1 (sDg (w.1 h 7) (w.1 (h + 1)) j).2).1 h 3 = nI n := by unfold sDgW; rw [zA_n _ _ (by omega), zA_s]; exact c1
      have sg : ∀ s T k b p a, cal (d + 2) 1019 [.ref h, .int (nI j), .int k, .int b, .int p, .int a] (sDgW w h s T) = some (none, sDgW w h s (sGst T j k b p a)) := by
        intro s T k b p a
        rw [q_setGuests H hj8]
        have e1 : (sDgW w h s T).1 (h + 1) = T := zA_s _ _ _
        rw [e1]
        unfold sDgW
        rw [zA_A]
      rw [e_1047_2]
      simp only [c_1047, e_1047_0, e_1047_1, e_1047_3, e_1047_4, e_1047_7, e_1047_10, e_1047_11, e_1047_13, e_1047_16, e_1047_17, e_1047_18, e_1047_20, e_1047_23, e_1047_24, e_1047_25, e_1047_26, e_1047_27, e_1047_29, e_1047_32, e_1047_33, e_1047_34, e_1047_36, e_1047_37, e_1047_39, e_1047_42, e_1047_44, e_1047_45, e_1047_46, e_1047_47, e_1047_48, e_1047_50, e_1047_52, e_1047_55, e_1047_58, e_1047_61, zk_int, zk_ref, zk_null, zk_none, zk_long, zisR_r, zisR_n, zcl_int, zcl_ref, zcl_null, zpush_s, zpush_n, zbs, zbn, true_or, or_true, not_false_eq_true, not_true_eq_false, ↓reduceIte, and_self, and_true, true_and, f1, c1', g1, d7, d99, d6, d25, sg, nI_1]
      exact ih (j + 1) _ _ _ _ (by omega)
  have h1 := key n 0 none none none none (by omega)
  have e0 : sDgW w h (sDg (w.1 h 7) (w.1 (h + 1)) 0).1 (sDg (w.1 h 7) (w.1 (h + 1)) 0).2 = w := by
    show sDgW w h (w.1 h 7) (w.1 (h + 1)) = w
    unfold sDgW
    rw [upd_id, zA_id, zA_id]
  rw [e0] at h1
  simp only [c_1047, e_1047_0, e_1047_1, e_1047_3, e_1047_4, e_1047_7, e_1047_10, e_1047_11, e_1047_13, e_1047_16, e_1047_17, e_1047_18, e_1047_20, e_1047_23, e_1047_24, e_1047_25, e_1047_26, e_1047_27, e_1047_29, e_1047_32, e_1047_33, e_1047_34, e_1047_36, e_1047_37, e_1047_39, e_1047_42, e_1047_44, e_1047_45, e_1047_46, e_1047_47, e_1047_48, e_1047_50, e_1047_52, e_1047_55, e_1047_58, e_1047_61, zk_int, zk_ref, zk_null, zk_none, zk_long, zisR_r, zisR_n, zcl_int, zcl_ref, zcl_null, zpush_s, zpush_n, zbs, zbn, true_or, or_true, not_false_eq_true, not_true_eq_false, ↓reduceIte, and_self, and_true, true_and]
  exact h1
def sBec (w : zM) (h k : Nat) : zM := zuA (zuA (zuA (zuA w (h + 1) (zcpy (w.1 (k + 1)) (w.1 (h + 1)) 40)) (h + 2) (zcpy (w.1 (k + 2)) (w.1 (h + 2)) 24)) (h + 3) (zcpy (w.1 (k + 3)) (w.1 (h + 3)) 5)) h (upd (upd (upd (upd (upd (w.1 h) 3 (w.1 k 3)) 4 (w.1 k 4)) 5 (w.1 k 5)) 6 (w.1 k 6)) 7 (w.1 k 7))
theorem q_becomeAs {d h k : Nat} {w : zM} (H : zHs h) (K : zHs k) (hk : h ≠ k) : cal (d + 1) 1001 [.ref h, .ref k] w = some (none, sBec w h k) := by
  obtain ⟨f1, f2, f3, f4, f5, f6, f7, f8, f9, f10, f11, f12, f13⟩ := zHs_f H
  obtain ⟨k1, k2, k3, k4, k5, k6, k7, k8, k9, k10, k11, k12, k13⟩ := zHs_f K
  have ap := zHs_ap H K hk
  have qa := fun (w : zM) => q_copyAll (d := d) (w := w) (a := k + 1) (b := h + 1) (n := 40) k6 f6 k10 f10 (by omega) (by decide)
  have qb := fun (w : zM) => q_copyAll (d := d) (w := w) (a := k + 2) (b := h + 2) (n := 24) k7 f7 k11 f11 (by omega) (by decide)
  have qc := fun (w : zM) => q_copyAll (d := d) (w := w) (a := k + 3) (b := h + 3) (n := 5) k8 f8 k12 f12 (by omega) (by decide)
  have n1 : ∀ (w : zM) (f : Nat → Int32), (zuA w (h + 1) f).1 (k + 2) = w.1 (k + 2) := fun w f => zA_n _ _ (by omega)
  have n2 : ∀ (w : zM) (f : Nat → Int32), (zuA w (h + 1) f).1 (h + 2) = w.1 (h + 2) := fun w f => zA_n _ _ (by omega)
  have n3 : ∀ (w : zM) (f : Nat → Int32), (zuA w (h + 2) f).1 (k + 3) = w.1 (k + 3) := fun w f => zA_n _ _ (by omega)
  have n4 : ∀ (w : zM) (f : Nat → Int32), (zuA w (h + 1) f).1 (k + 3) = w.1 (k + 3) := fun w f => zA_n _ _ (by omega)
  have n5 : ∀ (w : zM) (f : Nat → Int32), (zuA w (h + 2) f).1 (h + 3) = w.1 (h + 3) := fun w f => zA_n _ _ (by omega)
  have n6 : ∀ (w : zM) (f : Nat → Int32), (zuA w (h + 1) f).1 (h + 3) = w.1 (h + 3) := fun w f => zA_n _ _ (by omega)
  have n7 : ∀ (w : zM) (f : Nat → Int32), (zuA w (h + 1) f).1 k = w.1 k := fun w f => zA_n _ _ (by omega)
  have n8 : ∀ (w : zM) (f : Nat → Int32), (zuA w (h + 2) f).1 k = w.1 k := fun w f => zA_n _ _ (by omega)
  have n9 : ∀ (w : zM) (f : Nat → Int32), (zuA w (h + 3) f).1 k = w.1 k := fun w f => zA_n _ _ (by omega)
  have m1 : ∀ (w : zM) (f : Nat → Int32), (zuA w (h + 1) f).1 h = w.1 h := fun w f => zA_n _ _ (by omega)
  have m2 : ∀ (w : zM) (f : Nat → Int32), (zuA w (h + 2) f).1 h = w.1 h := fun w f => zA_n _ _ (by omega)
  have m3 : ∀ (w : zM) (f : Nat → Int32), (zuA w (h + 3) f).1 h = w.1 h := fun w f => zA_n _ _ (by omega)
  have m4 : ∀ (w : zM) (f : Nat → Int32), (zuA w h f).1 k = w.1 k := fun w f => zA_n _ _ (by omega)
  simp only [c_1001, e_1001_0, e_1001_1, e_1001_4, e_1001_5, e_1001_8, e_1001_11, e_1001_12, e_1001_15, e_1001_16, e_1001_19, e_1001_22, e_1001_23, e_1001_26, e_1001_27, e_1001_30, e_1001_33, e_1001_34, e_1001_35, e_1001_38, e_1001_41, e_1001_42, e_1001_43, e_1001_46, e_1001_49, e_1001_50, e_1001_51, e_1001_54, e_1001_57, e_1001_58, e_1001_59, e_1001_62, e_1001_65, e_1001_66, e_1001_67, e_1001_70, e_1001_73, zk_int, zk_ref, zk_null, zk_none, zk_long, zisR_r, zisR_n, zcl_int, zcl_ref, zcl_null, zpush_s, zpush_n, zbs, zbn, true_or, or_true, not_false_eq_true, not_true_eq_false, ↓reduceIte, and_self, and_true, true_and, f1, f2, f3, f4, k1, k2, k3, k4, qa, qb, qc, zui_A, n1, n2, n3, n4, n5, n6, n7, n8, n9, m1, m2, m3, m4, zA_s, zA_A]
  rfl
theorem q_changeSeed {d h : Nat} {w : zM} {x : Int32} (H : zHs h) : cal d 1007 [.ref h, .int x] w = some (some (.int (w.1 h 7)), zuA w h (upd (w.1 h) 7 x)) := by
  obtain ⟨f1, -⟩ := zHs_f H
  simp only [c_1007, e_1007_0, e_1007_1, e_1007_4, e_1007_5, e_1007_6, e_1007_7, e_1007_10, e_1007_11, zk_int, zk_ref, zk_null, zk_none, zk_long, zisR_r, zisR_n, zcl_int, zcl_ref, zcl_null, zpush_s, zpush_n, zbs, zbn, true_or, or_true, not_false_eq_true, not_true_eq_false, ↓reduceIte, and_self, and_true, true_and, f1, zui_A]
theorem q_waiterPartMayBe_0 {d : Nat} {w : zM} {v : Int32} : cal (d + 1) 1010 [.int 0, .int v] w = some (some (.int (if 0 ≤ v ∧ v ≤ 6 then 1 else 0)), w) := by
  have e1003 : ztab 1003 0 = 0 := by decide +kernel
  have q1003 : cal d 5054 [.ref 1003, .int 0] w = some (some (.int 0), w) := (q_atS (j := 0) zt_1003 (by rw [zn_1003]; decide) (by rw [zn_1003]; decide)).trans (congrArg (fun z => some (some (Value.int z), w)) e1003)
  have e1004 : ztab 1004 0 = 6 := by decide +kernel
  have q1004 : cal d 5054 [.ref 1004, .int 0] w = some (some (.int 6), w) := (q_atS (j := 0) zt_1004 (by rw [zn_1004]; decide) (by rw [zn_1004]; decide)).trans (congrArg (fun z => some (some (Value.int z), w)) e1004)
  have z0 : ((0 : Int32) < 0) = False := by decide
  have z1 : (0 ≤ (0 : Int32)) = True := by decide
  have z2 : ((4 : Int32) < 0) = False := by decide
  have z3 : ((5 : Int32) ≤ 0) = False := by decide
  by_cases h1 : v < 0
  · have h2 : ¬ (0 : Int32) ≤ v := Int32.not_le.mpr h1
    simp only [c_1010, e_1010_0, e_1010_1, e_1010_4, e_1010_5, e_1010_6, e_1010_9, e_1010_10, e_1010_13, e_1010_14, e_1010_17, e_1010_20, e_1010_21, e_1010_24, e_1010_25, e_1010_28, e_1010_31, e_1010_32, e_1010_35, e_1010_36, zk_int, zk_ref, zk_null, zk_none, zk_long, zisR_r, zisR_n, zcl_int, zcl_ref, zcl_null, zpush_s, zpush_n, zbs, zbn, true_or, or_true, not_false_eq_true, not_true_eq_false, ↓reduceIte, and_self, and_true, true_and, q1003, q1004, z0, z1, z2, z3, h1, h2, false_and]
  · have h2 : (0 : Int32) ≤ v := Int32.not_lt.mp h1
    by_cases h3 : 6 < v
    · have h4 : ¬ v ≤ (6 : Int32) := Int32.not_le.mpr h3
      simp only [c_1010, e_1010_0, e_1010_1, e_1010_4, e_1010_5, e_1010_6, e_1010_9, e_1010_10, e_1010_13, e_1010_14, e_1010_17, e_1010_20, e_1010_21, e_1010_24, e_1010_25, e_1010_28, e_1010_31, e_1010_32, e_1010_35, e_1010_36, zk_int, zk_ref, zk_null, zk_none, zk_long, zisR_r, zisR_n, zcl_int, zcl_ref, zcl_null, zpush_s, zpush_n, zbs, zbn, true_or, or_true, not_false_eq_true, not_true_eq_false, ↓reduceIte, and_self, and_true, true_and, q1003, q1004, z0, z1, z2, z3, h1, h2, h3, h4, and_false]
    · have h4 : v ≤ (6 : Int32) := Int32.not_lt.mp h3
      simp only [c_1010, e_1010_0, e_1010_1, e_1010_4, e_1010_5, e_1010_6, e_1010_9, e_1010_10, e_1010_13, e_1010_14, e_1010_17, e_1010_20, e_1010_21, e_1010_24, e_1010_25, e_1010_28, e_1010_31, e_1010_32, e_1010_35, e_1010_36, zk_int, zk_ref, zk_null, zk_none, zk_long, zisR_r, zisR_n, zcl_int, zcl_ref, zcl_null, zpush_s, zpush_n, zbs, zbn, true_or, or_true, not_false_eq_true, not_true_eq_false, ↓reduceIte, and_self, and_true, true_and, q1003, q1004, z0, z1, z2, z3, h1, h2, h3, h4]
theorem q_waiterPartMayBe_1 {d : Nat} {w : zM} {v : Int32} : cal (d + 1) 1010 [.int 1, .int v] w = some (some (.int (if 0 ≤ v ∧ v ≤ 3 then 1 else 0)), w) := by
  have e1003 : ztab 1003 1 = 0 := by decide +kernel
  have q1003 : cal d 5054 [.ref 1003, .int 1] w = some (some (.int 0), w) := (q_atS (j := 1) zt_1003 (by rw [zn_1003]; decide) (by rw [zn_1003]; decide)).trans (congrArg (fun z => some (some (Value.int z), w)) e1003)
  have e1004 : ztab 1004 1 = 3 := by decide +kernel
  have q1004 : cal d 5054 [.ref 1004, .int 1] w = some (some (.int 3), w) := (q_atS (j := 1) zt_1004 (by rw [zn_1004]; decide) (by rw [zn_1004]; decide)).trans (congrArg (fun z => some (some (Value.int z), w)) e1004)
  have z0 : ((1 : Int32) < 0) = False := by decide
  have z1 : (0 ≤ (1 : Int32)) = True := by decide
  have z2 : ((4 : Int32) < 1) = False := by decide
  have z3 : ((5 : Int32) ≤ 1) = False := by decide
  by_cases h1 : v < 0
  · have h2 : ¬ (0 : Int32) ≤ v := Int32.not_le.mpr h1
    simp only [c_1010, e_1010_0, e_1010_1, e_1010_4, e_1010_5, e_1010_6, e_1010_9, e_1010_10, e_1010_13, e_1010_14, e_1010_17, e_1010_20, e_1010_21, e_1010_24, e_1010_25, e_1010_28, e_1010_31, e_1010_32, e_1010_35, e_1010_36, zk_int, zk_ref, zk_null, zk_none, zk_long, zisR_r, zisR_n, zcl_int, zcl_ref, zcl_null, zpush_s, zpush_n, zbs, zbn, true_or, or_true, not_false_eq_true, not_true_eq_false, ↓reduceIte, and_self, and_true, true_and, q1003, q1004, z0, z1, z2, z3, h1, h2, false_and]
  · have h2 : (0 : Int32) ≤ v := Int32.not_lt.mp h1
    by_cases h3 : 3 < v
    · have h4 : ¬ v ≤ (3 : Int32) := Int32.not_le.mpr h3
      simp only [c_1010, e_1010_0, e_1010_1, e_1010_4, e_1010_5, e_1010_6, e_1010_9, e_1010_10, e_1010_13, e_1010_14, e_1010_17, e_1010_20, e_1010_21, e_1010_24, e_1010_25, e_1010_28, e_1010_31, e_1010_32, e_1010_35, e_1010_36, zk_int, zk_ref, zk_null, zk_none, zk_long, zisR_r, zisR_n, zcl_int, zcl_ref, zcl_null, zpush_s, zpush_n, zbs, zbn, true_or, or_true, not_false_eq_true, not_true_eq_false, ↓reduceIte, and_self, and_true, true_and, q1003, q1004, z0, z1, z2, z3, h1, h2, h3, h4, and_false]
    · have h4 : v ≤ (3 : Int32) := Int32.not_lt.mp h3
      simp only [c_1010, e_1010_0, e_1010_1, e_1010_4, e_1010_5, e_1010_6, e_1010_9, e_1010_10, e_1010_13, e_1010_14, e_1010_17, e_1010_20, e_1010_21, e_1010_24, e_1010_25, e_1010_28, e_1010_31, e_1010_32, e_1010_35, e_1010_36, zk_int, zk_ref, zk_null, zk_none, zk_long, zisR_r, zisR_n, zcl_int, zcl_ref, zcl_null, zpush_s, zpush_n, zbs, zbn, true_or, or_true, not_false_eq_true, not_true_eq_false, ↓reduceIte, and_self, and_true, true_and, q1003, q1004, z0, z1, z2, z3, h1, h2, h3, h4]
theorem q_waiterPartMayBe_2 {d : Nat} {w : zM} {v : Int32} : cal (d + 1) 1010 [.int 2, .int v] w = some (some (.int (if 0 ≤ v ∧ v ≤ 99 then 1 else 0)), w) := by
  have e1003 : ztab 1003 2 = 0 := by decide +kernel
  have q1003 : cal d 5054 [.ref 1003, .int 2] w = some (some (.int 0), w) := (q_atS (j := 2) zt_1003 (by rw [zn_1003]; decide) (by rw [zn_1003]; decide)).trans (congrArg (fun z => some (some (Value.int z), w)) e1003)
  have e1004 : ztab 1004 2 = 99 := by decide +kernel
  have q1004 : cal d 5054 [.ref 1004, .int 2] w = some (some (.int 99), w) := (q_atS (j := 2) zt_1004 (by rw [zn_1004]; decide) (by rw [zn_1004]; decide)).trans (congrArg (fun z => some (some (Value.int z), w)) e1004)
  have z0 : ((2 : Int32) < 0) = False := by decide
  have z1 : (0 ≤ (2 : Int32)) = True := by decide
  have z2 : ((4 : Int32) < 2) = False := by decide
  have z3 : ((5 : Int32) ≤ 2) = False := by decide
  by_cases h1 : v < 0
  · have h2 : ¬ (0 : Int32) ≤ v := Int32.not_le.mpr h1
    simp only [c_1010, e_1010_0, e_1010_1, e_1010_4, e_1010_5, e_1010_6, e_1010_9, e_1010_10, e_1010_13, e_1010_14, e_1010_17, e_1010_20, e_1010_21, e_1010_24, e_1010_25, e_1010_28, e_1010_31, e_1010_32, e_1010_35, e_1010_36, zk_int, zk_ref, zk_null, zk_none, zk_long, zisR_r, zisR_n, zcl_int, zcl_ref, zcl_null, zpush_s, zpush_n, zbs, zbn, true_or, or_true, not_false_eq_true, not_true_eq_false, ↓reduceIte, and_self, and_true, true_and, q1003, q1004, z0, z1, z2, z3, h1, h2, false_and]
  · have h2 : (0 : Int32) ≤ v := Int32.not_lt.mp h1
    by_cases h3 : 99 < v
    · have h4 : ¬ v ≤ (99 : Int32) := Int32.not_le.mpr h3
      simp only [c_1010, e_1010_0, e_1010_1, e_1010_4, e_1010_5, e_1010_6, e_1010_9, e_1010_10, e_1010_13, e_1010_14, e_1010_17, e_1010_20, e_1010_21, e_1010_24, e_1010_25, e_1010_28, e_1010_31, e_1010_32, e_1010_35, e_1010_36, zk_int, zk_ref, zk_null, zk_none, zk_long, zisR_r, zisR_n, zcl_int, zcl_ref, zcl_null, zpush_s, zpush_n, zbs, zbn, true_or, or_true, not_false_eq_true, not_true_eq_false, ↓reduceIte, and_self, and_true, true_and, q1003, q1004, z0, z1, z2, z3, h1, h2, h3, h4, and_false]
    · have h4 : v ≤ (99 : Int32) := Int32.not_lt.mp h3
      simp only [c_1010, e_1010_0, e_1010_1, e_1010_4, e_1010_5, e_1010_6, e_1010_9, e_1010_10, e_1010_13, e_1010_14, e_1010_17, e_1010_20, e_1010_21, e_1010_24, e_1010_25, e_1010_28, e_1010_31, e_1010_32, e_1010_35, e_1010_36, zk_int, zk_ref, zk_null, zk_none, zk_long, zisR_r, zisR_n, zcl_int, zcl_ref, zcl_null, zpush_s, zpush_n, zbs, zbn, true_or, or_true, not_false_eq_true, not_true_eq_false, ↓reduceIte, and_self, and_true, true_and, q1003, q1004, z0, z1, z2, z3, h1, h2, h3, h4]
theorem q_waiterPartMayBe_3 {d : Nat} {w : zM} {v : Int32} : cal (d + 1) 1010 [.int 3, .int v] w = some (some (.int (if 1 ≤ v ∧ v ≤ 9 then 1 else 0)), w) := by
  have e1003 : ztab 1003 3 = 1 := by decide +kernel
  have q1003 : cal d 5054 [.ref 1003, .int 3] w = some (some (.int 1), w) := (q_atS (j := 3) zt_1003 (by rw [zn_1003]; decide) (by rw [zn_1003]; decide)).trans (congrArg (fun z => some (some (Value.int z), w)) e1003)
  have e1004 : ztab 1004 3 = 9 := by decide +kernel
  have q1004 : cal d 5054 [.ref 1004, .int 3] w = some (some (.int 9), w) := (q_atS (j := 3) zt_1004 (by rw [zn_1004]; decide) (by rw [zn_1004]; decide)).trans (congrArg (fun z => some (some (Value.int z), w)) e1004)
  have z0 : ((3 : Int32) < 0) = False := by decide
  have z1 : (0 ≤ (3 : Int32)) = True := by decide
  have z2 : ((4 : Int32) < 3) = False := by decide
  have z3 : ((5 : Int32) ≤ 3) = False := by decide
  by_cases h1 : v < 1
  · have h2 : ¬ (1 : Int32) ≤ v := Int32.not_le.mpr h1
    simp only [c_1010, e_1010_0, e_1010_1, e_1010_4, e_1010_5, e_1010_6, e_1010_9, e_1010_10, e_1010_13, e_1010_14, e_1010_17, e_1010_20, e_1010_21, e_1010_24, e_1010_25, e_1010_28, e_1010_31, e_1010_32, e_1010_35, e_1010_36, zk_int, zk_ref, zk_null, zk_none, zk_long, zisR_r, zisR_n, zcl_int, zcl_ref, zcl_null, zpush_s, zpush_n, zbs, zbn, true_or, or_true, not_false_eq_true, not_true_eq_false, ↓reduceIte, and_self, and_true, true_and, q1003, q1004, z0, z1, z2, z3, h1, h2, false_and]
  · have h2 : (1 : Int32) ≤ v := Int32.not_lt.mp h1
    by_cases h3 : 9 < v
    · have h4 : ¬ v ≤ (9 : Int32) := Int32.not_le.mpr h3
      simp only [c_1010, e_1010_0, e_1010_1, e_1010_4, e_1010_5, e_1010_6, e_1010_9, e_1010_10, e_1010_13, e_1010_14, e_1010_17, e_1010_20, e_1010_21, e_1010_24, e_1010_25, e_1010_28, e_1010_31, e_1010_32, e_1010_35, e_1010_36, zk_int, zk_ref, zk_null, zk_none, zk_long, zisR_r, zisR_n, zcl_int, zcl_ref, zcl_null, zpush_s, zpush_n, zbs, zbn, true_or, or_true, not_false_eq_true, not_true_eq_false, ↓reduceIte, and_self, and_true, true_and, q1003, q1004, z0, z1, z2, z3, h1, h2, h3, h4, and_false]
    · have h4 : v ≤ (9 : Int32) := Int32.not_lt.mp h3
      simp only [c_1010, e_1010_0, e_1010_1, e_1010_4, e_1010_5, e_1010_6, e_1010_9, e_1010_10, e_1010_13, e_1010_14, e_1010_17, e_1010_20, e_1010_21, e_1010_24, e_1010_25, e_1010_28, e_1010_31, e_1010_32, e_1010_35, e_1010_36, zk_int, zk_ref, zk_null, zk_none, zk_long, zisR_r, zisR_n, zcl_int, zcl_ref, zcl_null, zpush_s, zpush_n, zbs, zbn, true_or, or_true, not_false_eq_true, not_true_eq_false, ↓reduceIte, and_self, and_true, true_and, q1003, q1004, z0, z1, z2, z3, h1, h2, h3, h4]
theorem q_waiterPartMayBe_4 {d : Nat} {w : zM} {v : Int32} : cal (d + 1) 1010 [.int 4, .int v] w = some (some (.int (if 0 ≤ v ∧ v ≤ 999 then 1 else 0)), w) := by
  have e1003 : ztab 1003 4 = 0 := by decide +kernel
  have q1003 : cal d 5054 [.ref 1003, .int 4] w = some (some (.int 0), w) := (q_atS (j := 4) zt_1003 (by rw [zn_1003]; decide) (by rw [zn_1003]; decide)).trans (congrArg (fun z => some (some (Value.int z), w)) e1003)
  have e1004 : ztab 1004 4 = 999 := by decide +kernel
  have q1004 : cal d 5054 [.ref 1004, .int 4] w = some (some (.int 999), w) := (q_atS (j := 4) zt_1004 (by rw [zn_1004]; decide) (by rw [zn_1004]; decide)).trans (congrArg (fun z => some (some (Value.int z), w)) e1004)
  have z0 : ((4 : Int32) < 0) = False := by decide
  have z1 : (0 ≤ (4 : Int32)) = True := by decide
  have z2 : ((4 : Int32) < 4) = False := by decide
  have z3 : ((5 : Int32) ≤ 4) = False := by decide
  by_cases h1 : v < 0
  · have h2 : ¬ (0 : Int32) ≤ v := Int32.not_le.mpr h1
    simp only [c_1010, e_1010_0, e_1010_1, e_1010_4, e_1010_5, e_1010_6, e_1010_9, e_1010_10, e_1010_13, e_1010_14, e_1010_17, e_1010_20, e_1010_21, e_1010_24, e_1010_25, e_1010_28, e_1010_31, e_1010_32, e_1010_35, e_1010_36, zk_int, zk_ref, zk_null, zk_none, zk_long, zisR_r, zisR_n, zcl_int, zcl_ref, zcl_null, zpush_s, zpush_n, zbs, zbn, true_or, or_true, not_false_eq_true, not_true_eq_false, ↓reduceIte, and_self, and_true, true_and, q1003, q1004, z0, z1, z2, z3, h1, h2, false_and]
  · have h2 : (0 : Int32) ≤ v := Int32.not_lt.mp h1
    by_cases h3 : 999 < v
    · have h4 : ¬ v ≤ (999 : Int32) := Int32.not_le.mpr h3
      simp only [c_1010, e_1010_0, e_1010_1, e_1010_4, e_1010_5, e_1010_6, e_1010_9, e_1010_10, e_1010_13, e_1010_14, e_1010_17, e_1010_20, e_1010_21, e_1010_24, e_1010_25, e_1010_28, e_1010_31, e_1010_32, e_1010_35, e_1010_36, zk_int, zk_ref, zk_null, zk_none, zk_long, zisR_r, zisR_n, zcl_int, zcl_ref, zcl_null, zpush_s, zpush_n, zbs, zbn, true_or, or_true, not_false_eq_true, not_true_eq_false, ↓reduceIte, and_self, and_true, true_and, q1003, q1004, z0, z1, z2, z3, h1, h2, h3, h4, and_false]
    · have h4 : v ≤ (999 : Int32) := Int32.not_lt.mp h3
      simp only [c_1010, e_1010_0, e_1010_1, e_1010_4, e_1010_5, e_1010_6, e_1010_9, e_1010_10, e_1010_13, e_1010_14, e_1010_17, e_1010_20, e_1010_21, e_1010_24, e_1010_25, e_1010_28, e_1010_31, e_1010_32, e_1010_35, e_1010_36, zk_int, zk_ref, zk_null, zk_none, zk_long, zisR_r, zisR_n, zcl_int, zcl_ref, zcl_null, zpush_s, zpush_n, zbs, zbn, true_or, or_true, not_false_eq_true, not_true_eq_false, ↓reduceIte, and_self, and_true, true_and, q1003, q1004, z0, z1, z2, z3, h1, h2, h3, h4]
theorem q_settingMayBe_0 {d : Nat} {w : zM} {v : Int32} : cal (d + 1) 1011 [.int 0, .int v] w = some (some (.int (if 0 ≤ v ∧ v ≤ 3 then 1 else 0)), w) := by
  have e1005 : ztab 1005 0 = 3 := by decide +kernel
  have q1005 : cal d 5054 [.ref 1005, .int 0] w = some (some (.int 3), w) := (q_atS (j := 0) zt_1005 (by rw [zn_1005]; decide) (by rw [zn_1005]; decide)).trans (congrArg (fun z => some (some (Value.int z), w)) e1005)
  have z0 : ((0 : Int32) < 0) = False := by decide
  have z1 : (0 ≤ (0 : Int32)) = True := by decide
  have z2 : ((4 : Int32) < 0) = False := by decide
  have z3 : ((5 : Int32) ≤ 0) = False := by decide
  by_cases h1 : v < 0
  · have h2 : ¬ (0 : Int32) ≤ v := Int32.not_le.mpr h1
    simp only [c_1011, e_1011_0, e_1011_1, e_1011_4, e_1011_5, e_1011_6, e_1011_9, e_1011_10, e_1011_13, e_1011_14, e_1011_17, e_1011_18, e_1011_21, e_1011_24, e_1011_25, e_1011_28, e_1011_29, zk_int, zk_ref, zk_null, zk_none, zk_long, zisR_r, zisR_n, zcl_int, zcl_ref, zcl_null, zpush_s, zpush_n, zbs, zbn, true_or, or_true, not_false_eq_true, not_true_eq_false, ↓reduceIte, and_self, and_true, true_and, q1005, z0, z1, z2, z3, h1, h2, false_and]
  · have h2 : (0 : Int32) ≤ v := Int32.not_lt.mp h1
    by_cases h3 : 3 < v
    · have h4 : ¬ v ≤ (3 : Int32) := Int32.not_le.mpr h3
      simp only [c_1011, e_1011_0, e_1011_1, e_1011_4, e_1011_5, e_1011_6, e_1011_9, e_1011_10, e_1011_13, e_1011_14, e_1011_17, e_1011_18, e_1011_21, e_1011_24, e_1011_25, e_1011_28, e_1011_29, zk_int, zk_ref, zk_null, zk_none, zk_long, zisR_r, zisR_n, zcl_int, zcl_ref, zcl_null, zpush_s, zpush_n, zbs, zbn, true_or, or_true, not_false_eq_true, not_true_eq_false, ↓reduceIte, and_self, and_true, true_and, q1005, z0, z1, z2, z3, h1, h2, h3, h4, and_false]
    · have h4 : v ≤ (3 : Int32) := Int32.not_lt.mp h3
      simp only [c_1011, e_1011_0, e_1011_1, e_1011_4, e_1011_5, e_1011_6, e_1011_9, e_1011_10, e_1011_13, e_1011_14, e_1011_17, e_1011_18, e_1011_21, e_1011_24, e_1011_25, e_1011_28, e_1011_29, zk_int, zk_ref, zk_null, zk_none, zk_long, zisR_r, zisR_n, zcl_int, zcl_ref, zcl_null, zpush_s, zpush_n, zbs, zbn, true_or, or_true, not_false_eq_true, not_true_eq_false, ↓reduceIte, and_self, and_true, true_and, q1005, z0, z1, z2, z3, h1, h2, h3, h4]
theorem q_settingMayBe_1 {d : Nat} {w : zM} {v : Int32} : cal (d + 1) 1011 [.int 1, .int v] w = some (some (.int (if 0 ≤ v ∧ v ≤ 30 then 1 else 0)), w) := by
  have e1005 : ztab 1005 1 = 30 := by decide +kernel
  have q1005 : cal d 5054 [.ref 1005, .int 1] w = some (some (.int 30), w) := (q_atS (j := 1) zt_1005 (by rw [zn_1005]; decide) (by rw [zn_1005]; decide)).trans (congrArg (fun z => some (some (Value.int z), w)) e1005)
  have z0 : ((1 : Int32) < 0) = False := by decide
  have z1 : (0 ≤ (1 : Int32)) = True := by decide
  have z2 : ((4 : Int32) < 1) = False := by decide
  have z3 : ((5 : Int32) ≤ 1) = False := by decide
  by_cases h1 : v < 0
  · have h2 : ¬ (0 : Int32) ≤ v := Int32.not_le.mpr h1
    simp only [c_1011, e_1011_0, e_1011_1, e_1011_4, e_1011_5, e_1011_6, e_1011_9, e_1011_10, e_1011_13, e_1011_14, e_1011_17, e_1011_18, e_1011_21, e_1011_24, e_1011_25, e_1011_28, e_1011_29, zk_int, zk_ref, zk_null, zk_none, zk_long, zisR_r, zisR_n, zcl_int, zcl_ref, zcl_null, zpush_s, zpush_n, zbs, zbn, true_or, or_true, not_false_eq_true, not_true_eq_false, ↓reduceIte, and_self, and_true, true_and, q1005, z0, z1, z2, z3, h1, h2, false_and]
  · have h2 : (0 : Int32) ≤ v := Int32.not_lt.mp h1
    by_cases h3 : 30 < v
    · have h4 : ¬ v ≤ (30 : Int32) := Int32.not_le.mpr h3
      simp only [c_1011, e_1011_0, e_1011_1, e_1011_4, e_1011_5, e_1011_6, e_1011_9, e_1011_10, e_1011_13, e_1011_14, e_1011_17, e_1011_18, e_1011_21, e_1011_24, e_1011_25, e_1011_28, e_1011_29, zk_int, zk_ref, zk_null, zk_none, zk_long, zisR_r, zisR_n, zcl_int, zcl_ref, zcl_null, zpush_s, zpush_n, zbs, zbn, true_or, or_true, not_false_eq_true, not_true_eq_false, ↓reduceIte, and_self, and_true, true_and, q1005, z0, z1, z2, z3, h1, h2, h3, h4, and_false]
    · have h4 : v ≤ (30 : Int32) := Int32.not_lt.mp h3
      simp only [c_1011, e_1011_0, e_1011_1, e_1011_4, e_1011_5, e_1011_6, e_1011_9, e_1011_10, e_1011_13, e_1011_14, e_1011_17, e_1011_18, e_1011_21, e_1011_24, e_1011_25, e_1011_28, e_1011_29, zk_int, zk_ref, zk_null, zk_none, zk_long, zisR_r, zisR_n, zcl_int, zcl_ref, zcl_null, zpush_s, zpush_n, zbs, zbn, true_or, or_true, not_false_eq_true, not_true_eq_false, ↓reduceIte, and_self, and_true, true_and, q1005, z0, z1, z2, z3, h1, h2, h3, h4]
theorem q_settingMayBe_2 {d : Nat} {w : zM} {v : Int32} : cal (d + 1) 1011 [.int 2, .int v] w = some (some (.int (if 0 ≤ v ∧ v ≤ 99 then 1 else 0)), w) := by
  have e1005 : ztab 1005 2 = 99 := by decide +kernel
  have q1005 : cal d 5054 [.ref 1005, .int 2] w = some (some (.int 99), w) := (q_atS (j := 2) zt_1005 (by rw [zn_1005]; decide) (by rw [zn_1005]; decide)).trans (congrArg (fun z => some (some (Value.int z), w)) e1005)
  have z0 : ((2 : Int32) < 0) = False := by decide
  have z1 : (0 ≤ (2 : Int32)) = True := by decide
  have z2 : ((4 : Int32) < 2) = False := by decide
  have z3 : ((5 : Int32) ≤ 2) = False := by decide
  by_cases h1 : v < 0
  · have h2 : ¬ (0 : Int32) ≤ v := Int32.not_le.mpr h1
    simp only [c_1011, e_1011_0, e_1011_1, e_1011_4, e_1011_5, e_1011_6, e_1011_9, e_1011_10, e_1011_13, e_1011_14, e_1011_17, e_1011_18, e_1011_21, e_1011_24, e_1011_25, e_1011_28, e_1011_29, zk_int, zk_ref, zk_null, zk_none, zk_long, zisR_r, zisR_n, zcl_int, zcl_ref, zcl_null, zpush_s, zpush_n, zbs, zbn, true_or, or_true, not_false_eq_true, not_true_eq_false, ↓reduceIte, and_self, and_true, true_and, q1005, z0, z1, z2, z3, h1, h2, false_and]
  · have h2 : (0 : Int32) ≤ v := Int32.not_lt.mp h1
    by_cases h3 : 99 < v
    · have h4 : ¬ v ≤ (99 : Int32) := Int32.not_le.mpr h3
      simp only [c_1011, e_1011_0, e_1011_1, e_1011_4, e_1011_5, e_1011_6, e_1011_9, e_1011_10, e_1011_13, e_1011_14, e_1011_17, e_1011_18, e_1011_21, e_1011_24, e_1011_25, e_1011_28, e_1011_29, zk_int, zk_ref, zk_null, zk_none, zk_long, zisR_r, zisR_n, zcl_int, zcl_ref, zcl_null, zpush_s, zpush_n, zbs, zbn, true_or, or_true, not_false_eq_true, not_true_eq_false, ↓reduceIte, and_self, and_true, true_and, q1005, z0, z1, z2, z3, h1, h2, h3, h4, and_false]
    · have h4 : v ≤ (99 : Int32) := Int32.not_lt.mp h3
      simp only [c_1011, e_1011_0, e_1011_1, e_1011_4, e_1011_5, e_1011_6, e_1011_9, e_1011_10, e_1011_13, e_1011_14, e_1011_17, e_1011_18, e_1011_21, e_1011_24, e_1011_25, e_1011_28, e_1011_29, zk_int, zk_ref, zk_null, zk_none, zk_long, zisR_r, zisR_n, zcl_int, zcl_ref, zcl_null, zpush_s, zpush_n, zbs, zbn, true_or, or_true, not_false_eq_true, not_true_eq_false, ↓reduceIte, and_self, and_true, true_and, q1005, z0, z1, z2, z3, h1, h2, h3, h4]
theorem q_settingMayBe_3 {d : Nat} {w : zM} {v : Int32} : cal (d + 1) 1011 [.int 3, .int v] w = some (some (.int (if 0 ≤ v ∧ v ≤ 99 then 1 else 0)), w) := by
  have e1005 : ztab 1005 3 = 99 := by decide +kernel
  have q1005 : cal d 5054 [.ref 1005, .int 3] w = some (some (.int 99), w) := (q_atS (j := 3) zt_1005 (by rw [zn_1005]; decide) (by rw [zn_1005]; decide)).trans (congrArg (fun z => some (some (Value.int z), w)) e1005)
  have z0 : ((3 : Int32) < 0) = False := by decide
  have z1 : (0 ≤ (3 : Int32)) = True := by decide
  have z2 : ((4 : Int32) < 3) = False := by decide
  have z3 : ((5 : Int32) ≤ 3) = False := by decide
  by_cases h1 : v < 0
  · have h2 : ¬ (0 : Int32) ≤ v := Int32.not_le.mpr h1
    simp only [c_1011, e_1011_0, e_1011_1, e_1011_4, e_1011_5, e_1011_6, e_1011_9, e_1011_10, e_1011_13, e_1011_14, e_1011_17, e_1011_18, e_1011_21, e_1011_24, e_1011_25, e_1011_28, e_1011_29, zk_int, zk_ref, zk_null, zk_none, zk_long, zisR_r, zisR_n, zcl_int, zcl_ref, zcl_null, zpush_s, zpush_n, zbs, zbn, true_or, or_true, not_false_eq_true, not_true_eq_false, ↓reduceIte, and_self, and_true, true_and, q1005, z0, z1, z2, z3, h1, h2, false_and]
  · have h2 : (0 : Int32) ≤ v := Int32.not_lt.mp h1
    by_cases h3 : 99 < v
    · have h4 : ¬ v ≤ (99 : Int32) := Int32.not_le.mpr h3
      simp only [c_1011, e_1011_0, e_1011_1, e_1011_4, e_1011_5, e_1011_6, e_1011_9, e_1011_10, e_1011_13, e_1011_14, e_1011_17, e_1011_18, e_1011_21, e_1011_24, e_1011_25, e_1011_28, e_1011_29, zk_int, zk_ref, zk_null, zk_none, zk_long, zisR_r, zisR_n, zcl_int, zcl_ref, zcl_null, zpush_s, zpush_n, zbs, zbn, true_or, or_true, not_false_eq_true, not_true_eq_false, ↓reduceIte, and_self, and_true, true_and, q1005, z0, z1, z2, z3, h1, h2, h3, h4, and_false]
    · have h4 : v ≤ (99 : Int32) := Int32.not_lt.mp h3
      simp only [c_1011, e_1011_0, e_1011_1, e_1011_4, e_1011_5, e_1011_6, e_1011_9, e_1011_10, e_1011_13, e_1011_14, e_1011_17, e_1011_18, e_1011_21, e_1011_24, e_1011_25, e_1011_28, e_1011_29, zk_int, zk_ref, zk_null, zk_none, zk_long, zisR_r, zisR_n, zcl_int, zcl_ref, zcl_null, zpush_s, zpush_n, zbs, zbn, true_or, or_true, not_false_eq_true, not_true_eq_false, ↓reduceIte, and_self, and_true, true_and, q1005, z0, z1, z2, z3, h1, h2, h3, h4]
theorem q_settingMayBe_4 {d : Nat} {w : zM} {v : Int32} : cal (d + 1) 1011 [.int 4, .int v] w = some (some (.int (if 0 ≤ v ∧ v ≤ 99 then 1 else 0)), w) := by
  have e1005 : ztab 1005 4 = 99 := by decide +kernel
  have q1005 : cal d 5054 [.ref 1005, .int 4] w = some (some (.int 99), w) := (q_atS (j := 4) zt_1005 (by rw [zn_1005]; decide) (by rw [zn_1005]; decide)).trans (congrArg (fun z => some (some (Value.int z), w)) e1005)
  have z0 : ((4 : Int32) < 0) = False := by decide
  have z1 : (0 ≤ (4 : Int32)) = True := by decide
  have z2 : ((4 : Int32) < 4) = False := by decide
  have z3 : ((5 : Int32) ≤ 4) = False := by decide
  by_cases h1 : v < 0
  · have h2 : ¬ (0 : Int32) ≤ v := Int32.not_le.mpr h1
    simp only [c_1011, e_1011_0, e_1011_1, e_1011_4, e_1011_5, e_1011_6, e_1011_9, e_1011_10, e_1011_13, e_1011_14, e_1011_17, e_1011_18, e_1011_21, e_1011_24, e_1011_25, e_1011_28, e_1011_29, zk_int, zk_ref, zk_null, zk_none, zk_long, zisR_r, zisR_n, zcl_int, zcl_ref, zcl_null, zpush_s, zpush_n, zbs, zbn, true_or, or_true, not_false_eq_true, not_true_eq_false, ↓reduceIte, and_self, and_true, true_and, q1005, z0, z1, z2, z3, h1, h2, false_and]
  · have h2 : (0 : Int32) ≤ v := Int32.not_lt.mp h1
    by_cases h3 : 99 < v
    · have h4 : ¬ v ≤ (99 : Int32) := Int32.not_le.mpr h3
      simp only [c_1011, e_1011_0, e_1011_1, e_1011_4, e_1011_5, e_1011_6, e_1011_9, e_1011_10, e_1011_13, e_1011_14, e_1011_17, e_1011_18, e_1011_21, e_1011_24, e_1011_25, e_1011_28, e_1011_29, zk_int, zk_ref, zk_null, zk_none, zk_long, zisR_r, zisR_n, zcl_int, zcl_ref, zcl_null, zpush_s, zpush_n, zbs, zbn, true_or, or_true, not_false_eq_true, not_true_eq_false, ↓reduceIte, and_self, and_true, true_and, q1005, z0, z1, z2, z3, h1, h2, h3, h4, and_false]
    · have h4 : v ≤ (99 : Int32) := Int32.not_lt.mp h3
      simp only [c_1011, e_1011_0, e_1011_1, e_1011_4, e_1011_5, e_1011_6, e_1011_9, e_1011_10, e_1011_13, e_1011_14, e_1011_17, e_1011_18, e_1011_21, e_1011_24, e_1011_25, e_1011_28, e_1011_29, zk_int, zk_ref, zk_null, zk_none, zk_long, zisR_r, zisR_n, zcl_int, zcl_ref, zcl_null, zpush_s, zpush_n, zbs, zbn, true_or, or_true, not_false_eq_true, not_true_eq_false, ↓reduceIte, and_self, and_true, true_and, q1005, z0, z1, z2, z3, h1, h2, h3, h4]
theorem q_tablePartMayBe_0 {d h : Nat} {w : zM} {v : Int32} (H : zHs h) : cal (d + 1) 1012 [.ref h, .int 0, .int v] w = some (some (.int (if 0 ≤ v ∧ v ≤ 6 then 1 else 0)), w) := by
  obtain ⟨f1, -⟩ := zHs_f H
  have e1001 : ztab 1001 0 = 0 := by decide +kernel
  have q1001 : cal d 5054 [.ref 1001, .int 0] w = some (some (.int 0), w) := (q_atS (j := 0) zt_1001 (by rw [zn_1001]; decide) (by rw [zn_1001]; decide)).trans (congrArg (fun z => some (some (Value.int z), w)) e1001)
  have e1002 : ztab 1002 0 = 6 := by decide +kernel
  have q1002 : cal d 5054 [.ref 1002, .int 0] w = some (some (.int 6), w) := (q_atS (j := 0) zt_1002 (by rw [zn_1002]; decide) (by rw [zn_1002]; decide)).trans (congrArg (fun z => some (some (Value.int z), w)) e1002)
  have z0 : ((0 : Int32) < 0) = False := by decide
  have z1 : (0 ≤ (0 : Int32)) = True := by decide
  have z2 : ((4 : Int32) < 0) = False := by decide
  have z3 : ((5 : Int32) ≤ 0) = False := by decide
  have z4 : ((3 : Int32) < 0) = False := by decide
  have z5 : ((0 : Int32) = 4) = False := by decide
  by_cases h1 : v < 0
  · have h2 : ¬ (0 : Int32) ≤ v := Int32.not_le.mpr h1
    simp only [c_1012, e_1012_0, e_1012_1, e_1012_2, e_1012_5, e_1012_6, e_1012_7, e_1012_10, e_1012_11, e_1012_12, e_1012_15, e_1012_16, e_1012_17, e_1012_20, e_1012_21, e_1012_24, e_1012_25, e_1012_28, e_1012_31, e_1012_32, e_1012_35, e_1012_36, e_1012_39, e_1012_42, e_1012_43, e_1012_46, e_1012_47, zk_int, zk_ref, zk_null, zk_none, zk_long, zisR_r, zisR_n, zcl_int, zcl_ref, zcl_null, zpush_s, zpush_n, zbs, zbn, true_or, or_true, not_false_eq_true, not_true_eq_false, ↓reduceIte, and_self, and_true, true_and, f1, q1001, q1002, z0, z1, z2, z3, z4, z5, h1, h2, false_and]
  · have h2 : (0 : Int32) ≤ v := Int32.not_lt.mp h1
    by_cases h3 : 6 < v
    · have h4 : ¬ v ≤ (6 : Int32) := Int32.not_le.mpr h3
      simp only [c_1012, e_1012_0, e_1012_1, e_1012_2, e_1012_5, e_1012_6, e_1012_7, e_1012_10, e_1012_11, e_1012_12, e_1012_15, e_1012_16, e_1012_17, e_1012_20, e_1012_21, e_1012_24, e_1012_25, e_1012_28, e_1012_31, e_1012_32, e_1012_35, e_1012_36, e_1012_39, e_1012_42, e_1012_43, e_1012_46, e_1012_47, zk_int, zk_ref, zk_null, zk_none, zk_long, zisR_r, zisR_n, zcl_int, zcl_ref, zcl_null, zpush_s, zpush_n, zbs, zbn, true_or, or_true, not_false_eq_true, not_true_eq_false, ↓reduceIte, and_self, and_true, true_and, f1, q1001, q1002, z0, z1, z2, z3, z4, z5, h1, h2, h3, h4, and_false]
    · have h4 : v ≤ (6 : Int32) := Int32.not_lt.mp h3
      simp only [c_1012, e_1012_0, e_1012_1, e_1012_2, e_1012_5, e_1012_6, e_1012_7, e_1012_10, e_1012_11, e_1012_12, e_1012_15, e_1012_16, e_1012_17, e_1012_20, e_1012_21, e_1012_24, e_1012_25, e_1012_28, e_1012_31, e_1012_32, e_1012_35, e_1012_36, e_1012_39, e_1012_42, e_1012_43, e_1012_46, e_1012_47, zk_int, zk_ref, zk_null, zk_none, zk_long, zisR_r, zisR_n, zcl_int, zcl_ref, zcl_null, zpush_s, zpush_n, zbs, zbn, true_or, or_true, not_false_eq_true, not_true_eq_false, ↓reduceIte, and_self, and_true, true_and, f1, q1001, q1002, z0, z1, z2, z3, z4, z5, h1, h2, h3, h4]
theorem q_tablePartMayBe_1 {d h : Nat} {w : zM} {v : Int32} (H : zHs h) : cal (d + 1) 1012 [.ref h, .int 1, .int v] w = some (some (.int (if 1 ≤ v ∧ v ≤ 999 then 1 else 0)), w) := by
  obtain ⟨f1, -⟩ := zHs_f H
  have e1001 : ztab 1001 1 = 1 := by decide +kernel
  have q1001 : cal d 5054 [.ref 1001, .int 1] w = some (some (.int 1), w) := (q_atS (j := 1) zt_1001 (by rw [zn_1001]; decide) (by rw [zn_1001]; decide)).trans (congrArg (fun z => some (some (Value.int z), w)) e1001)
  have e1002 : ztab 1002 1 = 999 := by decide +kernel
  have q1002 : cal d 5054 [.ref 1002, .int 1] w = some (some (.int 999), w) := (q_atS (j := 1) zt_1002 (by rw [zn_1002]; decide) (by rw [zn_1002]; decide)).trans (congrArg (fun z => some (some (Value.int z), w)) e1002)
  have z0 : ((1 : Int32) < 0) = False := by decide
  have z1 : (0 ≤ (1 : Int32)) = True := by decide
  have z2 : ((4 : Int32) < 1) = False := by decide
  have z3 : ((5 : Int32) ≤ 1) = False := by decide
  have z4 : ((3 : Int32) < 1) = False := by decide
  have z5 : ((1 : Int32) = 4) = False := by decide
  by_cases h1 : v < 1
  · have h2 : ¬ (1 : Int32) ≤ v := Int32.not_le.mpr h1
    simp only [c_1012, e_1012_0, e_1012_1, e_1012_2, e_1012_5, e_1012_6, e_1012_7, e_1012_10, e_1012_11, e_1012_12, e_1012_15, e_1012_16, e_1012_17, e_1012_20, e_1012_21, e_1012_24, e_1012_25, e_1012_28, e_1012_31, e_1012_32, e_1012_35, e_1012_36, e_1012_39, e_1012_42, e_1012_43, e_1012_46, e_1012_47, zk_int, zk_ref, zk_null, zk_none, zk_long, zisR_r, zisR_n, zcl_int, zcl_ref, zcl_null, zpush_s, zpush_n, zbs, zbn, true_or, or_true, not_false_eq_true, not_true_eq_false, ↓reduceIte, and_self, and_true, true_and, f1, q1001, q1002, z0, z1, z2, z3, z4, z5, h1, h2, false_and]
  · have h2 : (1 : Int32) ≤ v := Int32.not_lt.mp h1
    by_cases h3 : 999 < v
    · have h4 : ¬ v ≤ (999 : Int32) := Int32.not_le.mpr h3
      simp only [c_1012, e_1012_0, e_1012_1, e_1012_2, e_1012_5, e_1012_6, e_1012_7, e_1012_10, e_1012_11, e_1012_12, e_1012_15, e_1012_16, e_1012_17, e_1012_20, e_1012_21, e_1012_24, e_1012_25, e_1012_28, e_1012_31, e_1012_32, e_1012_35, e_1012_36, e_1012_39, e_1012_42, e_1012_43, e_1012_46, e_1012_47, zk_int, zk_ref, zk_null, zk_none, zk_long, zisR_r, zisR_n, zcl_int, zcl_ref, zcl_null, zpush_s, zpush_n, zbs, zbn, true_or, or_true, not_false_eq_true, not_true_eq_false, ↓reduceIte, and_self, and_true, true_and, f1, q1001, q1002, z0, z1, z2, z3, z4, z5, h1, h2, h3, h4, and_false]
    · have h4 : v ≤ (999 : Int32) := Int32.not_lt.mp h3
      simp only [c_1012, e_1012_0, e_1012_1, e_1012_2, e_1012_5, e_1012_6, e_1012_7, e_1012_10, e_1012_11, e_1012_12, e_1012_15, e_1012_16, e_1012_17, e_1012_20, e_1012_21, e_1012_24, e_1012_25, e_1012_28, e_1012_31, e_1012_32, e_1012_35, e_1012_36, e_1012_39, e_1012_42, e_1012_43, e_1012_46, e_1012_47, zk_int, zk_ref, zk_null, zk_none, zk_long, zisR_r, zisR_n, zcl_int, zcl_ref, zcl_null, zpush_s, zpush_n, zbs, zbn, true_or, or_true, not_false_eq_true, not_true_eq_false, ↓reduceIte, and_self, and_true, true_and, f1, q1001, q1002, z0, z1, z2, z3, z4, z5, h1, h2, h3, h4]
theorem q_tablePartMayBe_2 {d h : Nat} {w : zM} {v : Int32} (H : zHs h) : cal (d + 1) 1012 [.ref h, .int 2, .int v] w = some (some (.int (if 1 ≤ v ∧ v ≤ 9 then 1 else 0)), w) := by
  obtain ⟨f1, -⟩ := zHs_f H
  have e1001 : ztab 1001 2 = 1 := by decide +kernel
  have q1001 : cal d 5054 [.ref 1001, .int 2] w = some (some (.int 1), w) := (q_atS (j := 2) zt_1001 (by rw [zn_1001]; decide) (by rw [zn_1001]; decide)).trans (congrArg (fun z => some (some (Value.int z), w)) e1001)
  have e1002 : ztab 1002 2 = 9 := by decide +kernel
  have q1002 : cal d 5054 [.ref 1002, .int 2] w = some (some (.int 9), w) := (q_atS (j := 2) zt_1002 (by rw [zn_1002]; decide) (by rw [zn_1002]; decide)).trans (congrArg (fun z => some (some (Value.int z), w)) e1002)
  have z0 : ((2 : Int32) < 0) = False := by decide
  have z1 : (0 ≤ (2 : Int32)) = True := by decide
  have z2 : ((4 : Int32) < 2) = False := by decide
  have z3 : ((5 : Int32) ≤ 2) = False := by decide
  have z4 : ((3 : Int32) < 2) = False := by decide
  have z5 : ((2 : Int32) = 4) = False := by decide
  by_cases h1 : v < 1
  · have h2 : ¬ (1 : Int32) ≤ v := Int32.not_le.mpr h1
    simp only [c_1012, e_1012_0, e_1012_1, e_1012_2, e_1012_5, e_1012_6, e_1012_7, e_1012_10, e_1012_11, e_1012_12, e_1012_15, e_1012_16, e_1012_17, e_1012_20, e_1012_21, e_1012_24, e_1012_25, e_1012_28, e_1012_31, e_1012_32, e_1012_35, e_1012_36, e_1012_39, e_1012_42, e_1012_43, e_1012_46, e_1012_47, zk_int, zk_ref, zk_null, zk_none, zk_long, zisR_r, zisR_n, zcl_int, zcl_ref, zcl_null, zpush_s, zpush_n, zbs, zbn, true_or, or_true, not_false_eq_true, not_true_eq_false, ↓reduceIte, and_self, and_true, true_and, f1, q1001, q1002, z0, z1, z2, z3, z4, z5, h1, h2, false_and]
  · have h2 : (1 : Int32) ≤ v := Int32.not_lt.mp h1
    by_cases h3 : 9 < v
    · have h4 : ¬ v ≤ (9 : Int32) := Int32.not_le.mpr h3
      simp only [c_1012, e_1012_0, e_1012_1, e_1012_2, e_1012_5, e_1012_6, e_1012_7, e_1012_10, e_1012_11, e_1012_12, e_1012_15, e_1012_16, e_1012_17, e_1012_20, e_1012_21, e_1012_24, e_1012_25, e_1012_28, e_1012_31, e_1012_32, e_1012_35, e_1012_36, e_1012_39, e_1012_42, e_1012_43, e_1012_46, e_1012_47, zk_int, zk_ref, zk_null, zk_none, zk_long, zisR_r, zisR_n, zcl_int, zcl_ref, zcl_null, zpush_s, zpush_n, zbs, zbn, true_or, or_true, not_false_eq_true, not_true_eq_false, ↓reduceIte, and_self, and_true, true_and, f1, q1001, q1002, z0, z1, z2, z3, z4, z5, h1, h2, h3, h4, and_false]
    · have h4 : v ≤ (9 : Int32) := Int32.not_lt.mp h3
      simp only [c_1012, e_1012_0, e_1012_1, e_1012_2, e_1012_5, e_1012_6, e_1012_7, e_1012_10, e_1012_11, e_1012_12, e_1012_15, e_1012_16, e_1012_17, e_1012_20, e_1012_21, e_1012_24, e_1012_25, e_1012_28, e_1012_31, e_1012_32, e_1012_35, e_1012_36, e_1012_39, e_1012_42, e_1012_43, e_1012_46, e_1012_47, zk_int, zk_ref, zk_null, zk_none, zk_long, zisR_r, zisR_n, zcl_int, zcl_ref, zcl_null, zpush_s, zpush_n, zbs, zbn, true_or, or_true, not_false_eq_true, not_true_eq_false, ↓reduceIte, and_self, and_true, true_and, f1, q1001, q1002, z0, z1, z2, z3, z4, z5, h1, h2, h3, h4]
theorem q_tablePartMayBe_3 {d h : Nat} {w : zM} {v : Int32} (H : zHs h) : cal (d + 1) 1012 [.ref h, .int 3, .int v] w = some (some (.int (if 0 ≤ v ∧ v ≤ 99 then 1 else 0)), w) := by
  obtain ⟨f1, -⟩ := zHs_f H
  have e1001 : ztab 1001 3 = 0 := by decide +kernel
  have q1001 : cal d 5054 [.ref 1001, .int 3] w = some (some (.int 0), w) := (q_atS (j := 3) zt_1001 (by rw [zn_1001]; decide) (by rw [zn_1001]; decide)).trans (congrArg (fun z => some (some (Value.int z), w)) e1001)
  have e1002 : ztab 1002 3 = 99 := by decide +kernel
  have q1002 : cal d 5054 [.ref 1002, .int 3] w = some (some (.int 99), w) := (q_atS (j := 3) zt_1002 (by rw [zn_1002]; decide) (by rw [zn_1002]; decide)).trans (congrArg (fun z => some (some (Value.int z), w)) e1002)
  have z0 : ((3 : Int32) < 0) = False := by decide
  have z1 : (0 ≤ (3 : Int32)) = True := by decide
  have z2 : ((4 : Int32) < 3) = False := by decide
  have z3 : ((5 : Int32) ≤ 3) = False := by decide
  have z4 : ((3 : Int32) < 3) = False := by decide
  have z5 : ((3 : Int32) = 4) = False := by decide
  by_cases h1 : v < 0
  · have h2 : ¬ (0 : Int32) ≤ v := Int32.not_le.mpr h1
    simp only [c_1012, e_1012_0, e_1012_1, e_1012_2, e_1012_5, e_1012_6, e_1012_7, e_1012_10, e_1012_11, e_1012_12, e_1012_15, e_1012_16, e_1012_17, e_1012_20, e_1012_21, e_1012_24, e_1012_25, e_1012_28, e_1012_31, e_1012_32, e_1012_35, e_1012_36, e_1012_39, e_1012_42, e_1012_43, e_1012_46, e_1012_47, zk_int, zk_ref, zk_null, zk_none, zk_long, zisR_r, zisR_n, zcl_int, zcl_ref, zcl_null, zpush_s, zpush_n, zbs, zbn, true_or, or_true, not_false_eq_true, not_true_eq_false, ↓reduceIte, and_self, and_true, true_and, f1, q1001, q1002, z0, z1, z2, z3, z4, z5, h1, h2, false_and]
  · have h2 : (0 : Int32) ≤ v := Int32.not_lt.mp h1
    by_cases h3 : 99 < v
    · have h4 : ¬ v ≤ (99 : Int32) := Int32.not_le.mpr h3
      simp only [c_1012, e_1012_0, e_1012_1, e_1012_2, e_1012_5, e_1012_6, e_1012_7, e_1012_10, e_1012_11, e_1012_12, e_1012_15, e_1012_16, e_1012_17, e_1012_20, e_1012_21, e_1012_24, e_1012_25, e_1012_28, e_1012_31, e_1012_32, e_1012_35, e_1012_36, e_1012_39, e_1012_42, e_1012_43, e_1012_46, e_1012_47, zk_int, zk_ref, zk_null, zk_none, zk_long, zisR_r, zisR_n, zcl_int, zcl_ref, zcl_null, zpush_s, zpush_n, zbs, zbn, true_or, or_true, not_false_eq_true, not_true_eq_false, ↓reduceIte, and_self, and_true, true_and, f1, q1001, q1002, z0, z1, z2, z3, z4, z5, h1, h2, h3, h4, and_false]
    · have h4 : v ≤ (99 : Int32) := Int32.not_lt.mp h3
      simp only [c_1012, e_1012_0, e_1012_1, e_1012_2, e_1012_5, e_1012_6, e_1012_7, e_1012_10, e_1012_11, e_1012_12, e_1012_15, e_1012_16, e_1012_17, e_1012_20, e_1012_21, e_1012_24, e_1012_25, e_1012_28, e_1012_31, e_1012_32, e_1012_35, e_1012_36, e_1012_39, e_1012_42, e_1012_43, e_1012_46, e_1012_47, zk_int, zk_ref, zk_null, zk_none, zk_long, zisR_r, zisR_n, zcl_int, zcl_ref, zcl_null, zpush_s, zpush_n, zbs, zbn, true_or, or_true, not_false_eq_true, not_true_eq_false, ↓reduceIte, and_self, and_true, true_and, f1, q1001, q1002, z0, z1, z2, z3, z4, z5, h1, h2, h3, h4]
theorem q_settingMayBe_o {d : Nat} {w : zM} {y v : Int32} (hy : y < 0 ∨ 5 ≤ y) : cal (d + 1) 1011 [.int y, .int v] w = some (some (.int 0), w) := by
  by_cases h0 : y < 0
  · simp only [c_1011, e_1011_0, e_1011_1, e_1011_4, e_1011_5, e_1011_6, e_1011_9, e_1011_10, e_1011_13, e_1011_14, e_1011_17, e_1011_18, e_1011_21, e_1011_24, e_1011_25, e_1011_28, e_1011_29, zk_int, zk_ref, zk_null, zk_none, zk_long, zisR_r, zisR_n, zcl_int, zcl_ref, zcl_null, zpush_s, zpush_n, zbs, zbn, true_or, or_true, not_false_eq_true, not_true_eq_false, ↓reduceIte, and_self, and_true, true_and, h0]
  · have h1 := hy.resolve_left h0
    simp only [c_1011, e_1011_0, e_1011_1, e_1011_4, e_1011_5, e_1011_6, e_1011_9, e_1011_10, e_1011_13, e_1011_14, e_1011_17, e_1011_18, e_1011_21, e_1011_24, e_1011_25, e_1011_28, e_1011_29, zk_int, zk_ref, zk_null, zk_none, zk_long, zisR_r, zisR_n, zcl_int, zcl_ref, zcl_null, zpush_s, zpush_n, zbs, zbn, true_or, or_true, not_false_eq_true, not_true_eq_false, ↓reduceIte, and_self, and_true, true_and, h0, h1]
theorem q_hasRoomForTable {d h n m : Nat} {w : zM} (C : zHc w h n m) : cal d 1013 [.ref h] w = some (some (.int (if n < 8 then 1 else 0)), w) := by
  obtain ⟨H, c1, c2, c3, c4⟩ := id C
  obtain ⟨f1, -⟩ := zHs_f H
  have e : ((8 : Int32) ≤ nI n) = ¬ (n < 8) := propext (by show (nI 8 ≤ nI n) ↔ _; rw [nI_leI (by decide) (by omega)]; omega)
  by_cases h8 : n < 8
  · simp only [c_1013, e_1013_0, e_1013_1, e_1013_4, e_1013_6, e_1013_9, e_1013_10, e_1013_13, e_1013_14, zk_int, zk_ref, zk_null, zk_none, zk_long, zisR_r, zisR_n, zcl_int, zcl_ref, zcl_null, zpush_s, zpush_n, zbs, zbn, true_or, or_true, not_false_eq_true, not_true_eq_false, ↓reduceIte, and_self, and_true, true_and, f1, c1, e, h8]
  · simp only [c_1013, e_1013_0, e_1013_1, e_1013_4, e_1013_6, e_1013_9, e_1013_10, e_1013_13, e_1013_14, zk_int, zk_ref, zk_null, zk_none, zk_long, zisR_r, zisR_n, zcl_int, zcl_ref, zcl_null, zpush_s, zpush_n, zbs, zbn, true_or, or_true, not_false_eq_true, not_true_eq_false, ↓reduceIte, and_self, and_true, true_and, f1, c1, e, h8]
theorem q_hasRoomForWaiter {d h n m : Nat} {w : zM} (C : zHc w h n m) : cal d 1014 [.ref h] w = some (some (.int (if m < 4 then 1 else 0)), w) := by
  obtain ⟨H, c1, c2, c3, c4⟩ := id C
  obtain ⟨f1, -⟩ := zHs_f H
  have e : ((4 : Int32) ≤ nI m) = ¬ (m < 4) := propext (by show (nI 4 ≤ nI m) ↔ _; rw [nI_leI (by decide) (by omega)]; omega)
  by_cases h8 : m < 4
  · simp only [c_1014, e_1014_0, e_1014_1, e_1014_4, e_1014_5, e_1014_8, e_1014_9, e_1014_12, e_1014_13, zk_int, zk_ref, zk_null, zk_none, zk_long, zisR_r, zisR_n, zcl_int, zcl_ref, zcl_null, zpush_s, zpush_n, zbs, zbn, true_or, or_true, not_false_eq_true, not_true_eq_false, ↓reduceIte, and_self, and_true, true_and, f1, c3, e, h8]
  · simp only [c_1014, e_1014_0, e_1014_1, e_1014_4, e_1014_5, e_1014_8, e_1014_9, e_1014_12, e_1014_13, zk_int, zk_ref, zk_null, zk_none, zk_long, zisR_r, zisR_n, zcl_int, zcl_ref, zcl_null, zpush_s, zpush_n, zbs, zbn, true_or, or_true, not_false_eq_true, not_true_eq_false, ↓reduceIte, and_self, and_true, true_and, f1, c3, e, h8]
