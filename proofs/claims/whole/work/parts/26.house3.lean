def zsum (f : Nat → Int32) : Nat → Int32
  | 0 => 0
  | n + 1 => zsum f n + f n
theorem zsum_s (f : Nat → Int32) (n : Nat) : zsum f n + f n = zsum f (n + 1) := id rfl
theorem nI_ltF {n : Nat} (hb : n < 2147483648) : (nI n < 0) = False := eq_false (nI_pos hb)
theorem upd_u (f : Nat → Int32) (k : Nat) (x y : Int32) : upd (upd f k x) k y = upd f k y := by
  funext j
  unfold upd
  by_cases h : j = k
  · rw [if_pos h, if_pos h]
  · rw [if_neg h, if_neg h, if_neg h]
theorem upd_id (f : Nat → Int32) (k : Nat) : upd f k (f k) = f := by
  funext j
  unfold upd
  by_cases h : j = k
  · rw [if_pos h, h]
  · rw [if_neg h]
theorem q_givenAt {d h n m t : Nat} {w : zM} (C : zHc w h n m) (ht : t < n) : cal (d + 1) 1035 [.ref h, .int (nI t)] w = some (some (.int (w.1 (h + 4) t)), w) := by
  obtain ⟨H, c1, c2, c3, c4⟩ := id C
  obtain ⟨f1, f2, f3, f4, f5, f6, f7, f8, f9, f10, f11, f12, f13⟩ := zHs_f H
  have hj : t < 8 := by omega
  have z3 : ((1 : Int32) = 0) = False := by decide
  simp only [c_1035, e_1035_0, e_1035_1, e_1035_2, e_1035_5, e_1035_8, e_1035_9, e_1035_12, e_1035_13, e_1035_16, e_1035_19, e_1035_20, zk_int, zk_ref, zk_null, zk_none, zk_long, zisR_r, zisR_n, zcl_int, zcl_ref, zcl_null, zpush_s, zpush_n, zbs, zbn, true_or, or_true, not_false_eq_true, not_true_eq_false, ↓reduceIte, and_self, and_true, true_and, f1, f5, f9, f13, q_hasTable C ht, q_at, hj, z3, Nat.reduceLT]
theorem q_givenAt_o {d h n m : Nat} {w : zM} {x : Int32} (C : zHc w h n m) (hx : x < 0 ∨ nI n ≤ x) : cal (d + 1) 1035 [.ref h, .int x] w = some (some (.int 0), w) := by
  obtain ⟨H, c1, c2, c3, c4⟩ := id C
  obtain ⟨f1, f2, f3, f4, f5, f6, f7, f8, f9, f10, f11, f12, f13⟩ := zHs_f H
  simp only [c_1035, e_1035_0, e_1035_1, e_1035_2, e_1035_5, e_1035_8, e_1035_9, e_1035_12, e_1035_13, e_1035_16, e_1035_19, e_1035_20, zk_int, zk_ref, zk_null, zk_none, zk_long, zisR_r, zisR_n, zcl_int, zcl_ref, zcl_null, zpush_s, zpush_n, zbs, zbn, true_or, or_true, not_false_eq_true, not_true_eq_false, ↓reduceIte, and_self, and_true, true_and, f1, f5, f9, f13, q_hasTable_o C hx]
theorem q_givenAhd {d h n m t : Nat} {w : zM} (C : zHc w h n m) (ht : t < n) : cal (d + 1) 1035 [.ref h, .int (nI t - 1)] w = some (some (.int (sAhd (w.1 (h + 4)) t)), w) := by
  cases t with
  | zero => exact q_givenAt_o C (Or.inl (by decide))
  | succ t =>
    have e : nI (t + 1) - 1 = nI t := nI_pred t
    rw [e]
    exact q_givenAt C (by omega)
theorem q_wouldGiveAt {d h n m t : Nat} {w : zM} (C : zHc w h n m) (Hv : zHv w h n m) (ht : t < n) : cal (d + 4) 1036 [.ref h, .int (nI t)] w = some (some (.int (sWould (w.1 (h + 1)) (w.1 (h + 3)) t (sSvc (w.1 (h + 2)) (sSrv (w.1 (h + 1)) t)) (sAhd (w.1 (h + 4)) t))), w) := by
  obtain ⟨H, c1, c2, c3, c4⟩ := id C
  obtain ⟨f1, -⟩ := zHs_f H
  have q1 := q_serviceAt (d := d) C Hv ht
  have q2 := q_givenAhd (d := d + 2) C ht
  have q3 := fun q a => q_wouldGive (d := d + 1) (q := q) (a := a) C ht
  simp only [c_1036, e_1036_0, e_1036_1, e_1036_2, e_1036_3, e_1036_4, e_1036_7, e_1036_8, e_1036_9, e_1036_10, e_1036_11, e_1036_14, e_1036_17, zk_int, zk_ref, zk_null, zk_none, zk_long, zisR_r, zisR_n, zcl_int, zcl_ref, zcl_null, zpush_s, zpush_n, zbs, zbn, true_or, or_true, not_false_eq_true, not_true_eq_false, ↓reduceIte, and_self, and_true, true_and, f1, q1, q2, q3]
def sSaid (T G gv : Nat → Int32) (V : Nat → Int32) (t : Nat) (k : Int32) : Int32 :=
  if k = 0 then T (5 * t + 3) else if k = 1 then sCus T t else if k = 2 then T (5 * t + 1) - T (5 * t + 1) / 10 * 10 else if k = 3 then T (5 * t + 2) else if k = 4 then sMid G else if k = 5 then sAhd gv t else sLack (sSvc V (sSrv T t))
theorem q_saidAt {d h n m t : Nat} {w : zM} {k : Int32} (C : zHc w h n m) (Hv : zHv w h n m) (ht : t < n) : cal (d + 4) 1037 [.ref h, .int (nI t), .int k] w = some (some (.int (sSaid (w.1 (h + 1)) (w.1 (h + 3)) (w.1 (h + 4)) (w.1 (h + 2)) t k)), w) := by
  obtain ⟨H, c1, c2, c3, c4⟩ := id C
  obtain ⟨f1, -⟩ := zHs_f H
  have q1 := q_serviceAt (d := d) C Hv ht
  have q2 := q_givenAhd (d := d + 2) C ht
  have q3 := q_tablePart_1 (d := d + 2) C ht
  have q4 := q_tablePart_3 (d := d + 2) C ht
  have q5 := q_tablePart_2 (d := d + 2) C ht
  have z : ((10 : Int32) = 0) = False := by decide
  simp only [c_1037, e_1037_0, e_1037_1, e_1037_2, e_1037_3, e_1037_6, e_1037_7, e_1037_8, e_1037_9, e_1037_10, e_1037_13, e_1037_15, e_1037_16, e_1037_56, e_1037_58, e_1037_59, e_1037_60, e_1037_62, e_1037_65, e_1037_66, e_1037_67, e_1037_69, e_1037_70, e_1037_71, e_1037_72, e_1037_73, e_1037_74, e_1037_77, e_1037_78, e_1037_79, e_1037_82, e_1037_83, e_1037_84, e_1037_85, e_1037_86, e_1037_87, e_1037_90, e_1037_91, e_1037_92, e_1037_93, e_1037_94, e_1037_97, e_1037_100, zk_int, zk_ref, zk_null, zk_none, zk_long, zisR_r, zisR_n, zcl_int, zcl_ref, zcl_null, zpush_s, zpush_n, zbs, zbn, true_or, or_true, not_false_eq_true, not_true_eq_false, ↓reduceIte, and_self, and_true, true_and, f1, q1, q2, q3, q4, q5, q_hundredths, q_middleNumber H, q_lacking, z]
  unfold sSaid
  repeat' split
  all_goals rfl
theorem q_givenByAll {d h n m : Nat} {w : zM} (C : zHc w h n m) : cal (d + 1) 1038 [.ref h] w = some (some (.int (zsum (w.1 (h + 4)) n)), w) := by
  obtain ⟨H, c1, c2, c3, c4⟩ := id C
  obtain ⟨f1, f2, f3, f4, f5, f6, f7, f8, f9, f10, f11, f12, f13⟩ := zHs_f H
  have key : ∀ r j, j + r = n → den (d + 1) 1038 4 [some (.ref h), some (.int (zsum (w.1 (h + 4)) j)), some (.int (nI j))] [] w = some (some (.int (zsum (w.1 (h + 4)) n)), w) := by
    intro r
    induction r with
    | zero =>
      intro j hj
      have e : j = n := by omega
      subst e
      have g1 := nI_le_n (Nat.le_refl j) (by omega)
      simp only [c_1038, e_1038_0, e_1038_1, e_1038_2, e_1038_3, e_1038_4, e_1038_5, e_1038_6, e_1038_9, e_1038_12, e_1038_13, e_1038_14, e_1038_17, e_1038_18, e_1038_21, e_1038_22, e_1038_23, e_1038_26, e_1038_29, e_1038_30, zk_int, zk_ref, zk_null, zk_none, zk_long, zisR_r, zisR_n, zcl_int, zcl_ref, zcl_null, zpush_s, zpush_n, zbs, zbn, true_or, or_true, not_false_eq_true, not_true_eq_false, ↓reduceIte, and_self, and_true, true_and, f1, c1, g1]
    | succ r ih =>
      intro j hj
      have hjn : j < n := by omega
      have g1 := nI_ge_f hjn (by omega)
      have hj8 : j < 8 := by omega
      rw [e_1038_4]
      simp only [c_1038, e_1038_0, e_1038_1, e_1038_2, e_1038_3, e_1038_5, e_1038_6, e_1038_9, e_1038_12, e_1038_13, e_1038_14, e_1038_17, e_1038_18, e_1038_21, e_1038_22, e_1038_23, e_1038_26, e_1038_29, e_1038_30, zk_int, zk_ref, zk_null, zk_none, zk_long, zisR_r, zisR_n, zcl_int, zcl_ref, zcl_null, zpush_s, zpush_n, zbs, zbn, true_or, or_true, not_false_eq_true, not_true_eq_false, ↓reduceIte, and_self, and_true, true_and, f1, f5, f9, f13, c1, g1, q_at, hj8, Nat.reduceLT, nI_1, zsum_s]
      exact ih (j + 1) (by omega)
  simp only [c_1038, e_1038_0, e_1038_1, e_1038_2, e_1038_3, e_1038_5, e_1038_6, e_1038_9, e_1038_12, e_1038_13, e_1038_14, e_1038_17, e_1038_18, e_1038_21, e_1038_22, e_1038_23, e_1038_26, e_1038_29, e_1038_30, zk_int, zk_ref, zk_null, zk_none, zk_long, zisR_r, zisR_n, zcl_int, zcl_ref, zcl_null, zpush_s, zpush_n, zbs, zbn, true_or, or_true, not_false_eq_true, not_true_eq_false, ↓reduceIte, and_self, and_true, true_and]
  exact key n 0 (by omega)
theorem q_billsOfAll {d h n m : Nat} {w : zM} (C : zHc w h n m) : cal (d + 2) 1026 [.ref h] w = some (some (.int (zsum (fun t => w.1 (h + 1) (5 * t + 1)) n)), w) := by
  obtain ⟨H, c1, c2, c3, c4⟩ := id C
  obtain ⟨f1, f2, f3, f4, f5, f6, f7, f8, f9, f10, f11, f12, f13⟩ := zHs_f H
  have key : ∀ r j, j + r = n → den (d + 2) 1026 4 [some (.ref h), some (.int (zsum (fun t => w.1 (h + 1) (5 * t + 1)) j)), some (.int (nI j))] [] w = some (some (.int (zsum (fun t => w.1 (h + 1) (5 * t + 1)) n)), w) := by
    intro r
    induction r with
    | zero =>
      intro j hj
      have e : j = n := by omega
      subst e
      have g1 := nI_le_n (Nat.le_refl j) (by omega)
      simp only [c_1026, e_1026_0, e_1026_1, e_1026_2, e_1026_3, e_1026_4, e_1026_5, e_1026_6, e_1026_9, e_1026_12, e_1026_13, e_1026_14, e_1026_15, e_1026_16, e_1026_19, e_1026_20, e_1026_21, e_1026_24, e_1026_27, e_1026_28, zk_int, zk_ref, zk_null, zk_none, zk_long, zisR_r, zisR_n, zcl_int, zcl_ref, zcl_null, zpush_s, zpush_n, zbs, zbn, true_or, or_true, not_false_eq_true, not_true_eq_false, ↓reduceIte, and_self, and_true, true_and, f1, c1, g1]
    | succ r ih =>
      intro j hj
      have hjn : j < n := by omega
      have g1 := nI_ge_f hjn (by omega)
      have q1 := q_tablePart_1 (d := d) C hjn
      have q2 := zsum_s (fun t => w.1 (h + 1) (5 * t + 1)) j
      rw [e_1026_4]
      simp only [c_1026, e_1026_0, e_1026_1, e_1026_2, e_1026_3, e_1026_5, e_1026_6, e_1026_9, e_1026_12, e_1026_13, e_1026_14, e_1026_15, e_1026_16, e_1026_19, e_1026_20, e_1026_21, e_1026_24, e_1026_27, e_1026_28, zk_int, zk_ref, zk_null, zk_none, zk_long, zisR_r, zisR_n, zcl_int, zcl_ref, zcl_null, zpush_s, zpush_n, zbs, zbn, true_or, or_true, not_false_eq_true, not_true_eq_false, ↓reduceIte, and_self, and_true, true_and, f1, c1, g1, q1, nI_1, q2]
      exact ih (j + 1) (by omega)
  simp only [c_1026, e_1026_0, e_1026_1, e_1026_2, e_1026_3, e_1026_5, e_1026_6, e_1026_9, e_1026_12, e_1026_13, e_1026_14, e_1026_15, e_1026_16, e_1026_19, e_1026_20, e_1026_21, e_1026_24, e_1026_27, e_1026_28, zk_int, zk_ref, zk_null, zk_none, zk_long, zisR_r, zisR_n, zcl_int, zcl_ref, zcl_null, zpush_s, zpush_n, zbs, zbn, true_or, or_true, not_false_eq_true, not_true_eq_false, ↓reduceIte, and_self, and_true, true_and]
  exact key n 0 (by omega)
def sOwnF (T gv : Nat → Int32) (y : Int32) (t : Nat) : Int32 := if T (5 * t + 4) = y then gv t else 0
def sCntF (T : Nat → Int32) (y : Int32) (t : Nat) : Int32 := if T (5 * t + 4) = y then 1 else 0
theorem q_ownOf {d h n m : Nat} {w : zM} {y : Int32} (C : zHc w h n m) : cal (d + 2) 1039 [.ref h, .int y] w = some (some (.int (zsum (sOwnF (w.1 (h + 1)) (w.1 (h + 4)) y) n)), w) := by
  obtain ⟨H, c1, c2, c3, c4⟩ := id C
  obtain ⟨f1, f2, f3, f4, f5, f6, f7, f8, f9, f10, f11, f12, f13⟩ := zHs_f H
  have key : ∀ r j, j + r = n → den (d + 2) 1039 4 [some (.ref h), some (.int y), some (.int (zsum (sOwnF (w.1 (h + 1)) (w.1 (h + 4)) y) j)), some (.int (nI j))] [] w = some (some (.int (zsum (sOwnF (w.1 (h + 1)) (w.1 (h + 4)) y) n)), w) := by
    intro r
    induction r with
    | zero =>
      intro j hj
      have e : j = n := by omega
      subst e
      have g1 := nI_le_n (Nat.le_refl j) (by omega)
      simp only [c_1039, e_1039_0, e_1039_1, e_1039_2, e_1039_3, e_1039_4, e_1039_5, e_1039_6, e_1039_9, e_1039_12, e_1039_13, e_1039_14, e_1039_15, e_1039_16, e_1039_19, e_1039_20, e_1039_23, e_1039_24, e_1039_27, e_1039_28, e_1039_31, e_1039_34, e_1039_35, e_1039_36, e_1039_37, e_1039_40, e_1039_43, e_1039_44, zk_int, zk_ref, zk_null, zk_none, zk_long, zisR_r, zisR_n, zcl_int, zcl_ref, zcl_null, zpush_s, zpush_n, zbs, zbn, true_or, or_true, not_false_eq_true, not_true_eq_false, ↓reduceIte, and_self, and_true, true_and, f1, c1, g1]
    | succ r ih =>
      intro j hj
      have hjn : j < n := by omega
      have g1 := nI_ge_f hjn (by omega)
      have hj8 : j < 8 := by omega
      have q1 := q_tablePart_4 (d := d) C hjn
      have ih2 := ih (j + 1) (by omega)
      rw [e_1039_4]
      by_cases hc : w.1 (h + 1) (5 * j + 4) = y
      · have q3 : sOwnF (w.1 (h + 1)) (w.1 (h + 4)) y j = w.1 (h + 4) j := if_pos hc
        simp only [c_1039, e_1039_0, e_1039_1, e_1039_2, e_1039_3, e_1039_5, e_1039_6, e_1039_9, e_1039_12, e_1039_13, e_1039_14, e_1039_15, e_1039_16, e_1039_19, e_1039_20, e_1039_23, e_1039_24, e_1039_27, e_1039_28, e_1039_31, e_1039_34, e_1039_35, e_1039_36, e_1039_37, e_1039_40, e_1039_43, e_1039_44, zk_int, zk_ref, zk_null, zk_none, zk_long, zisR_r, zisR_n, zcl_int, zcl_ref, zcl_null, zpush_s, zpush_n, zbs, zbn, true_or, or_true, not_false_eq_true, not_true_eq_false, ↓reduceIte, and_self, and_true, true_and, f1, f5, f9, f13, c1, g1, q1, hc, q_at, hj8, Nat.reduceLT, nI_1]
        rw [← zsum_s, q3] at ih2
        exact ih2
      · have q3 : sOwnF (w.1 (h + 1)) (w.1 (h + 4)) y j = 0 := if_neg hc
        simp only [c_1039, e_1039_0, e_1039_1, e_1039_2, e_1039_3, e_1039_5, e_1039_6, e_1039_9, e_1039_12, e_1039_13, e_1039_14, e_1039_15, e_1039_16, e_1039_19, e_1039_20, e_1039_23, e_1039_24, e_1039_27, e_1039_28, e_1039_31, e_1039_34, e_1039_35, e_1039_36, e_1039_37, e_1039_40, e_1039_43, e_1039_44, zk_int, zk_ref, zk_null, zk_none, zk_long, zisR_r, zisR_n, zcl_int, zcl_ref, zcl_null, zpush_s, zpush_n, zbs, zbn, true_or, or_true, not_false_eq_true, not_true_eq_false, ↓reduceIte, and_self, and_true, true_and, f1, f5, f9, f13, c1, g1, q1, hc, q_at, hj8, Nat.reduceLT, nI_1]
        rw [← zsum_s, q3] at ih2
        exact ih2
  simp only [c_1039, e_1039_0, e_1039_1, e_1039_2, e_1039_3, e_1039_5, e_1039_6, e_1039_9, e_1039_12, e_1039_13, e_1039_14, e_1039_15, e_1039_16, e_1039_19, e_1039_20, e_1039_23, e_1039_24, e_1039_27, e_1039_28, e_1039_31, e_1039_34, e_1039_35, e_1039_36, e_1039_37, e_1039_40, e_1039_43, e_1039_44, zk_int, zk_ref, zk_null, zk_none, zk_long, zisR_r, zisR_n, zcl_int, zcl_ref, zcl_null, zpush_s, zpush_n, zbs, zbn, true_or, or_true, not_false_eq_true, not_true_eq_false, ↓reduceIte, and_self, and_true, true_and]
  exact key n 0 (by omega)
theorem q_tablesOfWaiter {d h n m : Nat} {w : zM} {y : Int32} (C : zHc w h n m) : cal (d + 2) 1025 [.ref h, .int y] w = some (some (.int (zsum (sCntF (w.1 (h + 1)) y) n)), w) := by
  obtain ⟨H, c1, c2, c3, c4⟩ := id C
  obtain ⟨f1, f2, f3, f4, f5, f6, f7, f8, f9, f10, f11, f12, f13⟩ := zHs_f H
  have key : ∀ r j, j + r = n → den (d + 2) 1025 4 [some (.ref h), some (.int y), some (.int (zsum (sCntF (w.1 (h + 1)) y) j)), some (.int (nI j))] [] w = some (some (.int (zsum (sCntF (w.1 (h + 1)) y) n)), w) := by
    intro r
    induction r with
    | zero =>
      intro j hj
      have e : j = n := by omega
      subst e
      have g1 := nI_le_n (Nat.le_refl j) (by omega)
      simp only [c_1025, e_1025_0, e_1025_1, e_1025_2, e_1025_3, e_1025_4, e_1025_5, e_1025_6, e_1025_9, e_1025_12, e_1025_13, e_1025_14, e_1025_15, e_1025_16, e_1025_19, e_1025_20, e_1025_23, e_1025_24, e_1025_27, e_1025_28, e_1025_29, e_1025_30, e_1025_33, e_1025_36, e_1025_37, zk_int, zk_ref, zk_null, zk_none, zk_long, zisR_r, zisR_n, zcl_int, zcl_ref, zcl_null, zpush_s, zpush_n, zbs, zbn, true_or, or_true, not_false_eq_true, not_true_eq_false, ↓reduceIte, and_self, and_true, true_and, f1, c1, g1]
    | succ r ih =>
      intro j hj
      have hjn : j < n := by omega
      have g1 := nI_ge_f hjn (by omega)
      have q1 := q_tablePart_4 (d := d) C hjn
      have ih2 := ih (j + 1) (by omega)
      rw [e_1025_4]
      by_cases hc : w.1 (h + 1) (5 * j + 4) = y
      · have q3 : sCntF (w.1 (h + 1)) y j = 1 := if_pos hc
        simp only [c_1025, e_1025_0, e_1025_1, e_1025_2, e_1025_3, e_1025_5, e_1025_6, e_1025_9, e_1025_12, e_1025_13, e_1025_14, e_1025_15, e_1025_16, e_1025_19, e_1025_20, e_1025_23, e_1025_24, e_1025_27, e_1025_28, e_1025_29, e_1025_30, e_1025_33, e_1025_36, e_1025_37, zk_int, zk_ref, zk_null, zk_none, zk_long, zisR_r, zisR_n, zcl_int, zcl_ref, zcl_null, zpush_s, zpush_n, zbs, zbn, true_or, or_true, not_false_eq_true, not_true_eq_false, ↓reduceIte, and_self, and_true, true_and, f1, c1, g1, q1, hc, nI_1]
        rw [← zsum_s, q3] at ih2
        exact ih2
      · have q3 : sCntF (w.1 (h + 1)) y j = 0 := if_neg hc
        simp only [c_1025, e_1025_0, e_1025_1, e_1025_2, e_1025_3, e_1025_5, e_1025_6, e_1025_9, e_1025_12, e_1025_13, e_1025_14, e_1025_15, e_1025_16, e_1025_19, e_1025_20, e_1025_23, e_1025_24, e_1025_27, e_1025_28, e_1025_29, e_1025_30, e_1025_33, e_1025_36, e_1025_37, zk_int, zk_ref, zk_null, zk_none, zk_long, zisR_r, zisR_n, zcl_int, zcl_ref, zcl_null, zpush_s, zpush_n, zbs, zbn, true_or, or_true, not_false_eq_true, not_true_eq_false, ↓reduceIte, and_self, and_true, true_and, f1, c1, g1, q1, hc, nI_1]
        rw [← zsum_s, q3] at ih2
        exact ih2
  simp only [c_1025, e_1025_0, e_1025_1, e_1025_2, e_1025_3, e_1025_5, e_1025_6, e_1025_9, e_1025_12, e_1025_13, e_1025_14, e_1025_15, e_1025_16, e_1025_19, e_1025_20, e_1025_23, e_1025_24, e_1025_27, e_1025_28, e_1025_29, e_1025_30, e_1025_33, e_1025_36, e_1025_37, zk_int, zk_ref, zk_null, zk_none, zk_long, zisR_r, zisR_n, zcl_int, zcl_ref, zcl_null, zpush_s, zpush_n, zbs, zbn, true_or, or_true, not_false_eq_true, not_true_eq_false, ↓reduceIte, and_self, and_true, true_and]
  exact key n 0 (by omega)
