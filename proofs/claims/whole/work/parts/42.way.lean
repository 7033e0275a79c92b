def sHiM (T V G : Nat → Int32) (t : Nat) (a : Int32) : Nat → Int32
  | 0 => 0
  | y + 1 => imax (sHiM T V G t a y) (sGf T V G t y a)
def sHi (T V G : Nat → Int32) (m : Nat) : Nat → Int32
  | 0 => sHiM T V G 0 0 m
  | t + 1 => sHiM T V G (t + 1) (sHi T V G m t) m
theorem sHi_eq (T V G : Nat → Int32) (m t : Nat) : sHi T V G m t = sHiM T V G t (sAhd (sHi T V G m) t) m := by cases t <;> rfl
def sSu (T V G : Nat → Int32) (n m : Nat) : Nat → Int32
  | 0 => 0
  | j + 1 => sHi T V G m (n - 1 - j) + sSu T V G n m j
def sQ1 (T V G Q : Nat → Int32) (n m j : Nat) : Nat → Int32 := fun k => if k < j then sHi T V G m k else upd Q n 0 k
def sQ2 (T V G Q : Nat → Int32) (n m t : Nat) : Nat → Int32 := fun k => if t ≤ k ∧ k ≤ n then sSu T V G n m (n - k) else sQ1 T V G Q n m n k
theorem sQ1_s (T V G Q : Nat → Int32) (n m j : Nat) : upd (sQ1 T V G Q n m j) j (sHi T V G m j) = sQ1 T V G Q n m (j + 1) := by
  funext k
  show (if k = j then sHi T V G m j else if k < j then sHi T V G m k else upd Q n 0 k) = if k < j + 1 then sHi T V G m k else upd Q n 0 k
  by_cases h : k = j
  · subst h
    rw [if_pos rfl, if_pos (by omega)]
  · rw [if_neg h]
    by_cases h2 : k < j
    · rw [if_pos h2, if_pos (by omega)]
    · rw [if_neg h2, if_neg (by omega)]
theorem sQ1_0 (T V G Q : Nat → Int32) (n m : Nat) : sQ1 T V G Q n m 0 = upd Q n 0 := by
  funext k
  exact if_neg (Nat.not_lt_zero k)
theorem sQ2_n (T V G Q : Nat → Int32) (n m : Nat) : sQ2 T V G Q n m n = sQ1 T V G Q n m n := by
  funext k
  unfold sQ2
  by_cases h : n ≤ k ∧ k ≤ n
  · rw [if_pos h]
    have e : k = n := by omega
    subst e
    rw [Nat.sub_self]
    unfold sQ1 upd
    rw [if_neg (by omega), if_pos rfl]
    rfl
  · rw [if_neg h]
theorem sQ2_s (T V G Q : Nat → Int32) (n m t : Nat) (ht : t < n) : upd (sQ2 T V G Q n m (t + 1)) t (sQ2 T V G Q n m (t + 1) t + sQ2 T V G Q n m (t + 1) (t + 1)) = sQ2 T V G Q n m t := by
  have e1 : sQ2 T V G Q n m (t + 1) t = sHi T V G m t := by
    unfold sQ2
    rw [if_neg (by omega)]
    exact if_pos ht
  have e2 : sQ2 T V G Q n m (t + 1) (t + 1) = sSu T V G n m (n - (t + 1)) := if_pos (by omega)
  have e3 : sSu T V G n m (n - t) = sHi T V G m t + sSu T V G n m (n - (t + 1)) := by
    have e4 : n - t = n - (t + 1) + 1 := by omega
    rw [e4]
    show sHi T V G m (n - 1 - (n - (t + 1))) + _ = _
    have e5 : n - 1 - (n - (t + 1)) = t := by omega
    rw [e5]
  rw [e1, e2, ← e3]
  funext k
  unfold upd
  by_cases h : k = t
  · subst h
    rw [if_pos rfl]
    exact (if_pos (by omega)).symm
  · rw [if_neg h]
    unfold sQ2
    by_cases h2 : t + 1 ≤ k ∧ k ≤ n
    · rw [if_pos h2, if_pos (by omega)]
    · rw [if_neg h2, if_neg (by omega)]
section STC
variable {d n m : Nat} {Y : zM} {T V G : Nat → Int32}
theorem zSc_22 {f : Nat → Int32} (C : zSc Y n m T V G) : zSc (zuA Y 22 f) n m T V G := by
  refine ⟨zHc_A C.1 (by decide), ?_, ?_, ?_⟩
  · rw [zA_n _ _ (by decide)]; exact C.2.1
  · rw [zA_n _ _ (by decide)]; exact C.2.2.1
  · rw [zA_n _ _ (by decide)]; exact C.2.2.2
theorem y_tableCount (C : zSc Y n m T V G) : cal d 1002 [.ref 14] Y = some (some (.int (nI n)), Y) := by
  have e := C.1.2.1
  simp only [c_1002, e_1002_0, e_1002_1, e_1002_4, zk_int, zk_ref, zk_null, zk_none, zk_long, zisR_r, zisR_n, zcl_int, zcl_ref, zcl_null, zpush_s, zpush_n, zbs, zbn, true_or, or_true, not_false_eq_true, not_true_eq_false, ↓reduceIte, and_self, and_true, true_and, zt_14, e]
theorem y_waiterCount (C : zSc Y n m T V G) : cal d 1003 [.ref 14] Y = some (some (.int (nI m)), Y) := by
  have e := C.1.2.2.2.1
  simp only [c_1003, e_1003_0, e_1003_1, e_1003_4, zk_int, zk_ref, zk_null, zk_none, zk_long, zisR_r, zisR_n, zcl_int, zcl_ref, zcl_null, zpush_s, zpush_n, zbs, zbn, true_or, or_true, not_false_eq_true, not_true_eq_false, ↓reduceIte, and_self, and_true, true_and, zt_14, e]
theorem y_gift {t y : Nat} {a : Int32} (C : zSc Y n m T V G) (ht : t < n) : cal (d + 3) 1033 [.ref 14, .int (nI t), .int (sSvc V y), .int a] Y = some (some (.int (sGf T V G t y a)), Y) := by
  have q := q_giftWith (d := d) (q := sSvc V y) (a := a) C.1 ht
  rw [q]
  show some (some (Value.int (sGift (Y.1 15) (Y.1 17) t (sSvc V y) a)), Y) = _
  rw [C.2.1, C.2.2.2]
  rfl
theorem y_service {y : Nat} (C : zSc Y n m T V G) (hy : y < m) : cal (d + 2) 1027 [.ref 14, .int (nI y)] Y = some (some (.int (sSvc V y)), Y) := by
  have q := q_serviceOf (d := d) C.1 hy
  rw [q]
  show some (some (Value.int (sSvc (Y.1 16) y)), Y) = _
  rw [C.2.2.1]
theorem q_st1 {t : Nat} {a : Int32} (C : zSc Y n m T V G) (ht : t < n) : ∀ r y, y + r = m → den (d + 4) 2019 37 [some (.ref 13), some (.int (sHiM T V G t a y)), some (.int (nI t)), some (.int a), some (.int (nI y))] [] Y = den (d + 4) 2019 78 [some (.ref 13), some (.int (sHiM T V G t a m)), some (.int (nI t)), some (.int a), some (.int (nI m))] [] Y := by
  have hm4 := C.1.2.2.2.2
  intro r
  induction r with
  | zero =>
    intro y hy
    have e : y = m := by omega
    subst e
    have l1 := nI_le_n (Nat.le_refl y) (by omega)
    rw [e_2019_37]
    simp only [e_2019_39, e_2019_40, e_2019_43, e_2019_46, zk_int, zk_ref, zk_null, zk_none, zk_long, zisR_r, zisR_n, zcl_int, zcl_ref, zcl_null, zpush_s, zpush_n, zbs, zbn, true_or, or_true, not_false_eq_true, not_true_eq_false, ↓reduceIte, and_self, and_true, true_and, zt_13, zr_13_0, zt_14, y_waiterCount C, l1]
  | succ r ih =>
    intro y hy
    have hym : y < m := by omega
    have l1 := nI_ge_f hym (by omega)
    have g1 := y_service (d := d + 1) C hym
    have g2 := y_gift (d := d) (y := y) (a := a) C ht
    have g3 : imax (sHiM T V G t a y) (sGf T V G t y a) = sHiM T V G t a (y + 1) := rfl
    rw [e_2019_37]
    simp only [c_2019, e_2019_0, e_2019_1, e_2019_4, e_2019_5, e_2019_8, e_2019_11, e_2019_12, e_2019_15, e_2019_16, e_2019_17, e_2019_18, e_2019_19, e_2019_20, e_2019_21, e_2019_24, e_2019_27, e_2019_30, e_2019_31, e_2019_32, e_2019_33, e_2019_34, e_2019_35, e_2019_39, e_2019_40, e_2019_43, e_2019_46, e_2019_49, e_2019_50, e_2019_51, e_2019_54, e_2019_55, e_2019_56, e_2019_59, e_2019_61, e_2019_64, e_2019_65, e_2019_68, e_2019_71, e_2019_72, e_2019_75, e_2019_79, e_2019_82, e_2019_83, e_2019_84, e_2019_87, e_2019_90, e_2019_93, e_2019_94, e_2019_97, e_2019_100, e_2019_101, e_2019_102, e_2019_103, e_2019_104, e_2019_107, e_2019_108, e_2019_111, e_2019_112, e_2019_113, e_2019_116, e_2019_117, e_2019_120, e_2019_121, e_2019_124, e_2019_125, e_2019_126, e_2019_127, e_2019_130, e_2019_131, e_2019_134, e_2019_137, e_2019_140, zk_int, zk_ref, zk_null, zk_none, zk_long, zisR_r, zisR_n, zcl_int, zcl_ref, zcl_null, zpush_s, zpush_n, zbs, zbn, true_or, or_true, not_false_eq_true, not_true_eq_false, ↓reduceIte, and_self, and_true, true_and, zt_13, zr_13_0, zt_14, y_waiterCount C, l1, g1, g2, g3, nI_1]
    exact ih (y + 1) (by omega)
theorem q_st2 {Q : Nat → Int32} (C : zSc Y n m T V G) : ∀ r t o3 o4, t + r = n → den (d + 4) 2019 19 [some (.ref 13), some (.int (sAhd (sHi T V G m) t)), some (.int (nI t)), o3, o4] [] (zuA Y 22 (sQ1 T V G Q n m t)) = den (d + 4) 2019 93 [some (.ref 13), some (.int (sAhd (sHi T V G m) n)), some (.int (nI n)), if t = n then o3 else some (.int (sAhd (sHi T V G m) (n - 1))), if t = n then o4 else some (.int (nI m))] [] (zuA Y 22 (sQ1 T V G Q n m n)) := by
  have hn8 := C.1.2.2.1
  intro r
  induction r with
  | zero =>
    intro t o3 o4 ht
    have e : t = n := by omega
    subst e
    have l1 := nI_le_n (Nat.le_refl t) (by omega)
    rw [e_2019_19, if_pos rfl, if_pos rfl]
    simp only [e_2019_20, e_2019_21, e_2019_24, e_2019_27, zk_int, zk_ref, zk_null, zk_none, zk_long, zisR_r, zisR_n, zcl_int, zcl_ref, zcl_null, zpush_s, zpush_n, zbs, zbn, true_or, or_true, not_false_eq_true, not_true_eq_false, ↓reduceIte, and_self, and_true, true_and, zt_13, zr_13_0, zt_14, y_tableCount (zSc_22 C), l1]
  | succ r ih =>
    intro t o3 o4 ht
    have htn : t < n := by omega
    have l1 := nI_ge_f htn (by omega)
    have k1 := q_st1 (d := d) (a := sAhd (sHi T V G m) t) (zSc_22 (f := sQ1 T V G Q n m t) C) htn m 0 (by omega)
    have e0 : nI 0 = 0 := nI_0
    have e1 : sHiM T V G t (sAhd (sHi T V G m) t) 0 = 0 := rfl
    rw [e0, e1, ← sHi_eq] at k1
    have p1 := fun v => q_put (d := d + 3) (a := 22) (j := t) (w := zuA Y 22 (sQ1 T V G Q n m t)) (v := v) zt_22 (by rw [zn_22]; omega) (by rw [zn_22]; decide)
    simp only [zA_s, zA_A] at p1
    have e2 := sQ1_s T V G Q n m t
    have ih2 := ih (t + 1) (some (.int (sAhd (sHi T V G m) t))) (some (.int (nI m))) (by omega)
    rw [if_neg (by omega), if_neg (by omega)]
    rw [e_2019_19]
    simp only [e_2019_20, e_2019_21, e_2019_24, e_2019_27, e_2019_30, e_2019_31, e_2019_32, e_2019_33, e_2019_34, e_2019_35, zk_int, zk_ref, zk_null, zk_none, zk_long, zisR_r, zisR_n, zcl_int, zcl_ref, zcl_null, zpush_s, zpush_n, zbs, zbn, true_or, or_true, not_false_eq_true, not_true_eq_false, ↓reduceIte, and_self, and_true, true_and, zt_13, zr_13_0, zt_14, y_tableCount (zSc_22 C), l1, k1]
    simp only [e_2019_78, e_2019_79, e_2019_82, e_2019_83, e_2019_84, e_2019_87, e_2019_90, zk_int, zk_ref, zk_null, zk_none, zk_long, zisR_r, zisR_n, zcl_int, zcl_ref, zcl_null, zpush_s, zpush_n, zbs, zbn, true_or, or_true, not_false_eq_true, not_true_eq_false, ↓reduceIte, and_self, and_true, true_and, zt_13, zr_13_6, p1, e2, nI_1]
    have e3 : sHi T V G m t = sAhd (sHi T V G m) (t + 1) := rfl
    rw [e3, ih2]
    by_cases h : t + 1 = n
    · rw [if_pos h, if_pos h]
      subst h
      rfl
    · rw [if_neg h, if_neg h]
theorem q_st3 {Q : Nat → Int32} {x1 : Int32} {o3 o4 : Option Value} (C : zSc Y n m T V G) : ∀ t, t ≤ n → den (d + 4) 2019 103 [some (.ref 13), some (.int x1), some (.int (nI t - 1)), o3, o4] [] (zuA Y 22 (sQ2 T V G Q n m t)) = some (none, zuA Y 22 (sQ2 T V G Q n m 0)) := by
  have hn8 := C.1.2.2.1
  intro t
  induction t with
  | zero =>
    intro ht
    have l1 : (nI 0 - 1 < 0) = True := eq_true (by decide)
    simp only [c_2019, e_2019_0, e_2019_1, e_2019_4, e_2019_5, e_2019_8, e_2019_11, e_2019_12, e_2019_15, e_2019_16, e_2019_17, e_2019_18, e_2019_20, e_2019_21, e_2019_24, e_2019_27, e_2019_30, e_2019_31, e_2019_32, e_2019_33, e_2019_34, e_2019_35, e_2019_39, e_2019_40, e_2019_43, e_2019_46, e_2019_49, e_2019_50, e_2019_51, e_2019_54, e_2019_55, e_2019_56, e_2019_59, e_2019_61, e_2019_64, e_2019_65, e_2019_68, e_2019_71, e_2019_72, e_2019_75, e_2019_78, e_2019_79, e_2019_82, e_2019_83, e_2019_84, e_2019_87, e_2019_90, e_2019_93, e_2019_94, e_2019_97, e_2019_100, e_2019_101, e_2019_102, e_2019_103, e_2019_104, e_2019_107, e_2019_108, e_2019_111, e_2019_112, e_2019_113, e_2019_116, e_2019_117, e_2019_120, e_2019_121, e_2019_124, e_2019_125, e_2019_126, e_2019_127, e_2019_130, e_2019_131, e_2019_134, e_2019_137, e_2019_140, zk_int, zk_ref, zk_null, zk_none, zk_long, zisR_r, zisR_n, zcl_int, zcl_ref, zcl_null, zpush_s, zpush_n, zbs, zbn, true_or, or_true, not_false_eq_true, not_true_eq_false, ↓reduceIte, and_self, and_true, true_and, l1]
  | succ t ih =>
    intro ht
    have e1 : nI (t + 1) - 1 = nI t := nI_pred t
    rw [e1]
    have l1 := nI_lt0 (a := t) (by omega)
    have a1 := q_at (d := d + 3) (a := 22) (j := t) (w := zuA Y 22 (sQ2 T V G Q n m (t + 1))) zt_22 (by rw [zn_22]; omega) (by rw [zn_22]; decide)
    have a2 := q_at (d := d + 3) (a := 22) (j := t + 1) (w := zuA Y 22 (sQ2 T V G Q n m (t + 1))) zt_22 (by rw [zn_22]; omega) (by rw [zn_22]; decide)
    have p1 := fun v => q_put (d := d + 3) (a := 22) (j := t) (w := zuA Y 22 (sQ2 T V G Q n m (t + 1))) (v := v) zt_22 (by rw [zn_22]; omega) (by rw [zn_22]; decide)
    simp only [zA_s, zA_A] at a1 a2 p1
    have e2 := sQ2_s T V G Q n m t (by omega)
    have e3 : nI t + -1 = nI t - 1 := by grind
    rw [e_2019_103]
    simp only [c_2019, e_2019_0, e_2019_1, e_2019_4, e_2019_5, e_2019_8, e_2019_11, e_2019_12, e_2019_15, e_2019_16, e_2019_17, e_2019_18, e_2019_20, e_2019_21, e_2019_24, e_2019_27, e_2019_30, e_2019_31, e_2019_32, e_2019_33, e_2019_34, e_2019_35, e_2019_39, e_2019_40, e_2019_43, e_2019_46, e_2019_49, e_2019_50, e_2019_51, e_2019_54, e_2019_55, e_2019_56, e_2019_59, e_2019_61, e_2019_64, e_2019_65, e_2019_68, e_2019_71, e_2019_72, e_2019_75, e_2019_78, e_2019_79, e_2019_82, e_2019_83, e_2019_84, e_2019_87, e_2019_90, e_2019_93, e_2019_94, e_2019_97, e_2019_100, e_2019_101, e_2019_102, e_2019_104, e_2019_107, e_2019_108, e_2019_111, e_2019_112, e_2019_113, e_2019_116, e_2019_117, e_2019_120, e_2019_121, e_2019_124, e_2019_125, e_2019_126, e_2019_127, e_2019_130, e_2019_131, e_2019_134, e_2019_137, e_2019_140, zk_int, zk_ref, zk_null, zk_none, zk_long, zisR_r, zisR_n, zcl_int, zcl_ref, zcl_null, zpush_s, zpush_n, zbs, zbn, true_or, or_true, not_false_eq_true, not_true_eq_false, ↓reduceIte, and_self, and_true, true_and, zt_13, zr_13_6, l1, a1, a2, p1, e2, nI_1, e3]
    exact ih (by omega)
theorem q_still (C : zSc Y n m T V G) : cal (d + 4) 2019 [.ref 13] Y = some (none, zuA Y 22 (sQ2 T V G (Y.1 22) n m 0)) := by
  have hn8 := C.1.2.2.1
  have p1 := q_put (d := d + 3) (a := 22) (j := n) (w := Y) (v := 0) zt_22 (by rw [zn_22]; omega) (by rw [zn_22]; decide)
  have k1 := q_st2 (d := d) (Q := Y.1 22) C n 0 none none (by omega)
  rw [sQ1_0] at k1
  have e0 : nI 0 = 0 := nI_0
  have e1 : sAhd (sHi T V G m) 0 = 0 := rfl
  rw [e1, e0] at k1
  simp only [c_2019, e_2019_0, e_2019_1, e_2019_4, e_2019_5, e_2019_8, e_2019_11, e_2019_12, e_2019_15, e_2019_16, e_2019_17, e_2019_18, e_2019_20, e_2019_21, e_2019_24, e_2019_27, e_2019_30, e_2019_31, e_2019_32, e_2019_33, e_2019_34, e_2019_35, e_2019_39, e_2019_40, e_2019_43, e_2019_46, e_2019_49, e_2019_50, e_2019_51, e_2019_54, e_2019_55, e_2019_56, e_2019_59, e_2019_61, e_2019_64, e_2019_65, e_2019_68, e_2019_71, e_2019_72, e_2019_75, e_2019_79, e_2019_82, e_2019_83, e_2019_84, e_2019_87, e_2019_90, e_2019_94, e_2019_97, e_2019_100, e_2019_101, e_2019_102, e_2019_104, e_2019_107, e_2019_108, e_2019_111, e_2019_112, e_2019_113, e_2019_116, e_2019_117, e_2019_120, e_2019_121, e_2019_124, e_2019_125, e_2019_126, e_2019_127, e_2019_130, e_2019_131, e_2019_134, e_2019_137, e_2019_140, zk_int, zk_ref, zk_null, zk_none, zk_long, zisR_r, zisR_n, zcl_int, zcl_ref, zcl_null, zpush_s, zpush_n, zbs, zbn, true_or, or_true, not_false_eq_true, not_true_eq_false, ↓reduceIte, and_self, and_true, true_and, zt_13, zr_13_0, zr_13_6, zt_14, y_tableCount C, p1, k1]
  generalize (if 0 = n then none else some (Value.int (sAhd (sHi T V G m) (n - 1)))) = o3
  generalize (if 0 = n then none else some (Value.int (nI m))) = o4
  have k2 := q_st3 (d := d) (Q := Y.1 22) (x1 := sAhd (sHi T V G m) n) (o3 := o3) (o4 := o4) C n (Nat.le_refl n)
  rw [sQ2_n] at k2
  simp only [e_2019_93, e_2019_94, e_2019_97, e_2019_100, e_2019_101, e_2019_102, zk_int, zk_ref, zk_null, zk_none, zk_long, zisR_r, zisR_n, zcl_int, zcl_ref, zcl_null, zpush_s, zpush_n, zbs, zbn, true_or, or_true, not_false_eq_true, not_true_eq_false, ↓reduceIte, and_self, and_true, true_and, zt_13, zr_13_0, zt_14, y_tableCount (zSc_22 C)]
  exact k2
end STC
theorem sW_u22 (Z : zM) (O K : Nat → Int32) (s : zSt4) (f : Nat → Int32) : zuA (sW Z O K s) 22 f = sW (zuA Z 22 f) O K s := by
  unfold sW
  rw [zA_n (a := 22) (b := 13) _ _ (by decide)]
  rw [zA_c _ _ _ (by decide), zA_c _ (a := 23) (b := 22) _ _ (by decide), zA_c _ (a := 21) (b := 22) _ _ (by decide), zA_c _ (a := 20) (b := 22) _ _ (by decide), zA_c _ (a := 13) (b := 22) _ _ (by decide)]
theorem sW_id (Z : zM) : sW Z (Z.1 20) (Z.1 21) (Z.1 23, Z.1 13 9, Z.1 13 10, Z.1 24) = Z := by
  unfold sW
  dsimp only
  rw [upd_id, upd_id, zA_id, zA_id, zA_id, zA_id, zA_id]
theorem zfoldl_P {σ : Type} {f : σ → Nat → σ} {s : σ} (P : σ → Prop) (h0 : P s) (hf : ∀ s y, P s → P (f s y)) : ∀ n, P (zfoldl f s n) := by
  intro n
  induction n with
  | zero => exact h0
  | succ n ih => exact hf _ _ ih
theorem pF_fd {m : Nat} {k ev : Int32} {T V G Q : Nat → Int32} : ∀ q t a O K (s : zSt4), (s.2.1 = 0 ∨ s.2.1 = 1) → ((pF m k ev T V G Q q t a O K s).2.1 = 0 ∨ (pF m k ev T V G Q q t a O K s).2.1 = 1) := by
  intro q
  induction q with
  | zero =>
    intro t a O K s h
    by_cases hb : sBad ev (sVal m ev O) s
    · have e : pF m k ev T V G Q 0 t a O K s = s := if_pos hb
      rw [e]; exact h
    · have e : pF m k ev T V G Q 0 t a O K s = (s.1, 1, sVal m ev O, zcpy s.1 s.2.2.2 8) := if_neg hb
      rw [e]; exact Or.inr rfl
  | succ q ih =>
    intro t a O K s h
    by_cases hb : sHp m t ev O Q s
    · have e : pF m k ev T V G Q (q + 1) t a O K s = s := if_pos hb
      rw [e]; exact h
    · have e : pF m k ev T V G Q (q + 1) t a O K s = zfoldl (fun s y => if k ≤ K y then s else pF m k ev T V G Q q (t + 1) (sGf T V G t y a) (upd O y (O y + sGf T V G t y a)) (upd K y (K y + 1)) (upd s.1 t (nI y), s.2)) s m := if_neg hb
      rw [e]
      refine zfoldl_P (fun s : zSt4 => s.2.1 = 0 ∨ s.2.1 = 1) h (fun s y hs => ?_) m
      by_cases hk : k ≤ K y
      · rw [if_pos hk]; exact hs
      · rw [if_neg hk]; exact ih _ _ _ _ _ hs
def zz4 (f : Nat → Int32) : Nat → Int32 := upd (upd (upd (upd f 0 0) 1 0) 2 0) 3 0
theorem zz4_0 (f : Nat → Int32) {y : Nat} (hy : y < 4) : zz4 f y = 0 := by
  unfold zz4 upd
  rcases (by omega : y = 0 ∨ y = 1 ∨ y = 2 ∨ y = 3) with rfl | rfl | rfl | rfl <;> rfl
theorem q_findWay {d n m : Nat} {w : zM} {k ev : Int32} (H1 : zHz w 1) (H14 : zHz w 14) (C : zTc (w.1 1) (w.1 2) n m) : ∃ Z' s', s' = pF m k ev (w.1 2) (w.1 3) (w.1 4) (sQ2 (w.1 2) (w.1 3) (w.1 4) (w.1 22) n m 0) n 0 0 (zz4 (w.1 20)) (zz4 (w.1 21)) (w.1 23, 0, 0, w.1 24) ∧ Z' = zuA (zO w (w.1 1) (w.1 2) (w.1 3) (w.1 4) (w.1 18)) 22 (sQ2 (w.1 2) (w.1 3) (w.1 4) (w.1 22) n m 0) ∧ cal (d + 6 + n) 2018 [.ref 13, .ref 1, .int k, .int ev] w = some (some (.int s'.2.1), sW Z' (zz4 (w.1 20)) (zz4 (w.1 21)) s') := by
  refine ⟨_, _, rfl, rfl, ?_⟩
  have hm4 : m ≤ 4 := C.2.2.2.1
  have hn8 : n ≤ 8 := C.2.1
  have hnm : 0 < n → 0 < m := fun h => by
    obtain ⟨y, hy, -⟩ := C.2.2.2.2 0 h
    omega
  have Cs : zSc (zO w (w.1 1) (w.1 2) (w.1 3) (w.1 4) (w.1 18)) n m (w.1 2) (w.1 3) (w.1 4) := ⟨zTc_C C, zO_15 _ _ _ _ _ _, zO_16 _ _ _ _ _ _, zO_17 _ _ _ _ _ _⟩
  have e1 := sW_id (zO w (w.1 1) (w.1 2) (w.1 3) (w.1 4) (w.1 18))
  have r20 : (zO w (w.1 1) (w.1 2) (w.1 3) (w.1 4) (w.1 18)).1 20 = w.1 20 := zO_n _ _ _ _ _ _ (by decide)
  have r21 : (zO w (w.1 1) (w.1 2) (w.1 3) (w.1 4) (w.1 18)).1 21 = w.1 21 := zO_n _ _ _ _ _ _ (by decide)
  have r22 : (zO w (w.1 1) (w.1 2) (w.1 3) (w.1 4) (w.1 18)).1 22 = w.1 22 := zO_n _ _ _ _ _ _ (by decide)
  have r23 : (zO w (w.1 1) (w.1 2) (w.1 3) (w.1 4) (w.1 18)).1 23 = w.1 23 := zO_n _ _ _ _ _ _ (by decide)
  have r24 : (zO w (w.1 1) (w.1 2) (w.1 3) (w.1 4) (w.1 18)).1 24 = w.1 24 := zO_n _ _ _ _ _ _ (by decide)
  rw [r20, r21, r23, r24] at e1
  generalize (zO w (w.1 1) (w.1 2) (w.1 3) (w.1 4) (w.1 18)).1 13 9 = f9 at e1
  generalize (zO w (w.1 1) (w.1 2) (w.1 3) (w.1 4) (w.1 18)).1 13 10 = f10 at e1
  have tb := t_become (d := d + 4 + n) H1 H14
  have tb : cal (d + 5 + n) 1001 [.ref 14, .ref 1] w = some (none, zO w (w.1 1) (w.1 2) (w.1 3) (w.1 4) (w.1 18)) := by
    have e : d + 5 + n = d + 4 + n + 1 := by omega
    rw [e]; exact tb
  rw [← e1] at tb
  generalize hZ : zO w (w.1 1) (w.1 2) (w.1 3) (w.1 4) (w.1 18) = Z at *
  have po0 := fun O K s => w_pown (d := d + 5 + n) (Z := Z) (O := O) (K := K) (s := s) (v := 0) (y := 0) (by decide)
  have po1 := fun O K s => w_pown (d := d + 5 + n) (Z := Z) (O := O) (K := K) (s := s) (v := 0) (y := 1) (by decide)
  have po2 := fun O K s => w_pown (d := d + 5 + n) (Z := Z) (O := O) (K := K) (s := s) (v := 0) (y := 2) (by decide)
  have po3 := fun O K s => w_pown (d := d + 5 + n) (Z := Z) (O := O) (K := K) (s := s) (v := 0) (y := 3) (by decide)
  have pt0 := fun O K s => w_ptaken (d := d + 5 + n) (Z := Z) (O := O) (K := K) (s := s) (v := 0) (y := 0) (by decide)
  have pt1 := fun O K s => w_ptaken (d := d + 5 + n) (Z := Z) (O := O) (K := K) (s := s) (v := 0) (y := 1) (by decide)
  have pt2 := fun O K s => w_ptaken (d := d + 5 + n) (Z := Z) (O := O) (K := K) (s := s) (v := 0) (y := 2) (by decide)
  have pt3 := fun O K s => w_ptaken (d := d + 5 + n) (Z := Z) (O := O) (K := K) (s := s) (v := 0) (y := 3) (by decide)
  have lp : ∀ j, (j = 0 ∨ j = 1 ∨ j = 2 ∨ j = 3) → ((4 : Int32) ≤ nI j) = False := fun j hj => nI_ge_f (a := j) (b := 4) (by omega) (by omega)
  have l4 : ((4 : Int32) ≤ nI 4) = True := eq_true (by decide)
  have st := q_still (d := d + 1 + n) (Y := sW Z (zz4 (w.1 20)) (zz4 (w.1 21)) (w.1 23, 0, 0, w.1 24)) ⟨w_C Cs, (sW_n _ _ _ _ (by decide)).trans Cs.2.1, (sW_n _ _ _ _ (by decide)).trans Cs.2.2.1, (sW_n _ _ _ _ (by decide)).trans Cs.2.2.2⟩
  have st : cal (d + 5 + n) 2019 [.ref 13] (sW Z (zz4 (w.1 20)) (zz4 (w.1 21)) (w.1 23, 0, 0, w.1 24)) = some (none, sW (zuA Z 22 (sQ2 (w.1 2) (w.1 3) (w.1 4) (w.1 22) n m 0)) (zz4 (w.1 20)) (zz4 (w.1 21)) (w.1 23, 0, 0, w.1 24)) := by
    have e : d + 5 + n = d + 1 + n + 4 := by omega
    rw [e, st, sW_n _ _ _ _ (by decide), r22, sW_u22]
  have pf := w_placeFrom (d := d) (k := k) (ev := ev) (zSc_22 (f := sQ2 (w.1 2) (w.1 3) (w.1 4) (w.1 22) n m 0) Cs) hnm n 0 0 (zz4 (w.1 20)) (zz4 (w.1 21)) (w.1 23, 0, 0, w.1 24) (by omega)
  rw [zA_s] at pf
  have e0 : nI 0 = 0 := nI_0
  have hfd := pF_fd (m := m) (k := k) (ev := ev) (T := w.1 2) (V := w.1 3) (G := w.1 4) (Q := sQ2 (w.1 2) (w.1 3) (w.1 4) (w.1 22) n m 0) n 0 0 (zz4 (w.1 20)) (zz4 (w.1 21)) (w.1 23, 0, 0, w.1 24) (Or.inl rfl)
  generalize pF m k ev (w.1 2) (w.1 3) (w.1 4) (sQ2 (w.1 2) (w.1 3) (w.1 4) (w.1 22) n m 0) n 0 0 (zz4 (w.1 20)) (zz4 (w.1 21)) (w.1 23, 0, 0, w.1 24) = s9 at *
  have lpd : ∀ (O K : Nat → Int32) (j : Nat), (j = 0 ∨ j = 1 ∨ j = 2 ∨ j = 3) → den (d + 5 + n + 1) 2018 21 [some (.ref 13), some (.ref 1), some (.int k), some (.int ev), some (.int (nI j))] [] (sW Z O K (w.1 23, 0, 0, w.1 24)) = den (d + 5 + n + 1) 2018 21 [some (.ref 13), some (.ref 1), some (.int k), some (.int ev), some (.int (nI (j + 1)))] [] (sW Z (upd O j 0) (upd K j 0) (w.1 23, 0, 0, w.1 24)) := by
    intro O K j hj
    have l1 := lp j hj
    have po := fun O K s => w_pown (d := d + 5 + n) (Z := Z) (O := O) (K := K) (s := s) (v := 0) (y := j) (by omega)
    have pt := fun O K s => w_ptaken (d := d + 5 + n) (Z := Z) (O := O) (K := K) (s := s) (v := 0) (y := j) (by omega)
    rw [e_2018_21]
    simp only [c_2018, e_2018_0, e_2018_1, e_2018_4, e_2018_5, e_2018_8, e_2018_9, e_2018_10, e_2018_13, e_2018_14, e_2018_15, e_2018_18, e_2018_19, e_2018_23, e_2018_24, e_2018_27, e_2018_28, e_2018_31, e_2018_33, e_2018_34, e_2018_37, e_2018_38, e_2018_41, e_2018_43, e_2018_44, e_2018_47, e_2018_50, e_2018_53, e_2018_54, e_2018_57, e_2018_58, e_2018_59, e_2018_60, e_2018_61, e_2018_62, e_2018_65, e_2018_66, e_2018_69, zk_int, zk_ref, zk_null, zk_none, zk_long, zisR_r, zisR_n, zcl_int, zcl_ref, zcl_null, zpush_s, zpush_n, zbs, zbn, true_or, or_true, not_false_eq_true, not_true_eq_false, ↓reduceIte, and_self, and_true, true_and, zt_13, zr_13_4, zr_13_5, l1, po, pt, nI_1]
  have ed : d + 6 + n = d + 5 + n + 1 := by omega
  rw [ed]
  simp only [c_2018, e_2018_0, e_2018_1, e_2018_4, e_2018_5, e_2018_8, e_2018_9, e_2018_10, e_2018_13, e_2018_14, e_2018_15, e_2018_18, e_2018_19, e_2018_23, e_2018_24, e_2018_27, e_2018_28, e_2018_31, e_2018_33, e_2018_34, e_2018_37, e_2018_38, e_2018_41, e_2018_43, e_2018_44, e_2018_47, e_2018_50, e_2018_53, e_2018_54, e_2018_57, e_2018_58, e_2018_59, e_2018_60, e_2018_61, e_2018_62, e_2018_65, e_2018_66, e_2018_69, zk_int, zk_ref, zk_null, zk_none, zk_long, zisR_r, zisR_n, zcl_int, zcl_ref, zcl_null, zpush_s, zpush_n, zbs, zbn, true_or, or_true, not_false_eq_true, not_true_eq_false, ↓reduceIte, and_self, and_true, true_and, zt_13, zr_13_0, zt_14, tb, zui_A, sW_ufd, sW_uvl]
  have k0 := lpd (w.1 20) (w.1 21) 0 (Or.inl rfl)
  rw [e0] at k0
  rw [k0, lpd _ _ 1 (Or.inr (Or.inl rfl)), lpd _ _ 2 (Or.inr (Or.inr (Or.inl rfl))), lpd _ _ 3 (Or.inr (Or.inr (Or.inr rfl)))]
  show den (d + 5 + n + 1) 2018 21 [some (.ref 13), some (.ref 1), some (.int k), some (.int ev), some (.int (nI 4))] [] (sW Z (zz4 (w.1 20)) (zz4 (w.1 21)) (w.1 23, 0, 0, w.1 24)) = _
  rw [e_2018_21]
  have efd := sW_fd (zuA Z 22 (sQ2 (w.1 2) (w.1 3) (w.1 4) (w.1 22) n m 0)) (zz4 (w.1 20)) (zz4 (w.1 21)) s9
  rw [e0] at pf
  simp only [c_2018, e_2018_0, e_2018_1, e_2018_4, e_2018_5, e_2018_8, e_2018_9, e_2018_10, e_2018_13, e_2018_14, e_2018_15, e_2018_18, e_2018_19, e_2018_23, e_2018_24, e_2018_27, e_2018_28, e_2018_31, e_2018_33, e_2018_34, e_2018_37, e_2018_38, e_2018_41, e_2018_43, e_2018_44, e_2018_47, e_2018_50, e_2018_53, e_2018_54, e_2018_57, e_2018_58, e_2018_59, e_2018_60, e_2018_61, e_2018_62, e_2018_65, e_2018_66, e_2018_69, zk_int, zk_ref, zk_null, zk_none, zk_long, zisR_r, zisR_n, zcl_int, zcl_ref, zcl_null, zpush_s, zpush_n, zbs, zbn, true_or, or_true, not_false_eq_true, not_true_eq_false, ↓reduceIte, and_self, and_true, true_and, zt_13, l4, st, pf, efd, hfd]
