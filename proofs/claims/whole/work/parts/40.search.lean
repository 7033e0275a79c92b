abbrev zSt4 : Type := (Nat → Int32) × Int32 × Int32 × (Nat → Int32)
def sW (Z : zM) (O K : Nat → Int32) (s : zSt4) : zM := zuA (zuA (zuA (zuA (zuA Z 13 (upd (upd (Z.1 13) 9 s.2.1) 10 s.2.2.1)) 20 O) 21 K) 23 s.1) 24 s.2.2.2
section SRW
variable (Z : zM) (O K : Nat → Int32) (s : zSt4) (f : Nat → Int32)
theorem sW_20 : (sW Z O K s).1 20 = O := by
  unfold sW
  rw [zA_n _ _ (by decide), zA_n _ _ (by decide), zA_n _ _ (by decide), zA_s]
theorem sW_21 : (sW Z O K s).1 21 = K := by
  unfold sW
  rw [zA_n _ _ (by decide), zA_n _ _ (by decide), zA_s]
theorem sW_23 : (sW Z O K s).1 23 = s.1 := by
  unfold sW
  rw [zA_n _ _ (by decide), zA_s]
theorem sW_24 : (sW Z O K s).1 24 = s.2.2.2 := by
  unfold sW
  rw [zA_s]
theorem sW_13 : (sW Z O K s).1 13 = upd (upd (Z.1 13) 9 s.2.1) 10 s.2.2.1 := by
  unfold sW
  rw [zA_n _ _ (by decide), zA_n _ _ (by decide), zA_n _ _ (by decide), zA_n _ _ (by decide), zA_s]
theorem sW_fd : (sW Z O K s).1 13 9 = s.2.1 := by
  rw [sW_13]
  unfold upd
  rw [if_neg (by decide), if_pos rfl]
theorem sW_vl : (sW Z O K s).1 13 10 = s.2.2.1 := by
  rw [sW_13]
  exact if_pos rfl
theorem sW_n {a : Nat} (ha : a ≠ 13 ∧ a ≠ 20 ∧ a ≠ 21 ∧ a ≠ 23 ∧ a ≠ 24) : (sW Z O K s).1 a = Z.1 a := by
  unfold sW
  rw [zA_n _ _ (by omega), zA_n _ _ (by omega), zA_n _ _ (by omega), zA_n _ _ (by omega), zA_n _ _ (by omega)]
theorem sW_u20 : zuA (sW Z O K s) 20 f = sW Z f K s := by
  unfold sW
  rw [zA_c _ _ _ (by decide), zA_c _ (a := 23) (b := 20) _ _ (by decide), zA_c _ (a := 21) (b := 20) _ _ (by decide), zA_A]
theorem sW_u21 : zuA (sW Z O K s) 21 f = sW Z O f s := by
  unfold sW
  rw [zA_c _ _ _ (by decide), zA_c _ (a := 23) (b := 21) _ _ (by decide), zA_A]
theorem sW_u23 : zuA (sW Z O K s) 23 f = sW Z O K (f, s.2) := by
  unfold sW
  rw [zA_c _ _ _ (by decide), zA_A]
theorem sW_u24 : zuA (sW Z O K s) 24 f = sW Z O K (s.1, s.2.1, s.2.2.1, f) := by
  unfold sW
  rw [zA_A]
theorem sW_u13 (fd vl : Int32) : zuA (sW Z O K s) 13 (upd (upd (Z.1 13) 9 fd) 10 vl) = sW Z O K (s.1, fd, vl, s.2.2.2) := by
  unfold sW
  rw [zA_c _ _ _ (by decide), zA_c _ (a := 23) (b := 13) _ _ (by decide), zA_c _ (a := 21) (b := 13) _ _ (by decide), zA_c _ (a := 20) (b := 13) _ _ (by decide), zA_A]
theorem upd_c (f : Nat → Int32) {a b : Nat} (x y : Int32) (h : a ≠ b) : upd (upd f a x) b y = upd (upd f b y) a x := by
  funext k
  unfold upd
  by_cases h1 : k = b
  · rw [if_pos h1, if_neg (fun z => h (z.symm.trans h1)), if_pos h1]
  · rw [if_neg h1, if_neg h1]
theorem sW_ufd (x : Int32) : zuA (sW Z O K s) 13 (upd ((sW Z O K s).1 13) 9 x) = sW Z O K (s.1, x, s.2.2) := by
  rw [sW_13, upd_c _ _ _ (by decide), upd_u, sW_u13]
theorem sW_uvl (x : Int32) : zuA (sW Z O K s) 13 (upd ((sW Z O K s).1 13) 10 x) = sW Z O K (s.1, s.2.1, x, s.2.2.2) := by
  rw [sW_13, upd_u, sW_u13]
end SRW
def zSc (Z : zM) (n m : Nat) (T V G : Nat → Int32) : Prop := zHc Z 14 n m ∧ Z.1 15 = T ∧ Z.1 16 = V ∧ Z.1 17 = G
def sMx (f : Nat → Int32) : Nat → Int32
  | 0 => f 0
  | j + 1 => imax (sMx f j) (f (j + 1))
def sMn (f : Nat → Int32) : Nat → Int32
  | 0 => f 0
  | j + 1 => imin (sMn f j) (f (j + 1))
def sHp (m t : Nat) (ev : Int32) (O Q : Nat → Int32) (s : zSt4) : Prop := ¬ s.2.1 = 0 ∧ (if ev = 0 then zsum O m + Q t ≤ s.2.2.1 else (s.2.2.1 = 0 ∨ s.2.2.1 ≤ sMx O (m - 1) - (zsum O m + Q t) / nI m))
def sVal (m : Nat) (ev : Int32) (O : Nat → Int32) : Int32 := if ev = 0 then zsum O m else sMx O (m - 1) - sMn O (m - 1)
def sBad (ev v : Int32) (s : zSt4) : Prop := ¬ s.2.1 = 0 ∧ (if ev = 0 then v ≤ s.2.2.1 else s.2.2.1 ≤ v)
noncomputable def sKeep (m : Nat) (ev : Int32) (O : Nat → Int32) (s : zSt4) : zSt4 := @ite _ (sBad ev (sVal m ev O) s) (Classical.propDecidable _) s (s.1, 1, sVal m ev O, zcpy s.1 s.2.2.2 8)
section SRC
variable {d n m : Nat} {Z : zM} {T V G O K : Nat → Int32} {s : zSt4}
theorem w_C (C : zSc Z n m T V G) : zHc (sW Z O K s) 14 n m := ⟨zHs14, by rw [sW_n _ _ _ _ (by decide)]; exact C.1.2.1, C.1.2.2.1, by rw [sW_n _ _ _ _ (by decide)]; exact C.1.2.2.2.1, C.1.2.2.2.2⟩
theorem w_waiterCount (C : zSc Z n m T V G) : cal d 1003 [.ref 14] (sW Z O K s) = some (some (.int (nI m)), sW Z O K s) := by
  have e := (w_C (O := O) (K := K) (s := s) C).2.2.2.1
  simp only [c_1003, e_1003_0, e_1003_1, e_1003_4, zk_int, zk_ref, zk_null, zk_none, zk_long, zisR_r, zisR_n, zcl_int, zcl_ref, zcl_null, zpush_s, zpush_n, zbs, zbn, true_or, or_true, not_false_eq_true, not_true_eq_false, ↓reduceIte, and_self, and_true, true_and, zt_14, e]
theorem w_tableCount (C : zSc Z n m T V G) : cal d 1002 [.ref 14] (sW Z O K s) = some (some (.int (nI n)), sW Z O K s) := by
  have e := (w_C (O := O) (K := K) (s := s) C).2.1
  simp only [c_1002, e_1002_0, e_1002_1, e_1002_4, zk_int, zk_ref, zk_null, zk_none, zk_long, zisR_r, zisR_n, zcl_int, zcl_ref, zcl_null, zpush_s, zpush_n, zbs, zbn, true_or, or_true, not_false_eq_true, not_true_eq_false, ↓reduceIte, and_self, and_true, true_and, zt_14, e]
theorem w_gift {t y : Nat} {a : Int32} (C : zSc Z n m T V G) (ht : t < n) : cal (d + 3) 1033 [.ref 14, .int (nI t), .int (sSvc V y), .int a] (sW Z O K s) = some (some (.int (sGift T G t (sSvc V y) a)), sW Z O K s) := by
  have q := q_giftWith (d := d) (q := sSvc V y) (a := a) (w_C (O := O) (K := K) (s := s) C) ht
  rw [q, sW_n _ _ _ _ (by decide), sW_n _ _ _ _ (by decide), C.2.1, C.2.2.2]
theorem w_service {y : Nat} (C : zSc Z n m T V G) (hy : y < m) : cal (d + 2) 1027 [.ref 14, .int (nI y)] (sW Z O K s) = some (some (.int (sSvc V y)), sW Z O K s) := by
  have q := q_serviceOf (d := d) (w_C (O := O) (K := K) (s := s) C) hy
  rw [q, sW_n _ _ _ _ (by decide), C.2.2.1]
theorem w_own {y : Nat} (hy : y < 4) : cal d 5054 [.ref 20, .int (nI y)] (sW Z O K s) = some (some (.int (O y)), sW Z O K s) := by
  rw [q_at zt_20 (by rw [zn_20]; exact hy) (by rw [zn_20]; decide), sW_20]
theorem w_taken {y : Nat} (hy : y < 4) : cal d 5054 [.ref 21, .int (nI y)] (sW Z O K s) = some (some (.int (K y)), sW Z O K s) := by
  rw [q_at zt_21 (by rw [zn_21]; exact hy) (by rw [zn_21]; decide), sW_21]
theorem w_still {t : Nat} (ht : t < 9) : cal d 5054 [.ref 22, .int (nI t)] (sW Z O K s) = some (some (.int (Z.1 22 t)), sW Z O K s) := by
  rw [q_at zt_22 (by rw [zn_22]; exact ht) (by rw [zn_22]; decide), sW_n _ _ _ _ (by decide)]
theorem w_pown {y : Nat} {v : Int32} (hy : y < 4) : cal d 5055 [.ref 20, .int (nI y), .int v] (sW Z O K s) = some (none, sW Z (upd O y v) K s) := by
  rw [q_put zt_20 (by rw [zn_20]; exact hy) (by rw [zn_20]; decide), sW_20, sW_u20]
theorem w_ptaken {y : Nat} {v : Int32} (hy : y < 4) : cal d 5055 [.ref 21, .int (nI y), .int v] (sW Z O K s) = some (none, sW Z O (upd K y v) s) := by
  rw [q_put zt_21 (by rw [zn_21]; exact hy) (by rw [zn_21]; decide), sW_21, sW_u21]
theorem w_phand {t : Nat} {v : Int32} (ht : t < 8) : cal d 5055 [.ref 23, .int (nI t), .int v] (sW Z O K s) = some (none, sW Z O K (upd s.1 t v, s.2)) := by
  rw [q_put zt_23 (by rw [zn_23]; exact ht) (by rw [zn_23]; decide), sW_23, sW_u23]
theorem w_sumOfOwn (C : zSc Z n m T V G) : cal (d + 1) 2023 [.ref 13] (sW Z O K s) = some (some (.int (zsum O m)), sW Z O K s) := by
  have hm := C.1.2.2.2.2
  have key : ∀ q j, j + q = m → den (d + 1) 2023 4 [some (.ref 13), some (.int (zsum O j)), some (.int (nI j))] [] (sW Z O K s) = some (some (.int (zsum O m)), sW Z O K s) := by
    intro q
    induction q with
    | zero =>
      intro j hj
      have e : j = m := by omega
      subst e
      have l1 := nI_le_n (Nat.le_refl j) (by omega)
      simp only [c_2023, e_2023_0, e_2023_1, e_2023_2, e_2023_3, e_2023_4, e_2023_5, e_2023_6, e_2023_9, e_2023_12, e_2023_15, e_2023_16, e_2023_17, e_2023_20, e_2023_21, e_2023_24, e_2023_25, e_2023_26, e_2023_29, e_2023_32, e_2023_33, zk_int, zk_ref, zk_null, zk_none, zk_long, zisR_r, zisR_n, zcl_int, zcl_ref, zcl_null, zpush_s, zpush_n, zbs, zbn, true_or, or_true, not_false_eq_true, not_true_eq_false, ↓reduceIte, and_self, and_true, true_and, zt_13, zr_13_0, zt_14, w_waiterCount C, l1]
    | succ q ih =>
      intro j hj
      have hjm : j < m := by omega
      have l1 := nI_ge_f hjm (by omega)
      have q4 := w_own (d := d) (Z := Z) (O := O) (K := K) (s := s) (y := j) (by omega)
      rw [e_2023_4]
      simp only [c_2023, e_2023_0, e_2023_1, e_2023_2, e_2023_3, e_2023_5, e_2023_6, e_2023_9, e_2023_12, e_2023_15, e_2023_16, e_2023_17, e_2023_20, e_2023_21, e_2023_24, e_2023_25, e_2023_26, e_2023_29, e_2023_32, e_2023_33, zk_int, zk_ref, zk_null, zk_none, zk_long, zisR_r, zisR_n, zcl_int, zcl_ref, zcl_null, zpush_s, zpush_n, zbs, zbn, true_or, or_true, not_false_eq_true, not_true_eq_false, ↓reduceIte, and_self, and_true, true_and, zt_13, zr_13_0, zr_13_4, zt_14, w_waiterCount C, l1, q4, zsum_s, nI_1]
      exact ih (j + 1) (by omega)
  have h1 := key m 0 (by omega)
  simp only [c_2023, e_2023_0, e_2023_1, e_2023_2, e_2023_3, e_2023_5, e_2023_6, e_2023_9, e_2023_12, e_2023_15, e_2023_16, e_2023_17, e_2023_20, e_2023_21, e_2023_24, e_2023_25, e_2023_26, e_2023_29, e_2023_32, e_2023_33, zk_int, zk_ref, zk_null, zk_none, zk_long, zisR_r, zisR_n, zcl_int, zcl_ref, zcl_null, zpush_s, zpush_n, zbs, zbn, true_or, or_true, not_false_eq_true, not_true_eq_false, ↓reduceIte, and_self, and_true, true_and]
  exact h1
theorem w_greatest (C : zSc Z n m T V G) : cal (d + 1) 2024 [.ref 13] (sW Z O K s) = some (some (.int (sMx O (m - 1))), sW Z O K s) := by
  have hm := C.1.2.2.2.2
  have key : ∀ q j, j + 1 + q = max m 1 → den (d + 1) 2024 11 [some (.ref 13), some (.int (sMx O j)), some (.int (nI (j + 1)))] [] (sW Z O K s) = some (some (.int (sMx O (m - 1))), sW Z O K s) := by
    intro q
    induction q with
    | zero =>
      intro j hj
      have e : j = m - 1 := by omega
      have l1 : (nI m ≤ nI (j + 1)) = True := nI_le_n (by omega) (by omega)
      rw [← e]
      simp only [c_2024, e_2024_0, e_2024_1, e_2024_4, e_2024_5, e_2024_8, e_2024_9, e_2024_10, e_2024_11, e_2024_12, e_2024_13, e_2024_16, e_2024_19, e_2024_22, e_2024_23, e_2024_24, e_2024_27, e_2024_28, e_2024_31, e_2024_34, e_2024_35, e_2024_38, e_2024_41, e_2024_42, zk_int, zk_ref, zk_null, zk_none, zk_long, zisR_r, zisR_n, zcl_int, zcl_ref, zcl_null, zpush_s, zpush_n, zbs, zbn, true_or, or_true, not_false_eq_true, not_true_eq_false, ↓reduceIte, and_self, and_true, true_and, zt_13, zr_13_0, zt_14, w_waiterCount C, l1]
    | succ q ih =>
      intro j hj
      have hjm : j + 1 < m := by omega
      have l1 := nI_ge_f hjm (by omega)
      have q4 := w_own (d := d) (Z := Z) (O := O) (K := K) (s := s) (y := j + 1) (by omega)
      have q5 : imax (sMx O j) (O (j + 1)) = sMx O (j + 1) := rfl
      rw [e_2024_11]
      simp only [c_2024, e_2024_0, e_2024_1, e_2024_4, e_2024_5, e_2024_8, e_2024_9, e_2024_10, e_2024_12, e_2024_13, e_2024_16, e_2024_19, e_2024_22, e_2024_23, e_2024_24, e_2024_27, e_2024_28, e_2024_31, e_2024_34, e_2024_35, e_2024_38, e_2024_41, e_2024_42, zk_int, zk_ref, zk_null, zk_none, zk_long, zisR_r, zisR_n, zcl_int, zcl_ref, zcl_null, zpush_s, zpush_n, zbs, zbn, true_or, or_true, not_false_eq_true, not_true_eq_false, ↓reduceIte, and_self, and_true, true_and, zt_13, zr_13_0, zr_13_4, zt_14, w_waiterCount C, l1, q4, q5, nI_1]
      exact ih (j + 1) (by omega)
  have h1 := key (max m 1 - 1) 0 (by omega)
  have q4 : cal d 5054 [.ref 20, .int 0] (sW Z O K s) = some (some (.int (O 0)), sW Z O K s) := w_own (y := 0) (by decide)
  simp only [c_2024, e_2024_0, e_2024_1, e_2024_4, e_2024_5, e_2024_8, e_2024_9, e_2024_10, e_2024_12, e_2024_13, e_2024_16, e_2024_19, e_2024_22, e_2024_23, e_2024_24, e_2024_27, e_2024_28, e_2024_31, e_2024_34, e_2024_35, e_2024_38, e_2024_41, e_2024_42, zk_int, zk_ref, zk_null, zk_none, zk_long, zisR_r, zisR_n, zcl_int, zcl_ref, zcl_null, zpush_s, zpush_n, zbs, zbn, true_or, or_true, not_false_eq_true, not_true_eq_false, ↓reduceIte, and_self, and_true, true_and, zt_13, zr_13_4, q4]
  exact h1
theorem w_least (C : zSc Z n m T V G) : cal (d + 1) 2025 [.ref 13] (sW Z O K s) = some (some (.int (sMn O (m - 1))), sW Z O K s) := by
  have hm := C.1.2.2.2.2
  have key : ∀ q j, j + 1 + q = max m 1 → den (d + 1) 2025 11 [some (.ref 13), some (.int (sMn O j)), some (.int (nI (j + 1)))] [] (sW Z O K s) = some (some (.int (sMn O (m - 1))), sW Z O K s) := by
    intro q
    induction q with
    | zero =>
      intro j hj
      have e : j = m - 1 := by omega
      have l1 : (nI m ≤ nI (j + 1)) = True := nI_le_n (by omega) (by omega)
      rw [← e]
      simp only [c_2025, e_2025_0, e_2025_1, e_2025_4, e_2025_5, e_2025_8, e_2025_9, e_2025_10, e_2025_11, e_2025_12, e_2025_13, e_2025_16, e_2025_19, e_2025_22, e_2025_23, e_2025_24, e_2025_27, e_2025_28, e_2025_31, e_2025_34, e_2025_35, e_2025_38, e_2025_41, e_2025_42, zk_int, zk_ref, zk_null, zk_none, zk_long, zisR_r, zisR_n, zcl_int, zcl_ref, zcl_null, zpush_s, zpush_n, zbs, zbn, true_or, or_true, not_false_eq_true, not_true_eq_false, ↓reduceIte, and_self, and_true, true_and, zt_13, zr_13_0, zt_14, w_waiterCount C, l1]
    | succ q ih =>
      intro j hj
      have hjm : j + 1 < m := by omega
      have l1 := nI_ge_f hjm (by omega)
      have q4 := w_own (d := d) (Z := Z) (O := O) (K := K) (s := s) (y := j + 1) (by omega)
      have q5 : imin (sMn O j) (O (j + 1)) = sMn O (j + 1) := rfl
      rw [e_2025_11]
      simp only [c_2025, e_2025_0, e_2025_1, e_2025_4, e_2025_5, e_2025_8, e_2025_9, e_2025_10, e_2025_12, e_2025_13, e_2025_16, e_2025_19, e_2025_22, e_2025_23, e_2025_24, e_2025_27, e_2025_28, e_2025_31, e_2025_34, e_2025_35, e_2025_38, e_2025_41, e_2025_42, zk_int, zk_ref, zk_null, zk_none, zk_long, zisR_r, zisR_n, zcl_int, zcl_ref, zcl_null, zpush_s, zpush_n, zbs, zbn, true_or, or_true, not_false_eq_true, not_true_eq_false, ↓reduceIte, and_self, and_true, true_and, zt_13, zr_13_0, zr_13_4, zt_14, w_waiterCount C, l1, q4, q5, nI_1]
      exact ih (j + 1) (by omega)
  have h1 := key (max m 1 - 1) 0 (by omega)
  have q4 : cal d 5054 [.ref 20, .int 0] (sW Z O K s) = some (some (.int (O 0)), sW Z O K s) := w_own (y := 0) (by decide)
  simp only [c_2025, e_2025_0, e_2025_1, e_2025_4, e_2025_5, e_2025_8, e_2025_9, e_2025_10, e_2025_12, e_2025_13, e_2025_16, e_2025_19, e_2025_22, e_2025_23, e_2025_24, e_2025_27, e_2025_28, e_2025_31, e_2025_34, e_2025_35, e_2025_38, e_2025_41, e_2025_42, zk_int, zk_ref, zk_null, zk_none, zk_long, zisR_r, zisR_n, zcl_int, zcl_ref, zcl_null, zpush_s, zpush_n, zbs, zbn, true_or, or_true, not_false_eq_true, not_true_eq_false, ↓reduceIte, and_self, and_true, true_and, zt_13, zr_13_4, q4]
  exact h1
theorem w_hopeless {t : Nat} {ev : Int32} (C : zSc Z n m T V G) (ht : t < 9) (hm0 : 0 < m) : ∃ b : Int32, cal (d + 2) 2021 [.ref 13, .int (nI t), .int ev] (sW Z O K s) = some (some (.int b), sW Z O K s) ∧ ((b = 1 ∧ sHp m t ev O (Z.1 22) s) ∨ (b = 0 ∧ ¬ sHp m t ev O (Z.1 22) s)) := by
  have hm := C.1.2.2.2.2
  have e1 := sW_fd Z O K s
  have e2 := sW_vl Z O K s
  have g0 := nI_nle0 hm0 (by omega)
  have g1 : (0 < nI m) = True := eq_true (by have := nI_lt (a := 0) (b := m) hm0 (by omega); exact this)
  have g2 := nI_ne0' hm0 (by omega)
  have q1 := w_still (d := d + 1) (Z := Z) (O := O) (K := K) (s := s) ht
  by_cases h1 : s.2.1 = 0
  · refine ⟨0, ?_, Or.inr ⟨rfl, fun h => h.1 h1⟩⟩
    simp only [c_2021, e_2021_0, e_2021_1, e_2021_4, e_2021_7, e_2021_8, e_2021_9, e_2021_12, e_2021_15, e_2021_16, e_2021_19, e_2021_20, e_2021_21, e_2021_22, e_2021_25, e_2021_26, e_2021_29, e_2021_30, e_2021_33, e_2021_34, e_2021_36, e_2021_37, e_2021_40, e_2021_42, e_2021_43, e_2021_46, e_2021_49, e_2021_50, e_2021_53, e_2021_54, e_2021_55, e_2021_56, e_2021_59, e_2021_62, e_2021_63, e_2021_66, e_2021_68, e_2021_69, e_2021_70, e_2021_71, e_2021_72, e_2021_75, e_2021_78, e_2021_79, e_2021_82, e_2021_83, zk_int, zk_ref, zk_null, zk_none, zk_long, zisR_r, zisR_n, zcl_int, zcl_ref, zcl_null, zpush_s, zpush_n, zbs, zbn, true_or, or_true, not_false_eq_true, not_true_eq_false, ↓reduceIte, and_self, and_true, true_and, zt_13, zr_13_0, zt_14, w_waiterCount C, e1, h1]
  · by_cases h2 : ev = 0
    · by_cases h3 : s.2.2.1 < zsum O m + Z.1 22 t
      · refine ⟨0, ?_, Or.inr ⟨rfl, fun h => ?_⟩⟩
        · simp only [c_2021, e_2021_0, e_2021_1, e_2021_4, e_2021_7, e_2021_8, e_2021_9, e_2021_12, e_2021_15, e_2021_16, e_2021_19, e_2021_20, e_2021_21, e_2021_22, e_2021_25, e_2021_26, e_2021_29, e_2021_30, e_2021_33, e_2021_34, e_2021_36, e_2021_37, e_2021_40, e_2021_42, e_2021_43, e_2021_46, e_2021_49, e_2021_50, e_2021_53, e_2021_54, e_2021_55, e_2021_56, e_2021_59, e_2021_62, e_2021_63, e_2021_66, e_2021_68, e_2021_69, e_2021_70, e_2021_71, e_2021_72, e_2021_75, e_2021_78, e_2021_79, e_2021_82, e_2021_83, zk_int, zk_ref, zk_null, zk_none, zk_long, zisR_r, zisR_n, zcl_int, zcl_ref, zcl_null, zpush_s, zpush_n, zbs, zbn, true_or, or_true, not_false_eq_true, not_true_eq_false, ↓reduceIte, and_self, and_true, true_and, zt_13, zr_13_0, zr_13_6, zt_14, w_waiterCount C, e1, h1, g1, w_sumOfOwn C, q1, h2, e2, h3]
        · have h4 := h.2
          rw [if_pos h2] at h4
          exact absurd h3 (Int32.not_lt.mpr h4)
      · refine ⟨1, ?_, Or.inl ⟨rfl, h1, ?_⟩⟩
        · simp only [c_2021, e_2021_0, e_2021_1, e_2021_4, e_2021_7, e_2021_8, e_2021_9, e_2021_12, e_2021_15, e_2021_16, e_2021_19, e_2021_20, e_2021_21, e_2021_22, e_2021_25, e_2021_26, e_2021_29, e_2021_30, e_2021_33, e_2021_34, e_2021_36, e_2021_37, e_2021_40, e_2021_42, e_2021_43, e_2021_46, e_2021_49, e_2021_50, e_2021_53, e_2021_54, e_2021_55, e_2021_56, e_2021_59, e_2021_62, e_2021_63, e_2021_66, e_2021_68, e_2021_69, e_2021_70, e_2021_71, e_2021_72, e_2021_75, e_2021_78, e_2021_79, e_2021_82, e_2021_83, zk_int, zk_ref, zk_null, zk_none, zk_long, zisR_r, zisR_n, zcl_int, zcl_ref, zcl_null, zpush_s, zpush_n, zbs, zbn, true_or, or_true, not_false_eq_true, not_true_eq_false, ↓reduceIte, and_self, and_true, true_and, zt_13, zr_13_0, zr_13_6, zt_14, w_waiterCount C, e1, h1, g1, w_sumOfOwn C, q1, h2, e2, h3]
        · rw [if_pos h2]
          exact Int32.not_lt.mp h3
    · by_cases h3 : s.2.2.1 = 0
      · refine ⟨1, ?_, Or.inl ⟨rfl, h1, ?_⟩⟩
        · simp only [c_2021, e_2021_0, e_2021_1, e_2021_4, e_2021_7, e_2021_8, e_2021_9, e_2021_12, e_2021_15, e_2021_16, e_2021_19, e_2021_20, e_2021_21, e_2021_22, e_2021_25, e_2021_26, e_2021_29, e_2021_30, e_2021_33, e_2021_34, e_2021_36, e_2021_37, e_2021_40, e_2021_42, e_2021_43, e_2021_46, e_2021_49, e_2021_50, e_2021_53, e_2021_54, e_2021_55, e_2021_56, e_2021_59, e_2021_62, e_2021_63, e_2021_66, e_2021_68, e_2021_69, e_2021_70, e_2021_71, e_2021_72, e_2021_75, e_2021_78, e_2021_79, e_2021_82, e_2021_83, zk_int, zk_ref, zk_null, zk_none, zk_long, zisR_r, zisR_n, zcl_int, zcl_ref, zcl_null, zpush_s, zpush_n, zbs, zbn, true_or, or_true, not_false_eq_true, not_true_eq_false, ↓reduceIte, and_self, and_true, true_and, zt_13, zr_13_0, zr_13_6, zt_14, w_waiterCount C, e1, h1, g1, w_sumOfOwn C, q1, h2, e2, h3]
        · rw [if_neg h2]
          exact Or.inl h3
      · by_cases h4 : sMx O (m - 1) - (zsum O m + Z.1 22 t) / nI m < s.2.2.1
        · refine ⟨0, ?_, Or.inr ⟨rfl, fun h => ?_⟩⟩
          · simp only [c_2021, e_2021_0, e_2021_1, e_2021_4, e_2021_7, e_2021_8, e_2021_9, e_2021_12, e_2021_15, e_2021_16, e_2021_19, e_2021_20, e_2021_21, e_2021_22, e_2021_25, e_2021_26, e_2021_29, e_2021_30, e_2021_33, e_2021_34, e_2021_36, e_2021_37, e_2021_40, e_2021_42, e_2021_43, e_2021_46, e_2021_49, e_2021_50, e_2021_53, e_2021_54, e_2021_55, e_2021_56, e_2021_59, e_2021_62, e_2021_63, e_2021_66, e_2021_68, e_2021_69, e_2021_70, e_2021_71, e_2021_72, e_2021_75, e_2021_78, e_2021_79, e_2021_82, e_2021_83, zk_int, zk_ref, zk_null, zk_none, zk_long, zisR_r, zisR_n, zcl_int, zcl_ref, zcl_null, zpush_s, zpush_n, zbs, zbn, true_or, or_true, not_false_eq_true, not_true_eq_false, ↓reduceIte, and_self, and_true, true_and, zt_13, zr_13_0, zr_13_6, zt_14, w_waiterCount C, e1, h1, g1, g2, w_sumOfOwn C, w_greatest C, q1, h2, e2, h3, h4]
          · have h5 := h.2
            rw [if_neg h2] at h5
            rcases h5 with h5 | h5
            · exact h3 h5
            · exact absurd h4 (Int32.not_lt.mpr h5)
        · refine ⟨1, ?_, Or.inl ⟨rfl, h1, ?_⟩⟩
          · simp only [c_2021, e_2021_0, e_2021_1, e_2021_4, e_2021_7, e_2021_8, e_2021_9, e_2021_12, e_2021_15, e_2021_16, e_2021_19, e_2021_20, e_2021_21, e_2021_22, e_2021_25, e_2021_26, e_2021_29, e_2021_30, e_2021_33, e_2021_34, e_2021_36, e_2021_37, e_2021_40, e_2021_42, e_2021_43, e_2021_46, e_2021_49, e_2021_50, e_2021_53, e_2021_54, e_2021_55, e_2021_56, e_2021_59, e_2021_62, e_2021_63, e_2021_66, e_2021_68, e_2021_69, e_2021_70, e_2021_71, e_2021_72, e_2021_75, e_2021_78, e_2021_79, e_2021_82, e_2021_83, zk_int, zk_ref, zk_null, zk_none, zk_long, zisR_r, zisR_n, zcl_int, zcl_ref, zcl_null, zpush_s, zpush_n, zbs, zbn, true_or, or_true, not_false_eq_true, not_true_eq_false, ↓reduceIte, and_self, and_true, true_and, zt_13, zr_13_0, zr_13_6, zt_14, w_waiterCount C, e1, h1, g1, g2, w_sumOfOwn C, w_greatest C, q1, h2, e2, h3, h4]
          · rw [if_neg h2]
            exact Or.inr (Int32.not_lt.mp h4)
theorem w_keep {ev : Int32} (C : zSc Z n m T V G) : cal (d + 2) 2022 [.ref 13, .int ev] (sW Z O K s) = some (none, sW Z O K (sKeep m ev O s)) := by
  have e1 := sW_fd Z O K s
  have e2 := sW_vl Z O K s
  have cp : ∀ s : zSt4, cal (d + 1) 5056 [.ref 23, .ref 24] (sW Z O K s) = some (none, sW Z O K (s.1, s.2.1, s.2.2.1, zcpy s.1 s.2.2.2 8)) := by
    intro s
    rw [q_copyAll zt_23 zt_24 zn_23 zn_24 (by decide) (by decide), sW_23, sW_24, sW_u24]
  by_cases h2 : ev = 0
  · by_cases h1 : s.2.1 = 0
    · have h5 : sKeep m ev O s = (s.1, 1, sVal m ev O, zcpy s.1 s.2.2.2 8) := if_neg (fun h => h.1 h1)
      have h6 : sVal m ev O = zsum O m := if_pos h2
      rw [h5, h6]
      simp only [c_2022, e_2022_0, e_2022_1, e_2022_4, e_2022_5, e_2022_8, e_2022_9, e_2022_12, e_2022_13, e_2022_16, e_2022_17, e_2022_20, e_2022_21, e_2022_22, e_2022_25, e_2022_28, e_2022_29, e_2022_32, e_2022_33, e_2022_34, e_2022_37, e_2022_40, e_2022_43, e_2022_44, e_2022_45, e_2022_48, e_2022_51, e_2022_52, e_2022_53, e_2022_54, e_2022_57, e_2022_58, e_2022_59, e_2022_62, e_2022_63, e_2022_66, e_2022_67, e_2022_70, e_2022_73, zk_int, zk_ref, zk_null, zk_none, zk_long, zisR_r, zisR_n, zcl_int, zcl_ref, zcl_null, zpush_s, zpush_n, zbs, zbn, true_or, or_true, not_false_eq_true, not_true_eq_false, ↓reduceIte, and_self, and_true, true_and, zt_13, zr_13_7, zr_13_8, w_sumOfOwn C, h2, e1, h1, zui_A, sW_ufd, sW_uvl, cp, true_or]
    · by_cases h3 : s.2.2.1 < zsum O m
      · have h6 : sVal m ev O = zsum O m := if_pos h2
        have h5 : sKeep m ev O s = (s.1, 1, sVal m ev O, zcpy s.1 s.2.2.2 8) := if_neg (fun h => by
          have h7 := h.2
          rw [if_pos h2, h6] at h7
          exact absurd h3 (Int32.not_lt.mpr h7))
        rw [h5, h6]
        simp only [c_2022, e_2022_0, e_2022_1, e_2022_4, e_2022_5, e_2022_8, e_2022_9, e_2022_12, e_2022_13, e_2022_16, e_2022_17, e_2022_20, e_2022_21, e_2022_22, e_2022_25, e_2022_28, e_2022_29, e_2022_32, e_2022_33, e_2022_34, e_2022_37, e_2022_40, e_2022_43, e_2022_44, e_2022_45, e_2022_48, e_2022_51, e_2022_52, e_2022_53, e_2022_54, e_2022_57, e_2022_58, e_2022_59, e_2022_62, e_2022_63, e_2022_66, e_2022_67, e_2022_70, e_2022_73, zk_int, zk_ref, zk_null, zk_none, zk_long, zisR_r, zisR_n, zcl_int, zcl_ref, zcl_null, zpush_s, zpush_n, zbs, zbn, true_or, or_true, not_false_eq_true, not_true_eq_false, ↓reduceIte, and_self, and_true, true_and, zt_13, zr_13_7, zr_13_8, w_sumOfOwn C, h2, e1, e2, h1, h3, zui_A, sW_ufd, sW_uvl, cp, true_or]
      · have h6 : sVal m ev O = zsum O m := if_pos h2
        have h5 : sKeep m ev O s = s := if_pos ⟨h1, by rw [if_pos h2, h6]; exact Int32.not_lt.mp h3⟩
        rw [h5]
        simp only [c_2022, e_2022_0, e_2022_1, e_2022_4, e_2022_5, e_2022_8, e_2022_9, e_2022_12, e_2022_13, e_2022_16, e_2022_17, e_2022_20, e_2022_21, e_2022_22, e_2022_25, e_2022_28, e_2022_29, e_2022_32, e_2022_33, e_2022_34, e_2022_37, e_2022_40, e_2022_43, e_2022_44, e_2022_45, e_2022_48, e_2022_51, e_2022_52, e_2022_53, e_2022_54, e_2022_57, e_2022_58, e_2022_59, e_2022_62, e_2022_63, e_2022_66, e_2022_67, e_2022_70, e_2022_73, zk_int, zk_ref, zk_null, zk_none, zk_long, zisR_r, zisR_n, zcl_int, zcl_ref, zcl_null, zpush_s, zpush_n, zbs, zbn, true_or, or_true, not_false_eq_true, not_true_eq_false, ↓reduceIte, and_self, and_true, true_and, zt_13, w_sumOfOwn C, h2, e1, e2, h1, h3]
  · by_cases h1 : s.2.1 = 0
    · have h5 : sKeep m ev O s = (s.1, 1, sVal m ev O, zcpy s.1 s.2.2.2 8) := if_neg (fun h => h.1 h1)
      have h6 : sVal m ev O = sMx O (m - 1) - sMn O (m - 1) := if_neg h2
      rw [h5, h6]
      simp only [c_2022, e_2022_0, e_2022_1, e_2022_4, e_2022_5, e_2022_8, e_2022_9, e_2022_12, e_2022_13, e_2022_16, e_2022_17, e_2022_20, e_2022_21, e_2022_22, e_2022_25, e_2022_28, e_2022_29, e_2022_32, e_2022_33, e_2022_34, e_2022_37, e_2022_40, e_2022_43, e_2022_44, e_2022_45, e_2022_48, e_2022_51, e_2022_52, e_2022_53, e_2022_54, e_2022_57, e_2022_58, e_2022_59, e_2022_62, e_2022_63, e_2022_66, e_2022_67, e_2022_70, e_2022_73, zk_int, zk_ref, zk_null, zk_none, zk_long, zisR_r, zisR_n, zcl_int, zcl_ref, zcl_null, zpush_s, zpush_n, zbs, zbn, true_or, or_true, not_false_eq_true, not_true_eq_false, ↓reduceIte, and_self, and_true, true_and, zt_13, zr_13_7, zr_13_8, w_greatest C, w_least C, h2, e1, h1, zui_A, sW_ufd, sW_uvl, cp, true_or]
    · by_cases h3 : sMx O (m - 1) - sMn O (m - 1) < s.2.2.1
      · have h6 : sVal m ev O = sMx O (m - 1) - sMn O (m - 1) := if_neg h2
        have h5 : sKeep m ev O s = (s.1, 1, sVal m ev O, zcpy s.1 s.2.2.2 8) := if_neg (fun h => by
          have h7 := h.2
          rw [if_neg h2, h6] at h7
          exact absurd h3 (Int32.not_lt.mpr h7))
        rw [h5, h6]
        simp only [c_2022, e_2022_0, e_2022_1, e_2022_4, e_2022_5, e_2022_8, e_2022_9, e_2022_12, e_2022_13, e_2022_16, e_2022_17, e_2022_20, e_2022_21, e_2022_22, e_2022_25, e_2022_28, e_2022_29, e_2022_32, e_2022_33, e_2022_34, e_2022_37, e_2022_40, e_2022_43, e_2022_44, e_2022_45, e_2022_48, e_2022_51, e_2022_52, e_2022_53, e_2022_54, e_2022_57, e_2022_58, e_2022_59, e_2022_62, e_2022_63, e_2022_66, e_2022_67, e_2022_70, e_2022_73, zk_int, zk_ref, zk_null, zk_none, zk_long, zisR_r, zisR_n, zcl_int, zcl_ref, zcl_null, zpush_s, zpush_n, zbs, zbn, true_or, or_true, not_false_eq_true, not_true_eq_false, ↓reduceIte, and_self, and_true, true_and, zt_13, zr_13_7, zr_13_8, w_greatest C, w_least C, h2, e1, e2, h1, h3, zui_A, sW_ufd, sW_uvl, cp, true_or]
      · have h6 : sVal m ev O = sMx O (m - 1) - sMn O (m - 1) := if_neg h2
        have h5 : sKeep m ev O s = s := if_pos ⟨h1, by rw [if_neg h2, h6]; exact Int32.not_lt.mp h3⟩
        rw [h5]
        simp only [c_2022, e_2022_0, e_2022_1, e_2022_4, e_2022_5, e_2022_8, e_2022_9, e_2022_12, e_2022_13, e_2022_16, e_2022_17, e_2022_20, e_2022_21, e_2022_22, e_2022_25, e_2022_28, e_2022_29, e_2022_32, e_2022_33, e_2022_34, e_2022_37, e_2022_40, e_2022_43, e_2022_44, e_2022_45, e_2022_48, e_2022_51, e_2022_52, e_2022_53, e_2022_54, e_2022_57, e_2022_58, e_2022_59, e_2022_62, e_2022_63, e_2022_66, e_2022_67, e_2022_70, e_2022_73, zk_int, zk_ref, zk_null, zk_none, zk_long, zisR_r, zisR_n, zcl_int, zcl_ref, zcl_null, zpush_s, zpush_n, zbs, zbn, true_or, or_true, not_false_eq_true, not_true_eq_false, ↓reduceIte, and_self, and_true, true_and, zt_13, w_greatest C, w_least C, h2, e1, e2, h1, h3]
end SRC
