def zHc (w : zM) (h n m : Nat) : Prop := zHs h ∧ w.1 h 3 = nI n ∧ n ≤ 8 ∧ w.1 h 4 = nI m ∧ m ≤ 4
theorem zHc_A {w : zM} {h n m a : Nat} {f : Nat → Int32} (C : zHc w h n m) (ha : h ≠ a) : zHc (zuA w a f) h n m := by
  unfold zHc at C ⊢
  rw [zA_n _ _ ha]
  exact C
def zHv (w : zM) (h n m : Nat) : Prop := ∀ t, t < n → ∃ y, y < m ∧ w.1 (h + 1) (5 * t + 4) = nI y
theorem nI_lit0 : (0 : Int32) = nI 0 := rfl
theorem nI_le_n {a b : Nat} (h : a ≤ b) (hb : b < 2147483648) : (nI a ≤ nI b) = True := eq_true (nI_le h hb)
theorem nI_ge_f {a b : Nat} (h : a < b) (hb : b < 2147483648) : (nI b ≤ nI a) = False := eq_false (nI_ge h hb)
theorem nI_lt0 {a : Nat} (hb : a < 2147483648) : (nI a < 0) = False := eq_false (nI_pos hb)
theorem q_hasTable {d h n m t : Nat} {w : zM} (C : zHc w h n m) (ht : t < n) : cal d 1008 [.ref h, .int (nI t)] w = some (some (.int 1), w) := by
  obtain ⟨H, c1, c2, c3, c4⟩ := C
  obtain ⟨f1, -⟩ := zHs_f H
  have g1 := nI_lt0 (a := t) (by omega)
  have g2 := nI_ge_f ht (by omega)
  simp only [c_1008, e_1008_0, e_1008_1, e_1008_4, e_1008_5, e_1008_6, e_1008_9, e_1008_12, e_1008_13, e_1008_16, e_1008_17, zk_int, zk_ref, zk_null, zk_none, zk_long, zisR_r, zisR_n, zcl_int, zcl_ref, zcl_null, zpush_s, zpush_n, zbs, zbn, true_or, or_true, not_false_eq_true, not_true_eq_false, ↓reduceIte, and_self, and_true, true_and, f1, c1, g1, g2]
theorem q_hasTable_o {d h n m : Nat} {w : zM} {x : Int32} (C : zHc w h n m) (hx : x < 0 ∨ nI n ≤ x) : cal d 1008 [.ref h, .int x] w = some (some (.int 0), w) := by
  obtain ⟨H, c1, c2, c3, c4⟩ := C
  obtain ⟨f1, -⟩ := zHs_f H
  by_cases h0 : x < 0
  · simp only [c_1008, e_1008_0, e_1008_1, e_1008_4, e_1008_5, e_1008_6, e_1008_9, e_1008_12, e_1008_13, e_1008_16, e_1008_17, zk_int, zk_ref, zk_null, zk_none, zk_long, zisR_r, zisR_n, zcl_int, zcl_ref, zcl_null, zpush_s, zpush_n, zbs, zbn, true_or, or_true, not_false_eq_true, not_true_eq_false, ↓reduceIte, and_self, and_true, true_and, h0]
  · have h1 := hx.resolve_left h0
    simp only [c_1008, e_1008_0, e_1008_1, e_1008_4, e_1008_5, e_1008_6, e_1008_9, e_1008_12, e_1008_13, e_1008_16, e_1008_17, zk_int, zk_ref, zk_null, zk_none, zk_long, zisR_r, zisR_n, zcl_int, zcl_ref, zcl_null, zpush_s, zpush_n, zbs, zbn, true_or, or_true, not_false_eq_true, not_true_eq_false, ↓reduceIte, and_self, and_true, true_and, f1, c1, h0, h1]
theorem q_hasWaiter {d h n m t : Nat} {w : zM} (C : zHc w h n m) (ht : t < m) : cal d 1009 [.ref h, .int (nI t)] w = some (some (.int 1), w) := by
  obtain ⟨H, c1, c2, c3, c4⟩ := C
  obtain ⟨f1, -⟩ := zHs_f H
  have g1 := nI_lt0 (a := t) (by omega)
  have g2 := nI_ge_f ht (by omega)
  simp only [c_1009, e_1009_0, e_1009_1, e_1009_4, e_1009_5, e_1009_6, e_1009_9, e_1009_12, e_1009_13, e_1009_16, e_1009_17, zk_int, zk_ref, zk_null, zk_none, zk_long, zisR_r, zisR_n, zcl_int, zcl_ref, zcl_null, zpush_s, zpush_n, zbs, zbn, true_or, or_true, not_false_eq_true, not_true_eq_false, ↓reduceIte, and_self, and_true, true_and, f1, c3, g1, g2]
theorem q_hasWaiter_o {d h n m : Nat} {w : zM} {x : Int32} (C : zHc w h n m) (hx : x < 0 ∨ nI m ≤ x) : cal d 1009 [.ref h, .int x] w = some (some (.int 0), w) := by
  obtain ⟨H, c1, c2, c3, c4⟩ := C
  obtain ⟨f1, -⟩ := zHs_f H
  by_cases h0 : x < 0
  · simp only [c_1009, e_1009_0, e_1009_1, e_1009_4, e_1009_5, e_1009_6, e_1009_9, e_1009_12, e_1009_13, e_1009_16, e_1009_17, zk_int, zk_ref, zk_null, zk_none, zk_long, zisR_r, zisR_n, zcl_int, zcl_ref, zcl_null, zpush_s, zpush_n, zbs, zbn, true_or, or_true, not_false_eq_true, not_true_eq_false, ↓reduceIte, and_self, and_true, true_and, h0]
  · have h1 := hx.resolve_left h0
    simp only [c_1009, e_1009_0, e_1009_1, e_1009_4, e_1009_5, e_1009_6, e_1009_9, e_1009_12, e_1009_13, e_1009_16, e_1009_17, zk_int, zk_ref, zk_null, zk_none, zk_long, zisR_r, zisR_n, zcl_int, zcl_ref, zcl_null, zpush_s, zpush_n, zbs, zbn, true_or, or_true, not_false_eq_true, not_true_eq_false, ↓reduceIte, and_self, and_true, true_and, f1, c3, h0, h1]
theorem zi5 (t k : Nat) : nI t * 5 + nI k = nI (5 * t + k) := by
  show nI t * nI 5 + nI k = _
  rw [pk_mul, nI_add, Nat.mul_comm]
theorem zi6 (t k : Nat) : nI t * 6 + nI k = nI (6 * t + k) := by
  show nI t * nI 6 + nI k = _
  rw [pk_mul, nI_add, Nat.mul_comm]
