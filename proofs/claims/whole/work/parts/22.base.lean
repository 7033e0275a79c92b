theorem nI_ge0 {n : Nat} (h : n < 2 ^ 31) : ¬ nI n < 0 := nI_pos h
theorem q_at {d a j : Nat} {w : zM} (ht : zTag a = 10) (hj : j < zLen a) (h31 : zLen a < 2147483648) : cal d 5054 [.ref a, .int (nI j)] w = some (some (.int (w.1 a j)), w) := by
  generalize hn : zLen a = n at hj h31
  have hz := zis_nI hj h31
  have h1 : ¬ nI j < 0 := nI_pos (by omega)
  have h2 : ¬ Int32.ofNat n ≤ nI j := nI_ge hj h31
  have h3 : (nI j).toNatClampNeg = j := nI_clamp (by omega)
  have h4 := ztA_or ht
  have h5 := ztA_ol ht
  simp only [c_5054, e_5054_0, e_5054_1, e_5054_4, e_5054_5, e_5054_6, e_5054_7, e_5054_10, e_5054_11, e_5054_12, e_5054_13, e_5054_16, e_5054_17, zk_int, zk_ref, zk_null, zk_none, zk_long, zisR_r, zisR_n, zcl_int, zcl_ref, zcl_null, zpush_s, zpush_n, zbs, zbn, true_or, or_true, not_false_eq_true, not_true_eq_false, ↓reduceIte, and_self, and_true, true_and, h4, h5, hn, h1, h2, hz, h3, zld_A ht]
theorem q_atS {d a j : Nat} {w : zM} (ht : zTag a = 20) (hj : j < zLen a) (h31 : zLen a < 2147483648) : cal d 5054 [.ref a, .int (nI j)] w = some (some (.int (ztab a j)), w) := by
  generalize hn : zLen a = n at hj h31
  have hz := zis_nI hj h31
  have h1 : ¬ nI j < 0 := nI_pos (by omega)
  have h2 : ¬ Int32.ofNat n ≤ nI j := nI_ge hj h31
  have h3 : (nI j).toNatClampNeg = j := nI_clamp (by omega)
  have h4 := ztS_or ht
  have h5 := ztS_ol ht
  simp only [c_5054, e_5054_0, e_5054_1, e_5054_4, e_5054_5, e_5054_6, e_5054_7, e_5054_10, e_5054_11, e_5054_12, e_5054_13, e_5054_16, e_5054_17, zk_int, zk_ref, zk_null, zk_none, zk_long, zisR_r, zisR_n, zcl_int, zcl_ref, zcl_null, zpush_s, zpush_n, zbs, zbn, true_or, or_true, not_false_eq_true, not_true_eq_false, ↓reduceIte, and_self, and_true, true_and, h4, h5, hn, h1, h2, hz, h3, zld_S ht]
theorem q_at_o {d a n : Nat} {w : zM} {i : Int32} (ht : zTag a = 10) (hn : zLen a = n) (hi : i < 0 ∨ nI n ≤ i) : cal d 5054 [.ref a, .int i] w = some (some (.int 0), w) := by
  have h5 := ztA_ol ht
  by_cases h1 : i < 0
  · simp only [c_5054, e_5054_0, e_5054_1, e_5054_4, e_5054_5, e_5054_6, e_5054_7, e_5054_10, e_5054_11, e_5054_12, e_5054_13, e_5054_16, e_5054_17, zk_int, zk_ref, zk_null, zk_none, zk_long, zisR_r, zisR_n, zcl_int, zcl_ref, zcl_null, zpush_s, zpush_n, zbs, zbn, true_or, or_true, not_false_eq_true, not_true_eq_false, ↓reduceIte, and_self, and_true, true_and, h1]
  · have h2 : Int32.ofNat n ≤ i := hi.resolve_left h1
    simp only [c_5054, e_5054_0, e_5054_1, e_5054_4, e_5054_5, e_5054_6, e_5054_7, e_5054_10, e_5054_11, e_5054_12, e_5054_13, e_5054_16, e_5054_17, zk_int, zk_ref, zk_null, zk_none, zk_long, zisR_r, zisR_n, zcl_int, zcl_ref, zcl_null, zpush_s, zpush_n, zbs, zbn, true_or, or_true, not_false_eq_true, not_true_eq_false, ↓reduceIte, and_self, and_true, true_and, h5, hn, h1, h2]
theorem q_put {d a j : Nat} {w : zM} {v : Int32} (ht : zTag a = 10) (hj : j < zLen a) (h31 : zLen a < 2147483648) : cal d 5055 [.ref a, .int (nI j), .int v] w = some (none, zuA w a (upd (w.1 a) j v)) := by
  generalize hn : zLen a = n at hj h31
  have hz := zis_nI hj h31
  have h1 : ¬ nI j < 0 := nI_pos (by omega)
  have h2 : ¬ Int32.ofNat n ≤ nI j := nI_ge hj h31
  have h3 : (nI j).toNatClampNeg = j := nI_clamp (by omega)
  have h5 := ztA_ol ht
  simp only [c_5055, e_5055_0, e_5055_1, e_5055_4, e_5055_5, e_5055_6, e_5055_7, e_5055_10, e_5055_11, e_5055_12, e_5055_13, e_5055_14, zk_int, zk_ref, zk_null, zk_none, zk_long, zisR_r, zisR_n, zcl_int, zcl_ref, zcl_null, zpush_s, zpush_n, zbs, zbn, true_or, or_true, not_false_eq_true, not_true_eq_false, ↓reduceIte, and_self, and_true, true_and, ht, h5, hn, h1, h2, hz, h3, zui_A]
theorem q_put_o {d a n : Nat} {w : zM} {i v : Int32} (ht : zTag a = 10) (hn : zLen a = n) (hi : i < 0 ∨ nI n ≤ i) : cal d 5055 [.ref a, .int i, .int v] w = some (none, w) := by
  have h5 := ztA_ol ht
  by_cases h1 : i < 0
  · simp only [c_5055, e_5055_0, e_5055_1, e_5055_4, e_5055_5, e_5055_6, e_5055_7, e_5055_10, e_5055_11, e_5055_12, e_5055_13, e_5055_14, zk_int, zk_ref, zk_null, zk_none, zk_long, zisR_r, zisR_n, zcl_int, zcl_ref, zcl_null, zpush_s, zpush_n, zbs, zbn, true_or, or_true, not_false_eq_true, not_true_eq_false, ↓reduceIte, and_self, and_true, true_and, h1]
  · have h2 : Int32.ofNat n ≤ i := hi.resolve_left h1
    simp only [c_5055, e_5055_0, e_5055_1, e_5055_4, e_5055_5, e_5055_6, e_5055_7, e_5055_10, e_5055_11, e_5055_12, e_5055_13, e_5055_14, zk_int, zk_ref, zk_null, zk_none, zk_long, zisR_r, zisR_n, zcl_int, zcl_ref, zcl_null, zpush_s, zpush_n, zbs, zbn, true_or, or_true, not_false_eq_true, not_true_eq_false, ↓reduceIte, and_self, and_true, true_and, h5, hn, h1, h2]
theorem q_hundredths {d : Nat} {w : zM} {x y : Int32} : cal d 5057 [.int x, .int y] w = some (some (.int (x * y / 100)), w) := by
  have h : ¬ (100 : Int32) = 0 := by decide
  simp only [c_5057, e_5057_0, e_5057_1, e_5057_2, e_5057_3, e_5057_5, e_5057_6, zk_int, zk_ref, zk_null, zk_none, zk_long, zisR_r, zisR_n, zcl_int, zcl_ref, zcl_null, zpush_s, zpush_n, zbs, zbn, true_or, or_true, not_false_eq_true, not_true_eq_false, ↓reduceIte, and_self, and_true, true_and, h, not_false_eq_true]
def zcpy (f g : Nat → Int32) (n : Nat) : Nat → Int32 := fun k => if k < n then f k else g k
theorem zcpy_s (f g : Nat → Int32) (n : Nat) : upd (zcpy f g n) n (f n) = zcpy f g (n + 1) := by
  funext k
  unfold upd zcpy
  by_cases h : k = n
  · subst h
    rw [if_pos rfl, if_pos (by omega)]
  · rw [if_neg h]
    by_cases h2 : k < n
    · rw [if_pos h2, if_pos (by omega)]
    · rw [if_neg h2, if_neg (by omega)]
theorem zcpy_0 (f g : Nat → Int32) : zcpy f g 0 = g := by
  funext k
  exact if_neg (Nat.not_lt_zero k)
theorem q_copyAll_l {d a b n : Nat} {w : zM} (ta : zTag a = 10) (tb : zTag b = 10) (na : zLen a = n) (nb : zLen b = n) (hab : a ≠ b) (h31 : n < 2 ^ 31) :
    ∀ r j, j + r = n → den d 5056 2 [some (.ref a), some (.ref b), some (.int (nI j))] [] (zuA w b (zcpy (w.1 a) (w.1 b) j)) = some (none, zuA w b (zcpy (w.1 a) (w.1 b) n)) := by
  intro r
  have a5 := ztA_ol ta
  have b5 := ztA_ol tb
  have a4 := ztA_or ta
  induction r with
  | zero =>
    intro j hj
    have e : j = n := by omega
    subst e
    have h1 : Int32.ofNat j ≤ nI j := nI_le (Nat.le_refl _) h31
    simp only [c_5056, e_5056_0, e_5056_1, e_5056_2, e_5056_3, e_5056_4, e_5056_5, e_5056_8, e_5056_9, e_5056_10, e_5056_11, e_5056_14, e_5056_15, e_5056_16, e_5056_17, e_5056_18, e_5056_19, e_5056_20, e_5056_23, e_5056_26, zk_int, zk_ref, zk_null, zk_none, zk_long, zisR_r, zisR_n, zcl_int, zcl_ref, zcl_null, zpush_s, zpush_n, zbs, zbn, true_or, or_true, not_false_eq_true, not_true_eq_false, ↓reduceIte, and_self, and_true, true_and, a5, b5, na, nb, h1]
  | succ r ih =>
    intro j hj
    have h1 : ¬ Int32.ofNat n ≤ nI j := nI_ge (by omega) h31
    have hz : zis (nI j) n = true := zis_nI (by omega) h31
    have h3 : (nI j).toNatClampNeg = j := nI_clamp (by omega)
    rw [e_5056_2]
    simp only [c_5056, e_5056_0, e_5056_1, e_5056_3, e_5056_4, e_5056_5, e_5056_8, e_5056_9, e_5056_10, e_5056_11, e_5056_14, e_5056_15, e_5056_16, e_5056_17, e_5056_18, e_5056_19, e_5056_20, e_5056_23, e_5056_26, zk_int, zk_ref, zk_null, zk_none, zk_long, zisR_r, zisR_n, zcl_int, zcl_ref, zcl_null, zpush_s, zpush_n, zbs, zbn, true_or, or_true, not_false_eq_true, not_true_eq_false, ↓reduceIte, and_self, and_true, true_and, a4, a5, b5, tb, na, nb, h1, hz, h3, zld_A ta, zui_A, zA_s, zA_n _ _ hab, zA_A, zcpy_s, nI_1]
    exact ih (j + 1) (by omega)
theorem q_copyAll {d a b n : Nat} {w : zM} (ta : zTag a = 10) (tb : zTag b = 10) (na : zLen a = n) (nb : zLen b = n) (hab : a ≠ b) (h31 : n < 2 ^ 31) : cal d 5056 [.ref a, .ref b] w = some (none, zuA w b (zcpy (w.1 a) (w.1 b) n)) := by
  have h := q_copyAll_l (d := d) (w := w) ta tb na nb hab h31 n 0 (by omega)
  rw [zcpy_0, zA_id] at h
  have e0 : nI 0 = 0 := nI_0
  rw [e0] at h
  simp only [c_5056, e_5056_0, e_5056_1, e_5056_3, e_5056_4, e_5056_5, e_5056_8, e_5056_9, e_5056_10, e_5056_11, e_5056_14, e_5056_15, e_5056_16, e_5056_17, e_5056_18, e_5056_19, e_5056_20, e_5056_23, e_5056_26, zk_int, zk_ref, zk_null, zk_none, zk_long, zisR_r, zisR_n, zcl_int, zcl_ref, zcl_null, zpush_s, zpush_n, zbs, zbn, true_or, or_true, not_false_eq_true, not_true_eq_false, ↓reduceIte, and_self, and_true, true_and]
  exact h
def zpow (b : Int32) : Nat → Int32
  | 0 => 1
  | n + 1 => zpow b n * b
theorem q_power_l {d n : Nat} {w : zM} {b : Int32} (h31 : n < 2 ^ 31) : ∀ r j, j + r = n → den d 5058 4 [some (.int b), some (.int (nI n)), some (.int (zpow b j)), some (.int (nI j))] [] w = some (some (.int (zpow b n)), w) := by
  intro r
  induction r with
  | zero =>
    intro j hj
    have e : j = n := by omega
    subst e
    have h1 : nI j ≤ nI j := nI_le (Nat.le_refl _) h31
    simp only [c_5058, e_5058_0, e_5058_1, e_5058_2, e_5058_3, e_5058_4, e_5058_5, e_5058_6, e_5058_9, e_5058_10, e_5058_11, e_5058_12, e_5058_13, e_5058_16, e_5058_19, e_5058_20, zk_int, zk_ref, zk_null, zk_none, zk_long, zisR_r, zisR_n, zcl_int, zcl_ref, zcl_null, zpush_s, zpush_n, zbs, zbn, true_or, or_true, not_false_eq_true, not_true_eq_false, ↓reduceIte, and_self, and_true, true_and, h1]
  | succ r ih =>
    intro j hj
    have h1 : ¬ nI n ≤ nI j := nI_ge (by omega) h31
    rw [e_5058_4]
    simp only [c_5058, e_5058_0, e_5058_1, e_5058_2, e_5058_3, e_5058_5, e_5058_6, e_5058_9, e_5058_10, e_5058_11, e_5058_12, e_5058_13, e_5058_16, e_5058_19, e_5058_20, zk_int, zk_ref, zk_null, zk_none, zk_long, zisR_r, zisR_n, zcl_int, zcl_ref, zcl_null, zpush_s, zpush_n, zbs, zbn, true_or, or_true, not_false_eq_true, not_true_eq_false, ↓reduceIte, and_self, and_true, true_and, h1, nI_1]
    exact ih (j + 1) (by omega)
theorem q_power {d n : Nat} {w : zM} {b : Int32} (h31 : n < 2 ^ 31) : cal d 5058 [.int b, .int (nI n)] w = some (some (.int (zpow b n)), w) := by
  have h := q_power_l (d := d) (w := w) (b := b) h31 n 0 (by omega)
  have e0 : nI 0 = 0 := nI_0
  rw [e0] at h
  simp only [c_5058, e_5058_0, e_5058_1, e_5058_2, e_5058_3, e_5058_5, e_5058_6, e_5058_9, e_5058_10, e_5058_11, e_5058_12, e_5058_13, e_5058_16, e_5058_19, e_5058_20, zk_int, zk_ref, zk_null, zk_none, zk_long, zisR_r, zisR_n, zcl_int, zcl_ref, zcl_null, zpush_s, zpush_n, zbs, zbn, true_or, or_true, not_false_eq_true, not_true_eq_false, ↓reduceIte, and_self, and_true, true_and]
  exact h
