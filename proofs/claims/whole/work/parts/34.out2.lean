theorem zpow_nI (b : Nat) : ∀ k, zpow (nI b) k = nI (b ^ k) := by
  intro k
  induction k with
  | zero => rfl
  | succ k ih =>
    show zpow (nI b) k * nI b = nI (b ^ (k + 1))
    rw [ih, pk_mul, Nat.pow_succ]
def dig (b m r y : Nat) : Nat := r / b ^ (m - 1 - y) % b
theorem pow_le4 {b k : Nat} (hb : b ≤ 4) (hb0 : 0 < b) (hk : k ≤ 4) : 0 < b ^ k ∧ b ^ k ≤ 256 := by
  refine ⟨Nat.pow_pos hb0, ?_⟩
  have h1 : b ^ k ≤ 4 ^ k := Nat.pow_le_pow_left hb k
  have h2 : 4 ^ k ≤ 4 ^ 4 := Nat.pow_le_pow_right (by decide) hk
  have h3 : 4 ^ 4 = 256 := by decide
  omega
theorem q_digit {d b m r y : Nat} {w : zM} (hb : b ≤ 4) (hb0 : 0 < b) (hm : m ≤ 4) (hy : y < m) (hr : r < 1000) : cal (d + 1) 5059 [.int (nI r), .int (nI b), .int (nI m), .int (nI y)] w = some (some (.int (nI (dig b m r y))), w) := by
  have e1 := nI_sub1 m y hy
  have e2 : zpow (nI b) (m - 1 - y) = nI (b ^ (m - 1 - y)) := zpow_nI b _
  obtain ⟨p1, p2⟩ := pow_le4 (k := m - 1 - y) hb hb0 (by omega)
  have g1 := nI_nle0 (n := b) hb0 (by omega)
  have g2 := nI_nle0 (n := b ^ (m - 1 - y)) p1 (by omega)
  have g3 := nI_ne0' (n := b) hb0 (by omega)
  have g4 := nI_ne0' (n := b ^ (m - 1 - y)) p1 (by omega)
  have d1 : nI r / nI (b ^ (m - 1 - y)) = nI (r / b ^ (m - 1 - y)) := pk_div (by omega) p1 (by omega)
  have d2 : nI (r / b ^ (m - 1 - y)) - nI (r / b ^ (m - 1 - y)) / nI b * nI b = nI (r / b ^ (m - 1 - y) % b) := pk_rem (Nat.lt_of_le_of_lt (Nat.div_le_self _ _) (by omega)) hb0 (by omega)
  simp only [c_5059, e_5059_0, e_5059_1, e_5059_2, e_5059_3, e_5059_4, e_5059_5, e_5059_6, e_5059_9, e_5059_11, e_5059_12, e_5059_15, e_5059_17, e_5059_20, e_5059_21, e_5059_23, e_5059_24, e_5059_25, e_5059_26, e_5059_29, e_5059_30, zk_int, zk_ref, zk_null, zk_none, zk_long, zisR_r, zisR_n, zcl_int, zcl_ref, zcl_null, zpush_s, zpush_n, zbs, zbn, true_or, or_true, not_false_eq_true, not_true_eq_false, ↓reduceIte, and_self, and_true, true_and, e1, q_power (n := m - 1 - y) (show m - 1 - y < 2 ^ 31 by omega), e2, g1, g2, g3, g4, d1, d2]
  rfl
theorem dig_lt {b m r y : Nat} (hb : 0 < b) : dig b m r y < b := Nat.mod_lt _ hb
section TRL2
variable {d n m : Nat} {w : zM} {F T V G gv : Nat → Int32}
theorem t_effortIn {r y : Nat} (C : zTc F T n m) (hy : y < m) (hr : r < 1000) : cal (d + 2) 2005 [.ref 13, .int (nI r), .int (nI y)] (zO w F T V G gv) = some (some (.int (nI (dig 4 m r y))), zO w F T V G gv) := by
  have q := fun w => q_digit (d := d) (b := 4) (w := w) (by decide) (by decide) C.2.2.2.1 hy hr
  have e4 : (4 : Int32) = nI 4 := rfl
  simp only [c_2005, e_2005_0, e_2005_1, e_2005_2, e_2005_3, e_2005_6, e_2005_9, e_2005_10, e_2005_13, zk_int, zk_ref, zk_null, zk_none, zk_long, zisR_r, zisR_n, zcl_int, zcl_ref, zcl_null, zpush_s, zpush_n, zbs, zbn, true_or, or_true, not_false_eq_true, not_true_eq_false, ↓reduceIte, and_self, and_true, true_and, zt_13, zr_13_0, zt_14, t_waiterCount C]
  rw [e4, q]
  simp only [c_2005, e_2005_0, e_2005_1, e_2005_2, e_2005_3, e_2005_6, e_2005_9, e_2005_10, e_2005_13, zk_int, zk_ref, zk_null, zk_none, zk_long, zisR_r, zisR_n, zcl_int, zcl_ref, zcl_null, zpush_s, zpush_n, zbs, zbn, true_or, or_true, not_false_eq_true, not_true_eq_false, ↓reduceIte, and_self, and_true, true_and]
theorem t_effortRows (C : zTc F T n m) : cal (d + 2) 2004 [.ref 13] (zO w F T V G gv) = some (some (.int (nI (4 ^ m))), zO w F T V G gv) := by
  have q := fun w => q_power (d := d + 1) (w := w) (b := nI 4) (n := m) (show m < 2 ^ 31 by have := C.2.2.2.1; omega)
  have e4 : (4 : Int32) = nI 4 := rfl
  simp only [c_2004, e_2004_0, e_2004_1, e_2004_2, e_2004_5, e_2004_8, e_2004_11, zk_int, zk_ref, zk_null, zk_none, zk_long, zisR_r, zisR_n, zcl_int, zcl_ref, zcl_null, zpush_s, zpush_n, zbs, zbn, true_or, or_true, not_false_eq_true, not_true_eq_false, ↓reduceIte, and_self, and_true, true_and, zt_13, zr_13_0, zt_14, t_waiterCount C]
  rw [e4, q, zpow_nI]
  simp only [c_2004, e_2004_0, e_2004_1, e_2004_2, e_2004_5, e_2004_8, e_2004_11, zk_int, zk_ref, zk_null, zk_none, zk_long, zisR_r, zisR_n, zcl_int, zcl_ref, zcl_null, zpush_s, zpush_n, zbs, zbn, true_or, or_true, not_false_eq_true, not_true_eq_false, ↓reduceIte, and_self, and_true, true_and]
end TRL2
def wE (m r y e : Nat) : Nat := r + e * 4 ^ (m - 1 - y) - dig 4 m r y * 4 ^ (m - 1 - y)
theorem dig_ple (m r y : Nat) : dig 4 m r y * 4 ^ (m - 1 - y) ≤ r := by
  unfold dig
  have h1 : r / 4 ^ (m - 1 - y) % 4 ≤ r / 4 ^ (m - 1 - y) := Nat.mod_le _ _
  have h2 : r / 4 ^ (m - 1 - y) * 4 ^ (m - 1 - y) ≤ r := Nat.div_mul_le_self _ _
  have h3 := Nat.mul_le_mul_right (4 ^ (m - 1 - y)) h1
  omega
theorem nI_wE (m r y e : Nat) : nI r + (nI e - nI (dig 4 m r y)) * nI (4 ^ (m - 1 - y)) = nI (wE m r y e) := by
  have h1 := dig_ple m r y
  unfold wE
  generalize dig 4 m r y = g at *
  generalize 4 ^ (m - 1 - y) = p at *
  obtain ⟨q, hq⟩ : ∃ q, r = g * p + q := ⟨r - g * p, by omega⟩
  subst hq
  have e1 : g * p + q + e * p - g * p = q + e * p := by omega
  rw [e1, ← nI_add, ← nI_add, ← pk_mul, ← pk_mul]
  grind
section TRL3
variable {d n m : Nat} {w : zM} {F T V G gv : Nat → Int32}
theorem t_withEffort {r y e : Nat} (C : zTc F T n m) (hy : y < m) (hr : r < 1000) : cal (d + 3) 2006 [.ref 13, .int (nI r), .int (nI y), .int (nI e)] (zO w F T V G gv) = some (some (.int (nI (wE m r y e))), zO w F T V G gv) := by
  have hm : m ≤ 4 := C.2.2.2.1
  have q := fun w => q_power (d := d + 2) (w := w) (b := nI 4) (n := m - 1 - y) (show m - 1 - y < 2 ^ 31 by omega)
  have e4 : (4 : Int32) = nI 4 := rfl
  have e5 := nI_sub1 m y hy
  simp only [c_2006, e_2006_0, e_2006_1, e_2006_2, e_2006_3, e_2006_4, e_2006_5, e_2006_8, e_2006_9, e_2006_10, e_2006_11, e_2006_14, e_2006_17, e_2006_18, e_2006_19, e_2006_20, e_2006_21, e_2006_24, e_2006_25, e_2006_26, zk_int, zk_ref, zk_null, zk_none, zk_long, zisR_r, zisR_n, zcl_int, zcl_ref, zcl_null, zpush_s, zpush_n, zbs, zbn, true_or, or_true, not_false_eq_true, not_true_eq_false, ↓reduceIte, and_self, and_true, true_and, zt_13, zr_13_0, zt_14, t_waiterCount C, t_effortIn C hy hr, e5]
  rw [e4, q, zpow_nI]
  simp only [c_2006, e_2006_0, e_2006_1, e_2006_2, e_2006_3, e_2006_4, e_2006_5, e_2006_8, e_2006_9, e_2006_10, e_2006_11, e_2006_14, e_2006_17, e_2006_18, e_2006_19, e_2006_20, e_2006_21, e_2006_24, e_2006_25, e_2006_26, zk_int, zk_ref, zk_null, zk_none, zk_long, zisR_r, zisR_n, zcl_int, zcl_ref, zcl_null, zpush_s, zpush_n, zbs, zbn, true_or, or_true, not_false_eq_true, not_true_eq_false, ↓reduceIte, and_self, and_true, true_and, nI_wE]
end TRL3
def rowOf (ef : Nat → Nat) : Nat → Nat
  | 0 => 0
  | j + 1 => rowOf ef j * 4 + ef j
theorem rowOf_lt {ef : Nat → Nat} (h : ∀ j, ef j < 4) : ∀ m, rowOf ef m < 4 ^ m := by
  intro m
  induction m with
  | zero => exact Nat.one_pos
  | succ m ih =>
    have := h m
    show rowOf ef m * 4 + ef m < 4 ^ (m + 1)
    rw [Nat.pow_succ]
    omega
theorem rowOf_dig {ef : Nat → Nat} (h : ∀ j, ef j < 4) : ∀ m y, y < m → dig 4 m (rowOf ef m) y = ef y := by
  intro m
  induction m with
  | zero => intro y hy; omega
  | succ m ih =>
    intro y hy
    by_cases hym : y = m
    · subst hym
      unfold dig
      have e : y + 1 - 1 - y = 0 := by omega
      rw [e, Nat.pow_zero, Nat.div_one]
      show (rowOf ef y * 4 + ef y) % 4 = ef y
      have := h y
      omega
    · have h1 := ih y (by omega)
      unfold dig at h1 ⊢
      have e : m + 1 - 1 - y = (m - 1 - y) + 1 := by omega
      rw [e, Nat.pow_succ, Nat.mul_comm, ← Nat.div_div_eq_div_mul]
      have e2 : rowOf ef (m + 1) / 4 = rowOf ef m := by
        show (rowOf ef m * 4 + ef m) / 4 = rowOf ef m
        have := h m
        omega
      rw [e2]
      exact h1
theorem sSe_sSe (V e e' : Nat → Int32) (m : Nat) : sSe (sSe V e' m) e m = sSe V e m := by
  funext k
  unfold sSe
  by_cases h : k % 6 = 1 ∧ k / 6 < m
  · rw [if_pos h, if_pos h]
  · rw [if_neg h, if_neg h, if_neg h]
theorem sSe_id (V : Nat → Int32) (m : Nat) : sSe V (fun v => V (6 * v + 1)) m = V := by
  funext k
  unfold sSe
  by_cases h : k % 6 = 1 ∧ k / 6 < m
  · rw [if_pos h]
    show V (6 * (k / 6) + 1) = V k
    have e : 6 * (k / 6) + 1 = k := by omega
    rw [e]
  · rw [if_neg h]
theorem sSe_c {V e e' : Nat → Int32} {m : Nat} (h : ∀ v, v < m → e v = e' v) : sSe V e m = sSe V e' m := by
  funext k
  unfold sSe
  by_cases h2 : k % 6 = 1 ∧ k / 6 < m
  · rw [if_pos h2, if_pos h2, h _ h2.2]
  · rw [if_neg h2, if_neg h2]
def sGN (T V G : Nat → Int32) (n m r y : Nat) : Int32 := sGn T (sSe V (fun v => nI (dig 4 m r v)) m) G n m y
