def sR (Z : zM) (N : Nat → Int32) (p : Nat) (f : Int32) : zM := zuA (zuA Z 31 N) 25 (upd (upd (Z.1 25) 2 (nI p)) 3 f)
theorem sR_25 (Z : zM) (N : Nat → Int32) (p : Nat) (f : Int32) : (sR Z N p f).1 25 = upd (upd (Z.1 25) 2 (nI p)) 3 f := zA_s _ _ _
theorem sR_p (Z : zM) (N : Nat → Int32) (p : Nat) (f : Int32) : (sR Z N p f).1 25 2 = nI p := by
  rw [sR_25]
  rfl
theorem sR_f (Z : zM) (N : Nat → Int32) (p : Nat) (f : Int32) : (sR Z N p f).1 25 3 = f := by
  rw [sR_25]
  rfl
theorem sR_31 (Z : zM) (N : Nat → Int32) (p : Nat) (f : Int32) : (sR Z N p f).1 31 = N := by
  unfold sR
  rw [zA_n _ _ (by decide), zA_s]
theorem sR_n (Z : zM) (N : Nat → Int32) (p : Nat) (f : Int32) {a : Nat} (ha : a ≠ 25 ∧ a ≠ 31) : (sR Z N p f).1 a = Z.1 a := by
  unfold sR
  rw [zA_n _ _ ha.1, zA_n _ _ ha.2]
theorem sR_2 (Z : zM) (N : Nat → Int32) (p : Nat) (f : Int32) : (sR Z N p f).2 = Z.2 := id rfl
theorem sR_up (Z : zM) (N : Nat → Int32) (p q : Nat) (f : Int32) : zuA (sR Z N p f) 25 (upd ((sR Z N p f).1 25) 2 (nI q)) = sR Z N q f := by
  rw [sR_25]
  unfold sR
  rw [zA_A]
  refine congrArg (zuA _ 25) ?_
  funext k
  unfold upd
  by_cases h2 : k = 2
  · subst h2; rfl
  · by_cases h3 : k = 3
    · subst h3; rfl
    · rw [if_neg h2, if_neg h3, if_neg h2, if_neg h3, if_neg h2]
theorem sR_uf (Z : zM) (N : Nat → Int32) (p : Nat) (f g : Int32) : zuA (sR Z N p f) 25 (upd ((sR Z N p f).1 25) 3 g) = sR Z N p g := by
  rw [sR_25, upd_u]
  unfold sR
  rw [zA_A]
theorem sR_uN (Z : zM) (N M : Nat → Int32) (p : Nat) (f : Int32) : zuA (sR Z N p f) 31 M = sR Z M p f := by
  unfold sR
  rw [zA_c _ _ _ (by decide), zA_A]
theorem sR_u (Z : zM) (N F : Nat → Int32) (p : Nat) (f : Int32) {a : Nat} (ha : a ≠ 25 ∧ a ≠ 31) : zuA (sR Z N p f) a F = sR (zuA Z a F) N p f := by
  unfold sR
  rw [zA_n (b := 25) _ _ (Ne.symm ha.1), zA_c _ _ _ (Ne.symm ha.1), zA_c _ (a := 31) _ _ (Ne.symm ha.2)]
theorem sR_id (Z : zM) {p : Nat} {f : Int32} (hp : Z.1 25 2 = nI p) (hf : Z.1 25 3 = f) : sR Z (Z.1 31) p f = Z := by
  unfold sR
  rw [← hp, upd_id, ← hf, upd_id, zA_id, zA_id]
def rTx (Z : zM) (h z : Nat) (L : Nat → Int32) : Prop := zSs h ∧ Z.1 h 2 = nI z ∧ z ≤ 160 ∧ (∀ j, j < z → (Z.2 (h + 1) j).toInt32 = L j) ∧ ∀ j, z ≤ j → L j = 0
theorem zSs_25 {h : Nat} (H : zSs h) : h ≠ 25 ∧ h ≠ 31 := by
  unfold zSs at H
  omega
theorem rTx_sR {Z : zM} {h z : Nat} {L N : Nat → Int32} {p : Nat} {f : Int32} (X : rTx Z h z L) : rTx (sR Z N p f) h z L := ⟨X.1, by rw [sR_n _ _ _ _ (zSs_25 X.1)]; exact X.2.1, X.2.2.1, X.2.2.2.1, X.2.2.2.2⟩
theorem rTx_u {Z : zM} {h z a : Nat} {L F : Nat → Int32} (X : rTx Z h z L) (ha : a < 34) : rTx (zuA Z a F) h z L := ⟨X.1, by
  have hh := X.1
  unfold zSs at hh
  rw [zA_n _ _ (by omega)]; exact X.2.1, X.2.2.1, X.2.2.2.1, X.2.2.2.2⟩
section RD
variable {d h z : Nat} {Z : zM} {L N : Nat → Int32} {p : Nat} {f : Int32}
theorem r_int {w : zM} (X : rTx w h z L) (hp : p < 2147483648) : cal (d + 1) 4010 [.ref h, .int (nI p)] w = some (some (.int (L p)), w) := by
  by_cases hz : p < z
  · rw [q_intAt X.1 X.2.1 X.2.2.1 hz, X.2.2.2.1 p hz]
  · rw [q_intAt_o X.1 (Or.inr (by rw [X.2.1]; exact nI_le (by omega) hp)), X.2.2.2.2 p (by omega)]
theorem r_faultAt {x : Int32} : cal d 3004 [.ref 25, .int x] (sR Z N p f) = some (some (.int 0), sR Z N p x) := by
  simp only [c_3004, e_3004_0, e_3004_1, e_3004_2, e_3004_5, e_3004_6, zk_int, zk_ref, zk_null, zk_none, zk_long, zisR_r, zisR_n, zcl_int, zcl_ref, zcl_null, zpush_s, zpush_n, zbs, zbn, true_or, or_true, not_false_eq_true, not_true_eq_false, ↓reduceIte, and_self, and_true, true_and, zt_25, zui_A, sR_uf]
theorem r_sign {c : Int32} (X : rTx Z h z L) (hp : p < 2147483647) : cal (d + 2) 3010 [.ref 25, .ref h, .int c] (sR Z N p f) = some (if L p = c then (some (.int 1), sR Z N (p + 1) f) else (some (.int 0), sR Z N p (nI p))) := by
  have r1 := r_int (d := d) (rTx_sR (N := N) (p := p) (f := f) X) (p := p) (by omega)
  have th := (zSs_f X.1).1
  by_cases hc : L p = c
  · rw [if_pos hc]
    simp only [c_3010, e_3010_0, e_3010_1, e_3010_2, e_3010_5, e_3010_8, e_3010_9, e_3010_12, e_3010_13, e_3010_14, e_3010_17, e_3010_20, e_3010_21, e_3010_22, e_3010_23, e_3010_26, e_3010_27, e_3010_28, e_3010_31, e_3010_32, zk_int, zk_ref, zk_null, zk_none, zk_long, zisR_r, zisR_n, zcl_int, zcl_ref, zcl_null, zpush_s, zpush_n, zbs, zbn, true_or, or_true, not_false_eq_true, not_true_eq_false, ↓reduceIte, and_self, and_true, true_and, zt_25, th, zui_A, sR_p, r1, hc, nI_1, sR_up]
  · rw [if_neg hc]
    simp only [c_3010, e_3010_0, e_3010_1, e_3010_2, e_3010_5, e_3010_8, e_3010_9, e_3010_12, e_3010_13, e_3010_14, e_3010_17, e_3010_20, e_3010_21, e_3010_22, e_3010_23, e_3010_26, e_3010_27, e_3010_28, e_3010_31, e_3010_32, zk_int, zk_ref, zk_null, zk_none, zk_long, zisR_r, zisR_n, zcl_int, zcl_ref, zcl_null, zpush_s, zpush_n, zbs, zbn, true_or, or_true, not_false_eq_true, not_true_eq_false, ↓reduceIte, and_self, and_true, true_and, zt_25, th, zui_A, sR_p, r1, hc, r_faultAt]
theorem r_isDigit {w : zM} {x : Int32} : cal d 3012 [.int x] w = some (some (.int (if (48 ≤ x ∧ x ≤ 57) then 1 else 0)), w) := by
  by_cases h1 : 48 ≤ x
  · have l1 : ¬ x < 48 := Int32.not_lt.mpr h1
    by_cases h2 : x ≤ 57
    · have l2 : ¬ 57 < x := Int32.not_lt.mpr h2
      rw [if_pos (show (48 ≤ x ∧ x ≤ 57) from ⟨h1, h2⟩)]
      simp only [c_3012, e_3012_0, e_3012_1, e_3012_3, e_3012_6, e_3012_7, e_3012_9, e_3012_12, e_3012_13, e_3012_16, e_3012_17, zk_int, zk_ref, zk_null, zk_none, zk_long, zisR_r, zisR_n, zcl_int, zcl_ref, zcl_null, zpush_s, zpush_n, zbs, zbn, true_or, or_true, not_false_eq_true, not_true_eq_false, ↓reduceIte, and_self, and_true, true_and, l1, l2]
    · have l2 : 57 < x := Int32.not_le.mp h2
      rw [if_neg (show ¬ (48 ≤ x ∧ x ≤ 57) from fun q => h2 q.2)]
      simp only [c_3012, e_3012_0, e_3012_1, e_3012_3, e_3012_6, e_3012_7, e_3012_9, e_3012_12, e_3012_13, e_3012_16, e_3012_17, zk_int, zk_ref, zk_null, zk_none, zk_long, zisR_r, zisR_n, zcl_int, zcl_ref, zcl_null, zpush_s, zpush_n, zbs, zbn, true_or, or_true, not_false_eq_true, not_true_eq_false, ↓reduceIte, and_self, and_true, true_and, l1, l2]
  · have l1 : x < 48 := Int32.not_le.mp h1
    rw [if_neg (show ¬ (48 ≤ x ∧ x ≤ 57) from fun q => h1 q.1)]
    simp only [c_3012, e_3012_0, e_3012_1, e_3012_3, e_3012_6, e_3012_7, e_3012_9, e_3012_12, e_3012_13, e_3012_16, e_3012_17, zk_int, zk_ref, zk_null, zk_none, zk_long, zisR_r, zisR_n, zcl_int, zcl_ref, zcl_null, zpush_s, zpush_n, zbs, zbn, true_or, or_true, not_false_eq_true, not_true_eq_false, ↓reduceIte, and_self, and_true, true_and, l1]
def rNum (L : Nat → Int32) : Nat → Nat → Int32 → Nat × Int32
  | 0, p, v => (p, v)
  | k + 1, p, v => if (48 ≤ L p ∧ L p ≤ 57) then rNum L k (p + 1) (v * 10 + L p - 48) else (p, v)
theorem rNum_b (L : Nat → Int32) : ∀ k p v, p ≤ (rNum L k p v).1 ∧ (rNum L k p v).1 ≤ p + k := by
  intro k
  induction k with
  | zero => intro p v; exact ⟨Nat.le_refl _, Nat.le_refl _⟩
  | succ k ih =>
    intro p v
    by_cases hd : (48 ≤ L p ∧ L p ≤ 57)
    · have e : rNum L (k + 1) p v = rNum L k (p + 1) (v * 10 + L p - 48) := if_pos hd
      rw [e]
      have := ih (p + 1) (v * 10 + L p - 48)
      omega
    · have e : rNum L (k + 1) p v = (p, v) := if_neg hd
      rw [e]
      omega
theorem rNum_z {z : Nat} {L : Nat → Int32} (hL : ∀ j, z ≤ j → L j = 0) : ∀ k p v, p ≤ z → (rNum L k p v).1 ≤ z := by
  intro k
  induction k with
  | zero => intro p v hp; exact hp
  | succ k ih =>
    intro p v hp
    by_cases hd : (48 ≤ L p ∧ L p ≤ 57)
    · have e : rNum L (k + 1) p v = rNum L k (p + 1) (v * 10 + L p - 48) := if_pos hd
      rw [e]
      refine ih _ _ ?_
      by_cases hz : p < z
      · omega
      · rw [hL p (by omega)] at hd
        exact absurd hd (by decide)
    · have e : rNum L (k + 1) p v = (p, v) := if_neg hd
      rw [e]
      exact hp
end RD
