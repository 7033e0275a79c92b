def rNs (L : Nat → Int32) (m i : Nat) : Nat → Nat → Nat → (Nat → Int32) → Bool × Nat × Nat × (Nat → Int32)
  | 0, _, p, N => (true, p, 0, N)
  | r + 1, j, p, N => if L p = 32 then (if (rNb L (p + 1)).1 = p + 1 ∨ ¬ (rLo i j ≤ (rNb L (p + 1)).2 ∧ (rNb L (p + 1)).2 ≤ rHi m i j) then (false, (rNb L (p + 1)).1, p + 1, N) else rNs L m i r (j + 1) (rNb L (p + 1)).1 (upd N j (rNb L (p + 1)).2)) else (false, p, p, N)
theorem rNs_ok {L : Nat → Int32} {m i : Nat} : ∀ r j p N, (rNs L m i r j p N).1 = true → (∀ k, k < j → rOk m i k (N k)) → ∀ k, k < j + r → rOk m i k ((rNs L m i r j p N).2.2.2 k) := by
  intro r
  induction r with
  | zero =>
    intro j p N _ h k hk
    exact h k hk
  | succ r ih =>
    intro j p N ho h k hk
    have e : rNs L m i (r + 1) j p N = if L p = 32 then (if (rNb L (p + 1)).1 = p + 1 ∨ ¬ (rLo i j ≤ (rNb L (p + 1)).2 ∧ (rNb L (p + 1)).2 ≤ rHi m i j) then (false, (rNb L (p + 1)).1, p + 1, N) else rNs L m i r (j + 1) (rNb L (p + 1)).1 (upd N j (rNb L (p + 1)).2)) else (false, p, p, N) := rfl
    rw [e] at ho ⊢
    by_cases h1 : L p = 32
    · rw [if_pos h1] at ho ⊢
      by_cases h2 : (rNb L (p + 1)).1 = p + 1 ∨ ¬ (rLo i j ≤ (rNb L (p + 1)).2 ∧ (rNb L (p + 1)).2 ≤ rHi m i j)
      · rw [if_pos h2] at ho
        cases ho
      · rw [if_neg h2] at ho ⊢
        refine ih (j + 1) _ _ ho (fun k hk => ?_) k (by omega)
        unfold upd
        by_cases hkj : k = j
        · subst hkj
          rw [if_pos rfl]
          by_cases h3 : rLo i k ≤ (rNb L (p + 1)).2 ∧ (rNb L (p + 1)).2 ≤ rHi m i k
          · exact h3
          · exact absurd (Or.inr h3) h2
        · rw [if_neg hkj]
          exact h k (by omega)
    · rw [if_neg h1] at ho
      cases ho
theorem rCnt_t {i : Nat} (hi : i < 5) : ztab 1006 i = nI (rCnt i) := by
  rcases (by omega : i = 0 ∨ i = 1 ∨ i = 2 ∨ i = 3 ∨ i = 4) with rfl | rfl | rfl | rfl | rfl <;> decide +kernel
section RI
variable {d h z n m : Nat} {Z : zM} {L : Nat → Int32} {f : Int32}
theorem r_ns {i : Nat} {x3 : Int32} (X : rTx Z h z L) (C : zHc Z 26 n m) (hi : i < 5) : ∀ r j p N, j + r = rCnt i → p + 4 * r < 890 → den (d + 4) 3005 62 [some (.ref 25), some (.ref h), some (.int (nI i)), some (.int x3), some (.int (nI j))] [] (sR Z N p f) = if (rNs L m i r j p N).1 = true then den (d + 4) 3005 103 [some (.ref 25), some (.ref h), some (.int (nI i)), some (.int x3), some (.int (nI (rCnt i)))] [] (sR Z (rNs L m i r j p N).2.2.2 (rNs L m i r j p N).2.1 f) else some (some (.int 0), sR Z (rNs L m i r j p N).2.2.2 (rNs L m i r j p N).2.1 (nI (rNs L m i r j p N).2.2.1)) := by
  have th := (zSs_f X.1).1
  have h5 := rCnt_5 (i := i)
  intro r
  induction r with
  | zero =>
    intro j p N hj hp
    have e : j = rCnt i := by omega
    subst e
    have a1 := q_atS (d := d + 3) (a := 1006) (j := i) (w := sR Z N p f) (by decide +kernel) (by rw [show zLen 1006 = 5 by decide +kernel]; exact hi) (by decide +kernel)
    rw [rCnt_t hi] at a1
    have l1 := nI_le_n (Nat.le_refl (rCnt i)) (by omega)
    rw [e_3005_62]
    simp only [c_3005, e_3005_0, e_3005_1, e_3005_2, e_3005_5, e_3005_8, e_3005_11, e_3005_12, e_3005_13, e_3005_14, e_3005_17, e_3005_18, e_3005_19, e_3005_22, e_3005_25, e_3005_26, e_3005_27, e_3005_30, e_3005_31, e_3005_32, e_3005_33, e_3005_34, e_3005_37, e_3005_40, e_3005_43, e_3005_44, e_3005_45, e_3005_46, e_3005_47, e_3005_50, e_3005_53, e_3005_54, e_3005_55, e_3005_58, e_3005_59, e_3005_60, e_3005_64, e_3005_67, e_3005_68, e_3005_71, e_3005_74, e_3005_75, e_3005_76, e_3005_78, e_3005_81, e_3005_84, e_3005_85, e_3005_86, e_3005_87, e_3005_89, e_3005_92, e_3005_95, e_3005_96, e_3005_97, e_3005_100, e_3005_104, e_3005_105, e_3005_108, e_3005_109, zk_int, zk_ref, zk_null, zk_none, zk_long, zisR_r, zisR_n, zcl_int, zcl_ref, zcl_null, zpush_s, zpush_n, zbs, zbn, true_or, or_true, not_false_eq_true, not_true_eq_false, ↓reduceIte, and_self, and_true, true_and, a1, l1]
    rfl
  | succ r ih =>
    intro j p N hj hp
    have a1 := q_atS (d := d + 3) (a := 1006) (j := i) (w := sR Z N p f) (by decide +kernel) (by rw [show zLen 1006 = 5 by decide +kernel]; exact hi) (by decide +kernel)
    rw [rCnt_t hi] at a1
    have l1 := nI_ge_f (a := j) (b := rCnt i) (by omega) (by omega)
    have e : rNs L m i (r + 1) j p N = if L p = 32 then (if (rNb L (p + 1)).1 = p + 1 ∨ ¬ (rLo i j ≤ (rNb L (p + 1)).2 ∧ (rNb L (p + 1)).2 ≤ rHi m i j) then (false, (rNb L (p + 1)).1, p + 1, N) else rNs L m i r (j + 1) (rNb L (p + 1)).1 (upd N j (rNb L (p + 1)).2)) else (false, p, p, N) := rfl
    rw [e]
    have r2 := r_sign (d := d + 1) (N := N) (p := p) (f := f) (c := 32) X (by omega)
    have e10 : ((1 : Int32) = 0) = False := eq_false (by decide)
    have ef : (false = true) = False := eq_false (fun h => by cases h)
    by_cases h1 : L p = 32
    · rw [if_pos h1] at r2 ⊢
      by_cases h2 : (rNb L (p + 1)).1 = p + 1 ∨ ¬ (rLo i j ≤ (rNb L (p + 1)).2 ∧ (rNb L (p + 1)).2 ≤ rHi m i j)
      · rw [if_pos h2]
        have r3 := r_readNumber_b (d := d) (N := N) (f := f) X C hi (by omega) (p := p + 1) (by omega) h2
        rw [e_3005_62]
        simp only [c_3005, e_3005_0, e_3005_1, e_3005_2, e_3005_5, e_3005_8, e_3005_11, e_3005_12, e_3005_13, e_3005_14, e_3005_17, e_3005_18, e_3005_19, e_3005_22, e_3005_25, e_3005_26, e_3005_27, e_3005_30, e_3005_31, e_3005_32, e_3005_33, e_3005_34, e_3005_37, e_3005_40, e_3005_43, e_3005_44, e_3005_45, e_3005_46, e_3005_47, e_3005_50, e_3005_53, e_3005_54, e_3005_55, e_3005_58, e_3005_59, e_3005_60, e_3005_64, e_3005_67, e_3005_68, e_3005_71, e_3005_74, e_3005_75, e_3005_76, e_3005_78, e_3005_81, e_3005_84, e_3005_85, e_3005_86, e_3005_87, e_3005_89, e_3005_92, e_3005_95, e_3005_96, e_3005_97, e_3005_100, e_3005_104, e_3005_105, e_3005_108, e_3005_109, zk_int, zk_ref, zk_null, zk_none, zk_long, zisR_r, zisR_n, zcl_int, zcl_ref, zcl_null, zpush_s, zpush_n, zbs, zbn, true_or, or_true, not_false_eq_true, not_true_eq_false, ↓reduceIte, and_self, and_true, true_and, zt_25, a1, l1, r2, r3, e10, ef]
      · rw [if_neg h2]
        have h3 : ¬ (rNb L (p + 1)).1 = p + 1 := fun q => h2 (Or.inl q)
        have h4 : rOk m i j (rNb L (p + 1)).2 := by
          by_cases h4 : rLo i j ≤ (rNb L (p + 1)).2 ∧ (rNb L (p + 1)).2 ≤ rHi m i j
          · exact h4
          · exact absurd (Or.inr h4) h2
        have r3 := r_readNumber (d := d) (N := N) (f := f) X C hi (by omega) (p := p + 1) (by omega) h3 h4
        have bb := rNb_b L (p + 1)
        rw [e_3005_62]
        simp only [c_3005, e_3005_0, e_3005_1, e_3005_2, e_3005_5, e_3005_8, e_3005_11, e_3005_12, e_3005_13, e_3005_14, e_3005_17, e_3005_18, e_3005_19, e_3005_22, e_3005_25, e_3005_26, e_3005_27, e_3005_30, e_3005_31, e_3005_32, e_3005_33, e_3005_34, e_3005_37, e_3005_40, e_3005_43, e_3005_44, e_3005_45, e_3005_46, e_3005_47, e_3005_50, e_3005_53, e_3005_54, e_3005_55, e_3005_58, e_3005_59, e_3005_60, e_3005_64, e_3005_67, e_3005_68, e_3005_71, e_3005_74, e_3005_75, e_3005_76, e_3005_78, e_3005_81, e_3005_84, e_3005_85, e_3005_86, e_3005_87, e_3005_89, e_3005_92, e_3005_95, e_3005_96, e_3005_97, e_3005_100, e_3005_104, e_3005_105, e_3005_108, e_3005_109, zk_int, zk_ref, zk_null, zk_none, zk_long, zisR_r, zisR_n, zcl_int, zcl_ref, zcl_null, zpush_s, zpush_n, zbs, zbn, true_or, or_true, not_false_eq_true, not_true_eq_false, ↓reduceIte, and_self, and_true, true_and, zt_25, a1, l1, r2, r3, e10, nI_1]
        exact ih (j + 1) _ _ (by omega) (by omega)
    · rw [if_neg h1] at r2 ⊢
      rw [e_3005_62]
      simp only [c_3005, e_3005_0, e_3005_1, e_3005_2, e_3005_5, e_3005_8, e_3005_11, e_3005_12, e_3005_13, e_3005_14, e_3005_17, e_3005_18, e_3005_19, e_3005_22, e_3005_25, e_3005_26, e_3005_27, e_3005_30, e_3005_31, e_3005_32, e_3005_33, e_3005_34, e_3005_37, e_3005_40, e_3005_43, e_3005_44, e_3005_45, e_3005_46, e_3005_47, e_3005_50, e_3005_53, e_3005_54, e_3005_55, e_3005_58, e_3005_59, e_3005_60, e_3005_64, e_3005_67, e_3005_68, e_3005_71, e_3005_74, e_3005_75, e_3005_76, e_3005_78, e_3005_81, e_3005_84, e_3005_85, e_3005_86, e_3005_87, e_3005_89, e_3005_92, e_3005_95, e_3005_96, e_3005_97, e_3005_100, e_3005_104, e_3005_105, e_3005_108, e_3005_109, zk_int, zk_ref, zk_null, zk_none, zk_long, zisR_r, zisR_n, zcl_int, zcl_ref, zcl_null, zpush_s, zpush_n, zbs, zbn, true_or, or_true, not_false_eq_true, not_true_eq_false, ↓reduceIte, and_self, and_true, true_and, zt_25, a1, l1, r2, ef]
end RI
