section QM
variable {d n m LL : Nat} {w : zM} {S : Nat → Int32}
theorem law_sw {i : Nat} (A : zRl w S (nI LL) n m) (hi : i + 6 ≤ LL) (hL : LL ≤ 3072) {x : Int32} : ∃ w2 n2 m2, den (d + 41) 7000 33 [some (.ref 999), some (.ref 0), some (.ref 50), some (.int (nI i))] [.int x] w = den (d + 41) 7000 1517 [some (.ref 999), some (.ref 0), some (.ref 50), some (.int (nI i))] [] w2 ∧ zRl w2 S (nI LL) n2 m2 := by
  rw [e_7000_33]
  by_cases h0 : x = 0
  · rw [if_pos h0]; exact law_0 A hi hL
  rw [if_neg h0]
  by_cases h1 : x = 1
  · rw [if_pos h1]; exact law_1 A hi hL
  rw [if_neg h1]
  by_cases h2 : x = 2
  · rw [if_pos h2]; exact law_2 A hi hL
  rw [if_neg h2]
  by_cases h3 : x = 3
  · rw [if_pos h3]; exact law_3 A hi hL
  rw [if_neg h3]
  by_cases h4 : x = 4
  · rw [if_pos h4]; exact law_4 A hi hL
  rw [if_neg h4]
  by_cases h5 : x = 5
  · rw [if_pos h5]; exact law_5 A hi hL
  rw [if_neg h5]
  by_cases h6 : x = 6
  · rw [if_pos h6]; exact law_6 A hi hL
  rw [if_neg h6]
  by_cases h7 : x = 7
  · rw [if_pos h7]; exact law_7 A hi hL
  rw [if_neg h7]
  by_cases h8 : x = 8
  · rw [if_pos h8]; exact law_8 A hi hL
  rw [if_neg h8]
  by_cases h9 : x = 9
  · rw [if_pos h9]; exact law_9 A hi hL
  rw [if_neg h9]
  by_cases h10 : x = 10
  · rw [if_pos h10]; exact law_10 A hi hL
  rw [if_neg h10]
  by_cases h11 : x = 11
  · rw [if_pos h11]; exact law_11 A hi hL
  rw [if_neg h11]
  by_cases h12 : x = 12
  · rw [if_pos h12]; exact law_12 A hi hL
  rw [if_neg h12]
  by_cases h13 : x = 13
  · rw [if_pos h13]; exact law_13 A hi hL
  rw [if_neg h13]
  by_cases h14 : x = 14
  · rw [if_pos h14]; exact law_14 A hi hL
  rw [if_neg h14]
  by_cases h15 : x = 15
  · rw [if_pos h15]; exact law_15 A hi hL
  rw [if_neg h15]
  by_cases h16 : x = 16
  · rw [if_pos h16]; exact law_16 A hi hL
  rw [if_neg h16]
  by_cases h17 : x = 17
  · rw [if_pos h17]; exact law_17 A hi hL
  rw [if_neg h17]
  by_cases h18 : x = 18
  · rw [if_pos h18]; exact law_18 A hi hL
  rw [if_neg h18]
  by_cases h19 : x = 19
  · rw [if_pos h19]; exact law_19 A hi hL
  rw [if_neg h19]
  by_cases h20 : x = 20
  · rw [if_pos h20]; exact law_20 A hi hL
  rw [if_neg h20]
  by_cases h21 : x = 21
  · rw [if_pos h21]; exact law_21 A hi hL
  rw [if_neg h21]
  by_cases h22 : x = 22
  · rw [if_pos h22]; exact law_22 A hi hL
  rw [if_neg h22]
  by_cases h23 : x = 23
  · rw [if_pos h23]; exact law_23 A hi hL
  rw [if_neg h23]
  by_cases h24 : x = 24
  · rw [if_pos h24]; exact law_24 A hi hL
  rw [if_neg h24]
  by_cases h25 : x = 25
  · rw [if_pos h25]; exact law_25 A hi hL
  rw [if_neg h25]
  by_cases h26 : x = 26
  · rw [if_pos h26]; exact law_26 A hi hL
  rw [if_neg h26]
  by_cases h27 : x = 27
  · rw [if_pos h27]; exact law_27 A hi hL
  rw [if_neg h27]
  by_cases h28 : x = 28
  · rw [if_pos h28]; exact law_28 A hi hL
  rw [if_neg h28]
  by_cases h29 : x = 29
  · rw [if_pos h29]; exact law_29 A hi hL
  rw [if_neg h29]
  by_cases h30 : x = 30
  · rw [if_pos h30]; exact law_30 A hi hL
  rw [if_neg h30]
  by_cases h31 : x = 31
  · rw [if_pos h31]; exact law_31 A hi hL
  rw [if_neg h31]
  by_cases h32 : x = 32
  · rw [if_pos h32]; exact law_32 A hi hL
  rw [if_neg h32]
  by_cases h33 : x = 33
  · rw [if_pos h33]; exact law_33 A hi hL
  rw [if_neg h33]
  by_cases h34 : x = 34
  · rw [if_pos h34]; exact law_34 A hi hL
  rw [if_neg h34]
  by_cases h35 : x = 35
  · rw [if_pos h35]; exact law_35 A hi hL
  rw [if_neg h35]
  by_cases h36 : x = 36
  · rw [if_pos h36]; exact law_36 A hi hL
  rw [if_neg h36]
  by_cases h37 : x = 37
  · rw [if_pos h37]; exact law_37 A hi hL
  rw [if_neg h37]
  by_cases h38 : x = 38
  · rw [if_pos h38]; exact law_38 A hi hL
  rw [if_neg h38]
  by_cases h39 : x = 39
  · rw [if_pos h39]; exact law_39 A hi hL
  rw [if_neg h39]
  by_cases h40 : x = 40
  · rw [if_pos h40]; exact law_40 A hi hL
  rw [if_neg h40]
  by_cases h41 : x = 41
  · rw [if_pos h41]; exact law_41 A hi hL
  rw [if_neg h41]
  by_cases h42 : x = 42
  · rw [if_pos h42]; exact law_42 A hi hL
  rw [if_neg h42]
  by_cases h43 : x = 43
  · rw [if_pos h43]; exact law_43 A hi hL
  rw [if_neg h43]
  exact ⟨w, n, m, rfl, A⟩
theorem law_loop (hL : LL ≤ 3072) : ∀ r i w n m, zRl w S (nI LL) n m → LL < i + 6 * r + 6 → i ≤ 6000 → ∃ w2, den (d + 41) 7000 18 [some (.ref 999), some (.ref 0), some (.ref 50), some (.int (nI i))] [] w = some (some (.int 1), w2) := by
  have e6 : (6 : Int32).toInt = 6 := by decide
  have h01 : (1 : Int32) = 0 ∨ (1 : Int32) = 1 := Or.inr rfl
  have lt : ∀ i, i ≤ 6000 → (nI LL - 6 < nI i ↔ LL < i + 6) := fun i hi => by
    have e1 := nI_toInt (n := LL) (by omega)
    have e2 := nI_toInt (n := i) (by omega)
    rw [ti_lt, ti_sub (by rw [e1, e6]; omega) (by rw [e1, e6]; omega), e1, e2, e6]
    omega
  intro r
  induction r with
  | zero =>
    intro i w n m A hi hi2
    have W := rl_W A
    have g : (nI LL - 6 < nI i) = True := eq_true ((lt i hi2).mpr (by omega))
    refine ⟨w, ?_⟩
    rw [e_7000_18]
    simp only [e_7000_19, e_7000_20, e_7000_21, e_7000_23, e_7000_24, e_7000_1523, e_7000_1524, zk_int, zk_ref, zk_null, zk_none, zk_long, zisR_r, zisR_n, zcl_int, zcl_ref, zcl_null, zpush_s, zpush_n, zbs, zbn, true_or, or_true, not_false_eq_true, not_true_eq_false, ↓reduceIte, and_self, and_true, true_and, z999, W.1, g, h01]
  | succ r ih =>
    intro i w n m A hi hi2
    have W := rl_W A
    by_cases c : LL < i + 6
    · have g : (nI LL - 6 < nI i) = True := eq_true ((lt i hi2).mpr c)
      refine ⟨w, ?_⟩
      rw [e_7000_18]
      simp only [e_7000_19, e_7000_20, e_7000_21, e_7000_23, e_7000_24, e_7000_1523, e_7000_1524, zk_int, zk_ref, zk_null, zk_none, zk_long, zisR_r, zisR_n, zcl_int, zcl_ref, zcl_null, zpush_s, zpush_n, zbs, zbn, true_or, or_true, not_false_eq_true, not_true_eq_false, ↓reduceIte, and_self, and_true, true_and, z999, W.1, g, h01]
    · have g : (nI LL - 6 < nI i) = False := eq_false (fun h => c ((lt i hi2).mp h))
      have z := zisS_n (j := i) W.1 (by omega) hL
      obtain ⟨w2, n2, m2, h1, A2⟩ := law_sw (d := d) A (by omega : i + 6 ≤ LL) hL (x := S i &&& 63)
      obtain ⟨w3, h2⟩ := ih (i + 6) w2 n2 m2 A2 (by omega) (by omega)
      have cl := nI_clamp (n := i) (by omega)
      have a6 : nI i + 6 = nI (i + 6) := nI_add i 6
      refine ⟨w3, ?_⟩
      rw [e_7000_18]
      simp only [e_7000_19, e_7000_20, e_7000_21, e_7000_23, e_7000_24, e_7000_27, e_7000_28, e_7000_29, e_7000_30, e_7000_32, zk_int, zk_ref, zk_null, zk_none, zk_long, zisR_r, zisR_n, zcl_int, zcl_ref, zcl_null, zpush_s, zpush_n, zbs, zbn, true_or, or_true, not_false_eq_true, not_true_eq_false, ↓reduceIte, and_self, and_true, true_and, z999, W.1, W.2, g, z, cl, h1]
      rw [e_7000_1517]
      simp only [e_7000_1520, zk_int, zk_ref, zk_null, zk_none, zk_long, zisR_r, zisR_n, zcl_int, zcl_ref, zcl_null, zpush_s, zpush_n, zbs, zbn, true_or, or_true, not_false_eq_true, not_true_eq_false, ↓reduceIte, and_self, and_true, true_and, a6]
      exact h2
end QM
