def rOk (m i j : Nat) (v : Int32) : Prop := rLo i j ≤ v ∧ v ≤ rHi m i j
def rNb (L : Nat → Int32) (p : Nat) : Nat × Int32 := rNum L 3 p 0
theorem rNb_b (L : Nat → Int32) (p : Nat) : p ≤ (rNb L p).1 ∧ (rNb L p).1 ≤ p + 3 := rNum_b L 3 p 0
theorem rCnt_5 {i : Nat} : rCnt i ≤ 5 := by
  unfold rCnt
  by_cases h0 : i = 0
  · rw [if_pos h0]; omega
  · rw [if_neg h0]
    by_cases h1 : i = 1
    · rw [if_pos h1]; omega
    · rw [if_neg h1]
      by_cases h4 : i = 4
      · rw [if_pos h4]; omega
      · rw [if_neg h4]; omega
section RN
variable {d h z n m : Nat} {Z : zM} {L N : Nat → Int32} {p : Nat} {f : Int32}
theorem zHc_sR (C : zHc Z 26 n m) : zHc (sR Z N p f) 26 n m := ⟨C.1, by rw [sR_n _ _ _ _ (by decide)]; exact C.2.1, C.2.2.1, by rw [sR_n _ _ _ _ (by decide)]; exact C.2.2.2.1, C.2.2.2.2⟩
theorem r_readNumber_b {i j : Nat} (X : rTx Z h z L) (C : zHc Z 26 n m) (hi : i < 5) (hj : j < rCnt i) (hp : p < 900) (hb : (rNb L p).1 = p ∨ ¬ rOk m i j (rNb L p).2) : cal (d + 3) 3011 [.ref 25, .ref h, .int (nI i), .int (nI j)] (sR Z N p f) = some (some (.int 0), sR Z N (rNb L p).1 (nI p)) := by
  have th := (zSs_f X.1).1
  have q := r_number_l (d := d + 1) (Z := Z) (N := N) (f := f) (i := i) (j := j) X (s := p) (by omega) 3 p 0 rfl
  have bb := rNb_b L p
  have e1 : rNum L 3 p 0 = rNb L p := rfl
  rw [e1] at q
  by_cases he : (rNb L p).1 = p
  · rw [he] at q ⊢
    simp only [c_3011, e_3011_0, e_3011_1, e_3011_4, e_3011_6, e_3011_7, e_3011_10, e_3011_13, e_3011_15, e_3011_16, e_3011_17, e_3011_20, e_3011_21, e_3011_22, e_3011_25, e_3011_28, e_3011_31, e_3011_34, e_3011_36, e_3011_38, e_3011_39, e_3011_40, e_3011_41, e_3011_44, e_3011_47, e_3011_48, e_3011_50, e_3011_51, e_3011_53, e_3011_54, e_3011_55, e_3011_58, e_3011_59, e_3011_60, e_3011_63, e_3011_66, e_3011_67, e_3011_70, e_3011_72, e_3011_75, e_3011_76, e_3011_77, e_3011_78, e_3011_80, e_3011_83, e_3011_86, e_3011_87, e_3011_89, e_3011_92, e_3011_93, e_3011_94, e_3011_97, e_3011_98, e_3011_100, e_3011_103, e_3011_104, zk_int, zk_ref, zk_null, zk_none, zk_long, zisR_r, zisR_n, zcl_int, zcl_ref, zcl_null, zpush_s, zpush_n, zbs, zbn, true_or, or_true, not_false_eq_true, not_true_eq_false, ↓reduceIte, and_self, and_true, true_and, zt_25, sR_p, q, r_faultAt]
  · have hb2 := hb.resolve_left he
    have he2 : (nI (rNb L p).1 = nI p) = False := eq_false (fun z => he ((nI_eq (by omega) (by omega)).mp z))
    have r1 := r_mayBe (d := d) (w := sR Z N (rNb L p).1 f) (v := (rNb L p).2) (zHc_sR C) hi hj
    rw [if_neg (show ¬ (rLo i j ≤ (rNb L p).2 ∧ (rNb L p).2 ≤ rHi m i j) from hb2)] at r1
    simp only [c_3011, e_3011_0, e_3011_1, e_3011_4, e_3011_6, e_3011_7, e_3011_10, e_3011_13, e_3011_15, e_3011_16, e_3011_17, e_3011_20, e_3011_21, e_3011_22, e_3011_25, e_3011_28, e_3011_31, e_3011_34, e_3011_36, e_3011_38, e_3011_39, e_3011_40, e_3011_41, e_3011_44, e_3011_47, e_3011_48, e_3011_50, e_3011_51, e_3011_53, e_3011_54, e_3011_55, e_3011_58, e_3011_59, e_3011_60, e_3011_63, e_3011_66, e_3011_67, e_3011_70, e_3011_72, e_3011_75, e_3011_76, e_3011_77, e_3011_78, e_3011_80, e_3011_83, e_3011_86, e_3011_87, e_3011_89, e_3011_92, e_3011_93, e_3011_94, e_3011_97, e_3011_98, e_3011_100, e_3011_103, e_3011_104, zk_int, zk_ref, zk_null, zk_none, zk_long, zisR_r, zisR_n, zcl_int, zcl_ref, zcl_null, zpush_s, zpush_n, zbs, zbn, true_or, or_true, not_false_eq_true, not_true_eq_false, ↓reduceIte, and_self, and_true, true_and, zt_25, sR_p, q, he2, r1, r_faultAt]
theorem r_readNumber {i j : Nat} (X : rTx Z h z L) (C : zHc Z 26 n m) (hi : i < 5) (hj : j < rCnt i) (hp : p < 900) (he : ¬ (rNb L p).1 = p) (hb : rOk m i j (rNb L p).2) : cal (d + 3) 3011 [.ref 25, .ref h, .int (nI i), .int (nI j)] (sR Z N p f) = some (some (.int 1), sR Z (upd N j (rNb L p).2) (rNb L p).1 f) := by
  have th := (zSs_f X.1).1
  have q := r_number_l (d := d + 1) (Z := Z) (N := N) (f := f) (i := i) (j := j) X (s := p) (by omega) 3 p 0 rfl
  have bb := rNb_b L p
  have e1 : rNum L 3 p 0 = rNb L p := rfl
  rw [e1] at q
  have he2 : (nI (rNb L p).1 = nI p) = False := eq_false (fun z => he ((nI_eq (by omega) (by omega)).mp z))
  have r1 := r_mayBe (d := d) (w := sR Z N (rNb L p).1 f) (v := (rNb L p).2) (zHc_sR C) hi hj
  rw [if_pos (show rLo i j ≤ (rNb L p).2 ∧ (rNb L p).2 ≤ rHi m i j from hb)] at r1
  have h5 := rCnt_5 (i := i)
  have p1 := q_put (d := d + 2) (a := 31) (j := j) (w := sR Z N (rNb L p).1 f) (v := (rNb L p).2) zt_31 (by rw [zn_31]; omega) (by rw [zn_31]; decide)
  rw [sR_31, sR_uN] at p1
  have e10 : ((1 : Int32) = 0) = False := eq_false (by decide)
  simp only [c_3011, e_3011_0, e_3011_1, e_3011_4, e_3011_6, e_3011_7, e_3011_10, e_3011_13, e_3011_15, e_3011_16, e_3011_17, e_3011_20, e_3011_21, e_3011_22, e_3011_25, e_3011_28, e_3011_31, e_3011_34, e_3011_36, e_3011_38, e_3011_39, e_3011_40, e_3011_41, e_3011_44, e_3011_47, e_3011_48, e_3011_50, e_3011_51, e_3011_53, e_3011_54, e_3011_55, e_3011_58, e_3011_59, e_3011_60, e_3011_63, e_3011_66, e_3011_67, e_3011_70, e_3011_72, e_3011_75, e_3011_76, e_3011_77, e_3011_78, e_3011_80, e_3011_83, e_3011_86, e_3011_87, e_3011_89, e_3011_92, e_3011_93, e_3011_94, e_3011_97, e_3011_98, e_3011_100, e_3011_103, e_3011_104, zk_int, zk_ref, zk_null, zk_none, zk_long, zisR_r, zisR_n, zcl_int, zcl_ref, zcl_null, zpush_s, zpush_n, zbs, zbn, true_or, or_true, not_false_eq_true, not_true_eq_false, ↓reduceIte, and_self, and_true, true_and, zt_25, zr_25_1, zt_31, sR_p, q, he2, r1, p1, e10]
theorem r_number {j : Nat} (hj : j < 5) : cal (d + 1) 3017 [.ref 25, .int (nI j)] (sR Z N p f) = some (some (.int (N j)), sR Z N p f) := by
  have a1 := q_at (d := d) (a := 31) (j := j) (w := sR Z N p f) zt_31 (by rw [zn_31]; omega) (by rw [zn_31]; decide)
  rw [sR_31] at a1
  simp only [c_3017, e_3017_0, e_3017_1, e_3017_4, e_3017_5, e_3017_8, zk_int, zk_ref, zk_null, zk_none, zk_long, zisR_r, zisR_n, zcl_int, zcl_ref, zcl_null, zpush_s, zpush_n, zbs, zbn, true_or, or_true, not_false_eq_true, not_true_eq_false, ↓reduceIte, and_self, and_true, true_and, zt_25, zr_25_1, zt_31, a1]
theorem r_tell0 (C : zHc Z 26 n m) (hm : m < 4) (hk : sOkW (N 0) (N 1) (N 2)) : cal (d + 4) 3018 [.ref 25, .int 0] (sR Z N p f) = some (none, sR (sAdW Z 26 m (N 0) (N 1) (N 2)) N p f) := by
  have n0 := r_number (d := d + 2) (Z := Z) (N := N) (p := p) (f := f) (j := 0) (by decide)
  have n1 := r_number (d := d + 2) (Z := Z) (N := N) (p := p) (f := f) (j := 1) (by decide)
  have n2 := r_number (d := d + 2) (Z := Z) (N := N) (p := p) (f := f) (j := 2) (by decide)
  have i0 : nI 0 = 0 := by decide
  have i1 : nI 1 = 1 := by decide
  have i2 : nI 2 = 2 := by decide
  rw [i0] at n0
  rw [i1] at n1
  rw [i2] at n2
  have q := q_addWaiter (d := d) (w := sR Z N p f) (zHc_sR C) hk hm
  have e : sAdW (sR Z N p f) 26 m (N 0) (N 1) (N 2) = sR (sAdW Z 26 m (N 0) (N 1) (N 2)) N p f := by
    unfold sAdW
    rw [sR_n _ _ _ _ (by decide), sR_n _ _ _ _ (by decide), sR_u _ _ _ _ _ (by decide), sR_u _ _ _ _ _ (by decide)]
  rw [e] at q
  simp only [c_3018, e_3018_0, e_3018_1, e_3018_4, e_3018_5, e_3018_8, e_3018_9, e_3018_10, e_3018_13, e_3018_14, e_3018_15, e_3018_18, e_3018_19, e_3018_20, e_3018_23, e_3018_26, e_3018_27, e_3018_30, e_3018_31, e_3018_32, e_3018_35, e_3018_36, e_3018_39, e_3018_40, e_3018_41, e_3018_44, e_3018_45, e_3018_46, e_3018_49, e_3018_50, e_3018_51, e_3018_54, e_3018_55, e_3018_56, e_3018_59, e_3018_60, e_3018_61, e_3018_64, e_3018_67, e_3018_68, e_3018_71, e_3018_72, e_3018_73, e_3018_74, e_3018_77, e_3018_78, e_3018_81, e_3018_84, e_3018_85, e_3018_88, e_3018_89, e_3018_90, e_3018_93, e_3018_94, e_3018_95, e_3018_98, e_3018_101, e_3018_104, e_3018_107, zk_int, zk_ref, zk_null, zk_none, zk_long, zisR_r, zisR_n, zcl_int, zcl_ref, zcl_null, zpush_s, zpush_n, zbs, zbn, true_or, or_true, not_false_eq_true, not_true_eq_false, ↓reduceIte, and_self, and_true, true_and, zt_25, zr_25_0, zt_26, n0, n1, n2, q]
theorem r_tell1 {y : Nat} (C : zHc Z 26 n m) (hn : n < 8) (hk : 0 ≤ N 0 ∧ N 0 ≤ 6) (ho : sOkT (N 1) (N 2) (N 3)) (hy : y < m) (hN : N 4 = nI y) : cal (d + 5) 3018 [.ref 25, .int 1] (sR Z N p f) = some (none, sR (sAdT Z 26 n (N 0) (N 1) (N 2) (N 3) (N 4)) N p f) := by
  have n0 := r_number (d := d + 3) (Z := Z) (N := N) (p := p) (f := f) (j := 0) (by decide)
  have n1 := r_number (d := d + 3) (Z := Z) (N := N) (p := p) (f := f) (j := 1) (by decide)
  have n2 := r_number (d := d + 3) (Z := Z) (N := N) (p := p) (f := f) (j := 2) (by decide)
  have n3 := r_number (d := d + 3) (Z := Z) (N := N) (p := p) (f := f) (j := 3) (by decide)
  have n4 := r_number (d := d + 3) (Z := Z) (N := N) (p := p) (f := f) (j := 4) (by decide)
  have i0 : nI 0 = 0 := by decide
  have i1 : nI 1 = 1 := by decide
  have i2 : nI 2 = 2 := by decide
  have i3 : nI 3 = 3 := by decide
  have i4 : nI 4 = 4 := by decide
  rw [i0] at n0
  rw [i1] at n1
  rw [i2] at n2
  rw [i3] at n3
  rw [i4] at n4
  have q := q_addTable (d := d) (w := sR Z N p f) (zHc_sR C) hk hy ho hn
  rw [← hN] at q
  have e : sAdT (sR Z N p f) 26 n (N 0) (N 1) (N 2) (N 3) (N 4) = sR (sAdT Z 26 n (N 0) (N 1) (N 2) (N 3) (N 4)) N p f := by
    unfold sAdT
    rw [sR_n _ _ _ _ (by decide), sR_n _ _ _ _ (by decide), sR_u _ _ _ _ _ (by decide), sR_u _ _ _ _ _ (by decide)]
  rw [e] at q
  have e10 : ((1 : Int32) = 0) = False := eq_false (by decide)
  have hcat : ([Value.int (N 3), .int (N 2), .int (N 1), .int (N 0), .ref 26].map fun v => v.category).sum ≤ 8 := Nat.le_of_ble_eq_true rfl
  simp only [c_3018, e_3018_0, e_3018_1, e_3018_4, e_3018_5, e_3018_8, e_3018_9, e_3018_10, e_3018_13, e_3018_14, e_3018_15, e_3018_18, e_3018_19, e_3018_20, e_3018_23, e_3018_26, e_3018_27, e_3018_30, e_3018_31, e_3018_32, e_3018_35, e_3018_36, e_3018_39, e_3018_40, e_3018_41, e_3018_44, e_3018_45, e_3018_46, e_3018_49, e_3018_50, e_3018_51, e_3018_54, e_3018_55, e_3018_56, e_3018_59, e_3018_60, e_3018_61, e_3018_64, e_3018_67, e_3018_68, e_3018_71, e_3018_72, e_3018_73, e_3018_74, e_3018_77, e_3018_78, e_3018_81, e_3018_84, e_3018_85, e_3018_88, e_3018_89, e_3018_90, e_3018_93, e_3018_94, e_3018_95, e_3018_98, e_3018_101, e_3018_104, e_3018_107, zk_int, zk_ref, zk_null, zk_none, zk_long, zisR_r, zisR_n, zcl_int, zcl_ref, zcl_null, zpush_s, zpush_n, zbs, zbn, true_or, or_true, not_false_eq_true, not_true_eq_false, ↓reduceIte, and_self, and_true, true_and, zt_25, zr_25_0, zt_26, n0, n1, n2, n3, n4, q, e10, hcat]
theorem r_tell2 : cal (d + 3) 3018 [.ref 25, .int 2] (sR Z N p f) = some (none, sR (zuA Z 29 (upd (Z.1 29) 0 (N 0))) N p f) := by
  have n0 : ∀ Z, cal (d + 2) 3017 [.ref 25, .int 0] (sR Z N p f) = some (some (.int (N 0)), sR Z N p f) := fun Z => r_number (d := d + 1) (Z := Z) (N := N) (p := p) (f := f) (j := 0) (by decide)
  have q0 : ∀ Z, cal (d + 2) 1024 [.ref 26, .int 0, .int (N 0)] (sR Z N p f) = some (none, sR (zuA Z 29 (upd (Z.1 29) 0 (N 0))) N p f) := by
    intro Z
    have q := q_settle_0 (d := d + 1) (h := 26) (w := sR Z N p f) (v := N 0) (Or.inr (Or.inr (Or.inr rfl)))
    rw [sR_n _ _ _ _ (by decide), sR_u _ _ _ _ _ (by decide)] at q
    exact q
  have e20 : ((2 : Int32) = 0) = False := eq_false (by decide)
  have e21 : ((2 : Int32) = 1) = False := eq_false (by decide)
  have a1 : cal (d + 2) 5054 [.ref 1006, .int 2] = fun w => some (some (.int 1), w) := by
    funext w
    exact q_atS (d := d + 2) (a := 1006) (j := 2) (w := w) (by decide +kernel) (by decide +kernel) (by decide +kernel)
  have l0 : ((1 : Int32) ≤ 0) = False := eq_false (by decide)
  have l1 : ((1 : Int32) ≤ 1) = True := eq_true (by decide)
  have s0 : (0 : Int32) + 1 = 1 := by decide
  simp only [c_3018, e_3018_0, e_3018_1, e_3018_4, e_3018_5, e_3018_8, e_3018_9, e_3018_10, e_3018_13, e_3018_14, e_3018_15, e_3018_18, e_3018_19, e_3018_20, e_3018_23, e_3018_26, e_3018_27, e_3018_30, e_3018_31, e_3018_32, e_3018_35, e_3018_36, e_3018_39, e_3018_40, e_3018_41, e_3018_44, e_3018_45, e_3018_46, e_3018_49, e_3018_50, e_3018_51, e_3018_54, e_3018_55, e_3018_56, e_3018_59, e_3018_60, e_3018_61, e_3018_64, e_3018_67, e_3018_68, e_3018_71, e_3018_72, e_3018_73, e_3018_74, e_3018_77, e_3018_78, e_3018_81, e_3018_84, e_3018_85, e_3018_88, e_3018_89, e_3018_90, e_3018_93, e_3018_94, e_3018_95, e_3018_98, e_3018_101, e_3018_104, e_3018_107, c_3016, e_3016_0, e_3016_1, e_3016_2, e_3016_5, e_3016_6, e_3016_7, e_3016_8, e_3016_9, e_3016_12, e_3016_13, e_3016_16, e_3016_17, e_3016_18, e_3016_19, zk_int, zk_ref, zk_null, zk_none, zk_long, zisR_r, zisR_n, zcl_int, zcl_ref, zcl_null, zpush_s, zpush_n, zbs, zbn, true_or, or_true, not_false_eq_true, not_true_eq_false, ↓reduceIte, and_self, and_true, true_and, zt_25, zr_25_0, zt_26, zA_s, zA_A, e20, e21, a1, n0, q0, l0, l1, s0]
theorem r_tell3 : cal (d + 3) 3018 [.ref 25, .int 3] (sR Z N p f) = some (none, sR (zuA Z 29 (upd (Z.1 29) 1 (N 0))) N p f) := by
  have n0 : ∀ Z, cal (d + 2) 3017 [.ref 25, .int 0] (sR Z N p f) = some (some (.int (N 0)), sR Z N p f) := fun Z => r_number (d := d + 1) (Z := Z) (N := N) (p := p) (f := f) (j := 0) (by decide)
  have q0 : ∀ Z, cal (d + 2) 1024 [.ref 26, .int 1, .int (N 0)] (sR Z N p f) = some (none, sR (zuA Z 29 (upd (Z.1 29) 1 (N 0))) N p f) := by
    intro Z
    have q := q_settle_1 (d := d + 1) (h := 26) (w := sR Z N p f) (v := N 0) (Or.inr (Or.inr (Or.inr rfl)))
    rw [sR_n _ _ _ _ (by decide), sR_u _ _ _ _ _ (by decide)] at q
    exact q
  have e30 : ((3 : Int32) = 0) = False := eq_false (by decide)
  have e31 : ((3 : Int32) = 1) = False := eq_false (by decide)
  have a1 : cal (d + 2) 5054 [.ref 1006, .int 3] = fun w => some (some (.int 1), w) := by
    funext w
    exact q_atS (d := d + 2) (a := 1006) (j := 3) (w := w) (by decide +kernel) (by decide +kernel) (by decide +kernel)
  have l0 : ((1 : Int32) ≤ 0) = False := eq_false (by decide)
  have l1 : ((1 : Int32) ≤ 1) = True := eq_true (by decide)
  have s0 : (0 : Int32) + 1 = 1 := by decide
  have e32 : ((3 : Int32) = 2) = False := eq_false (by decide)
  simp only [c_3018, e_3018_0, e_3018_1, e_3018_4, e_3018_5, e_3018_8, e_3018_9, e_3018_10, e_3018_13, e_3018_14, e_3018_15, e_3018_18, e_3018_19, e_3018_20, e_3018_23, e_3018_26, e_3018_27, e_3018_30, e_3018_31, e_3018_32, e_3018_35, e_3018_36, e_3018_39, e_3018_40, e_3018_41, e_3018_44, e_3018_45, e_3018_46, e_3018_49, e_3018_50, e_3018_51, e_3018_54, e_3018_55, e_3018_56, e_3018_59, e_3018_60, e_3018_61, e_3018_64, e_3018_67, e_3018_68, e_3018_71, e_3018_72, e_3018_73, e_3018_74, e_3018_77, e_3018_78, e_3018_81, e_3018_84, e_3018_85, e_3018_88, e_3018_89, e_3018_90, e_3018_93, e_3018_94, e_3018_95, e_3018_98, e_3018_101, e_3018_104, e_3018_107, c_3016, e_3016_0, e_3016_1, e_3016_2, e_3016_5, e_3016_6, e_3016_7, e_3016_8, e_3016_9, e_3016_12, e_3016_13, e_3016_16, e_3016_17, e_3016_18, e_3016_19, zk_int, zk_ref, zk_null, zk_none, zk_long, zisR_r, zisR_n, zcl_int, zcl_ref, zcl_null, zpush_s, zpush_n, zbs, zbn, true_or, or_true, not_false_eq_true, not_true_eq_false, ↓reduceIte, and_self, and_true, true_and, zt_25, zr_25_0, zt_26, zA_s, zA_A, e30, e31, a1, n0, q0, l0, l1, s0, e32]
theorem r_tell4 : cal (d + 3) 3018 [.ref 25, .int 4] (sR Z N p f) = some (none, sR (zuA Z 29 (upd (upd (upd (Z.1 29) 2 (N 0)) 3 (N 1)) 4 (N 2))) N p f) := by
  have n0 : ∀ Z, cal (d + 2) 3017 [.ref 25, .int 0] (sR Z N p f) = some (some (.int (N 0)), sR Z N p f) := fun Z => r_number (d := d + 1) (Z := Z) (N := N) (p := p) (f := f) (j := 0) (by decide)
  have q0 : ∀ Z, cal (d + 2) 1024 [.ref 26, .int 2, .int (N 0)] (sR Z N p f) = some (none, sR (zuA Z 29 (upd (Z.1 29) 2 (N 0))) N p f) := by
    intro Z
    have q := q_settle_2 (d := d + 1) (h := 26) (w := sR Z N p f) (v := N 0) (Or.inr (Or.inr (Or.inr rfl)))
    rw [sR_n _ _ _ _ (by decide), sR_u _ _ _ _ _ (by decide)] at q
    exact q
  have n1 : ∀ Z, cal (d + 2) 3017 [.ref 25, .int 1] (sR Z N p f) = some (some (.int (N 1)), sR Z N p f) := fun Z => r_number (d := d + 1) (Z := Z) (N := N) (p := p) (f := f) (j := 1) (by decide)
  have q1 : ∀ Z, cal (d + 2) 1024 [.ref 26, .int 3, .int (N 1)] (sR Z N p f) = some (none, sR (zuA Z 29 (upd (Z.1 29) 3 (N 1))) N p f) := by
    intro Z
    have q := q_settle_3 (d := d + 1) (h := 26) (w := sR Z N p f) (v := N 1) (Or.inr (Or.inr (Or.inr rfl)))
    rw [sR_n _ _ _ _ (by decide), sR_u _ _ _ _ _ (by decide)] at q
    exact q
  have n2 : ∀ Z, cal (d + 2) 3017 [.ref 25, .int 2] (sR Z N p f) = some (some (.int (N 2)), sR Z N p f) := fun Z => r_number (d := d + 1) (Z := Z) (N := N) (p := p) (f := f) (j := 2) (by decide)
  have q2 : ∀ Z, cal (d + 2) 1024 [.ref 26, .int 4, .int (N 2)] (sR Z N p f) = some (none, sR (zuA Z 29 (upd (Z.1 29) 4 (N 2))) N p f) := by
    intro Z
    have q := q_settle_4 (d := d + 1) (h := 26) (w := sR Z N p f) (v := N 2) (Or.inr (Or.inr (Or.inr rfl)))
    rw [sR_n _ _ _ _ (by decide), sR_u _ _ _ _ _ (by decide)] at q
    exact q
  have e40 : ((4 : Int32) = 0) = False := eq_false (by decide)
  have e41 : ((4 : Int32) = 1) = False := eq_false (by decide)
  have a1 : cal (d + 2) 5054 [.ref 1006, .int 4] = fun w => some (some (.int 3), w) := by
    funext w
    exact q_atS (d := d + 2) (a := 1006) (j := 4) (w := w) (by decide +kernel) (by decide +kernel) (by decide +kernel)
  have l0 : ((3 : Int32) ≤ 0) = False := eq_false (by decide)
  have l1 : ((3 : Int32) ≤ 1) = False := eq_false (by decide)
  have l2 : ((3 : Int32) ≤ 2) = False := eq_false (by decide)
  have l3 : ((3 : Int32) ≤ 3) = True := eq_true (by decide)
  have s0 : (0 : Int32) + 1 = 1 := by decide
  have s1 : (1 : Int32) + 1 = 2 := by decide
  have s2 : (2 : Int32) + 1 = 3 := by decide
  have e42 : ((4 : Int32) = 2) = False := eq_false (by decide)
  have e43 : ((4 : Int32) = 3) = False := eq_false (by decide)
  have t0 : (2 : Int32) + 0 = 2 := by decide
  have t1 : (2 : Int32) + 1 = 3 := by decide
  have t2 : (2 : Int32) + 2 = 4 := by decide
  simp only [c_3018, e_3018_0, e_3018_1, e_3018_4, e_3018_5, e_3018_8, e_3018_9, e_3018_10, e_3018_13, e_3018_14, e_3018_15, e_3018_18, e_3018_19, e_3018_20, e_3018_23, e_3018_26, e_3018_27, e_3018_30, e_3018_31, e_3018_32, e_3018_35, e_3018_36, e_3018_39, e_3018_40, e_3018_41, e_3018_44, e_3018_45, e_3018_46, e_3018_49, e_3018_50, e_3018_51, e_3018_54, e_3018_55, e_3018_56, e_3018_59, e_3018_60, e_3018_61, e_3018_64, e_3018_67, e_3018_68, e_3018_71, e_3018_72, e_3018_73, e_3018_74, e_3018_77, e_3018_78, e_3018_81, e_3018_84, e_3018_85, e_3018_88, e_3018_89, e_3018_90, e_3018_93, e_3018_94, e_3018_95, e_3018_98, e_3018_101, e_3018_104, e_3018_107, c_3016, e_3016_0, e_3016_1, e_3016_2, e_3016_5, e_3016_6, e_3016_7, e_3016_8, e_3016_9, e_3016_12, e_3016_13, e_3016_16, e_3016_17, e_3016_18, e_3016_19, zk_int, zk_ref, zk_null, zk_none, zk_long, zisR_r, zisR_n, zcl_int, zcl_ref, zcl_null, zpush_s, zpush_n, zbs, zbn, true_or, or_true, not_false_eq_true, not_true_eq_false, ↓reduceIte, and_self, and_true, true_and, zt_25, zr_25_0, zt_26, zA_s, zA_A, e40, e41, a1, n0, n1, n2, q0, q1, q2, l0, l1, l2, l3, s0, s1, s2, e42, e43, t0, t1, t2]
end RN
