def rStr (a : Nat) : List Int32 := zsrL.getD (a - 2000) []
def rWrd (L : Nat → Int32) : List Int32 → Nat → Bool × Nat
  | [], p => (true, p)
  | c :: cs, p => if L p = c then rWrd L cs (p + 1) else (false, p)
theorem rWrd_b (L : Nat → Int32) : ∀ cs p, (rWrd L cs p).2 ≤ p + cs.length := by
  intro cs
  induction cs with
  | nil => intro p; exact Nat.le_refl _
  | cons c cs ih =>
    intro p
    show (if L p = c then rWrd L cs (p + 1) else (false, p)).2 ≤ p + (cs.length + 1)
    by_cases h : L p = c
    · rw [if_pos h]
      have := ih (p + 1)
      omega
    · rw [if_neg h]
      show p ≤ _
      omega
theorem rStr_ok {a : Nat} (ha : a = 2000 ∨ a = 2001 ∨ a = 2002 ∨ a = 2003 ∨ a = 2004) : zTag a = 22 ∧ zLen a = (rStr a).length ∧ 0 < zLen a ∧ zLen a < 8 := by
  rcases ha with rfl | rfl | rfl | rfl | rfl <;> decide +kernel
section RW
variable {d h z : Nat} {Z : zM} {L N : Nat → Int32} {p : Nat} {f : Int32}
theorem r_letterAt {w : zM} {a i : Nat} (ha : a = 2000 ∨ a = 2001 ∨ a = 2002 ∨ a = 2003 ∨ a = 2004) (hi : i < zLen a) : cal d 3008 [.ref a, .int (nI i)] w = some (some (.int ((rStr a).getD i 0)), w) := by
  obtain ⟨ht, hl, h0, h8⟩ := rStr_ok ha
  generalize hn : zLen a = n at hi h8
  have hz := zis_nI hi (by omega)
  have h1 : ¬ nI i < 0 := nI_pos (by omega)
  have h2 : ¬ Int32.ofNat n ≤ nI i := nI_ge hi (by omega)
  have h3 : (nI i).toNatClampNeg = i := nI_clamp (by omega)
  simp only [c_3008, e_3008_0, e_3008_1, e_3008_4, e_3008_5, e_3008_6, e_3008_9, e_3008_12, e_3008_13, e_3008_14, e_3008_17, e_3008_20, e_3008_21, zk_int, zk_ref, zk_null, zk_none, zk_long, zisR_r, zisR_n, zcl_int, zcl_ref, zcl_null, zpush_s, zpush_n, zbs, zbn, true_or, or_true, not_false_eq_true, not_true_eq_false, ↓reduceIte, and_self, and_true, true_and, ht, hn, hz, h1, h2, h3]
  rfl
theorem r_readWord_l {a : Nat} (X : rTx Z h z L) (ha : a = 2000 ∨ a = 2001 ∨ a = 2002 ∨ a = 2003 ∨ a = 2004) : ∀ cs i p, (rStr a).drop i = cs → i ≤ zLen a → p + cs.length < 1000 → den (d + 3) 3009 2 [some (.ref 25), some (.ref h), some (.ref a), some (.int (nI i))] [] (sR Z N p f) = some (if (rWrd L cs p).1 = true then (some (.int 1), sR Z N (rWrd L cs p).2 f) else (some (.int 0), sR Z N (rWrd L cs p).2 (nI (rWrd L cs p).2))) := by
  obtain ⟨ht, hl, h0, h8⟩ := rStr_ok ha
  have th := (zSs_f X.1).1
  intro cs
  induction cs with
  | nil =>
    intro i p hd hi hp
    have e : zLen a ≤ i := by
      rw [hl]
      exact List.drop_eq_nil_iff.mp hd
    have e2 : i = zLen a := by omega
    subst e2
    have l1 : (Int32.ofNat (zLen a) ≤ nI (zLen a)) = True := nI_le_n (Nat.le_refl _) (by omega)
    rw [e_3009_2]
    simp only [c_3009, e_3009_0, e_3009_1, e_3009_3, e_3009_4, e_3009_7, e_3009_10, e_3009_11, e_3009_12, e_3009_13, e_3009_14, e_3009_17, e_3009_20, e_3009_23, e_3009_24, e_3009_25, e_3009_28, e_3009_31, e_3009_32, zk_int, zk_ref, zk_null, zk_none, zk_long, zisR_r, zisR_n, zcl_int, zcl_ref, zcl_null, zpush_s, zpush_n, zbs, zbn, true_or, or_true, not_false_eq_true, not_true_eq_false, ↓reduceIte, and_self, and_true, true_and, ht, l1]
    rfl
  | cons c cs ih =>
    intro i p hd hi hp
    have hil : i < zLen a := by
      rw [hl]
      have : (c :: cs).length = (rStr a).length - i := by rw [← hd, List.length_drop]
      have e3 : (c :: cs).length = cs.length + 1 := rfl
      omega
    have hc : (rStr a).getD i 0 = c := by
      have e1 : (rStr a)[i]? = some c := by
        have e2 : ((rStr a).drop i)[0]? = some c := by rw [hd]; rfl
        rw [List.getElem?_drop] at e2
        exact e2
      rw [List.getD_eq_getElem?_getD, e1]
      rfl
    have hd2 : (rStr a).drop (i + 1) = cs := by
      rw [← List.drop_drop, hd]
      rfl
    have l1 : (Int32.ofNat (zLen a) ≤ nI i) = False := nI_ge_f hil (by omega)
    have r1 := r_letterAt (d := d + 2) (w := sR Z N p f) ha hil
    rw [hc] at r1
    have hp3 : (c :: cs).length = cs.length + 1 := rfl
    have r2 := r_sign (d := d) (N := N) (p := p) (f := f) (c := c) X (by omega)
    have ew : rWrd L (c :: cs) p = if L p = c then rWrd L cs (p + 1) else (false, p) := rfl
    rw [ew]
    by_cases hcc : L p = c
    · rw [if_pos hcc] at r2
      rw [if_pos hcc]
      rw [e_3009_2]
      simp only [c_3009, e_3009_0, e_3009_1, e_3009_3, e_3009_4, e_3009_7, e_3009_10, e_3009_11, e_3009_12, e_3009_13, e_3009_14, e_3009_17, e_3009_20, e_3009_23, e_3009_24, e_3009_25, e_3009_28, e_3009_31, e_3009_32, zk_int, zk_ref, zk_null, zk_none, zk_long, zisR_r, zisR_n, zcl_int, zcl_ref, zcl_null, zpush_s, zpush_n, zbs, zbn, true_or, or_true, not_false_eq_true, not_true_eq_false, ↓reduceIte, and_self, and_true, true_and, ht, zt_25, l1, r1, r2, nI_1]
      exact ih (i + 1) (p + 1) hd2 (by omega) (by omega)
    · rw [if_neg hcc] at r2
      rw [if_neg hcc]
      rw [e_3009_2]
      simp only [c_3009, e_3009_0, e_3009_1, e_3009_3, e_3009_4, e_3009_7, e_3009_10, e_3009_11, e_3009_12, e_3009_13, e_3009_14, e_3009_17, e_3009_20, e_3009_23, e_3009_24, e_3009_25, e_3009_28, e_3009_31, e_3009_32, zk_int, zk_ref, zk_null, zk_none, zk_long, zisR_r, zisR_n, zcl_int, zcl_ref, zcl_null, zpush_s, zpush_n, zbs, zbn, true_or, or_true, not_false_eq_true, not_true_eq_false, ↓reduceIte, and_self, and_true, true_and, ht, zt_25, l1, r1, r2]
      rfl
theorem r_readWord {a : Nat} (X : rTx Z h z L) (ha : a = 2000 ∨ a = 2001 ∨ a = 2002 ∨ a = 2003 ∨ a = 2004) (hp : p < 900) : cal (d + 3) 3009 [.ref 25, .ref h, .ref a] (sR Z N p f) = some (if (rWrd L (rStr a) p).1 = true then (some (.int 1), sR Z N (rWrd L (rStr a) p).2 f) else (some (.int 0), sR Z N (rWrd L (rStr a) p).2 (nI (rWrd L (rStr a) p).2))) := by
  obtain ⟨ht, hl, h0, h8⟩ := rStr_ok ha
  have th := (zSs_f X.1).1
  have q := r_readWord_l (d := d) (N := N) (f := f) X ha (rStr a) 0 p rfl (by omega) (by omega)
  have e0 : nI 0 = 0 := nI_0
  rw [e0] at q
  simp only [c_3009, e_3009_0, e_3009_1, zk_int, zk_ref, zk_null, zk_none, zk_long, zisR_r, zisR_n, zcl_int, zcl_ref, zcl_null, zpush_s, zpush_n, zbs, zbn, true_or, or_true, not_false_eq_true, not_true_eq_false, ↓reduceIte, and_self, and_true, true_and]
  exact q
theorem r_wordOf {w : zM} {i : Nat} (hi : i < 5) : cal d 3007 [.int (nI i)] w = some (some (.ref (2000 + i)), w) := by
  have e10 : ((1 : Int32) = 0) = False := eq_false (by decide)
  have e20 : ((2 : Int32) = 0) = False := eq_false (by decide)
  have e21 : ((2 : Int32) = 1) = False := eq_false (by decide)
  have e30 : ((3 : Int32) = 0) = False := eq_false (by decide)
  have e31 : ((3 : Int32) = 1) = False := eq_false (by decide)
  have e32 : ((3 : Int32) = 2) = False := eq_false (by decide)
  have e40 : ((4 : Int32) = 0) = False := eq_false (by decide)
  have e41 : ((4 : Int32) = 1) = False := eq_false (by decide)
  have e42 : ((4 : Int32) = 2) = False := eq_false (by decide)
  have e43 : ((4 : Int32) = 3) = False := eq_false (by decide)
  rcases (by omega : i = 0 ∨ i = 1 ∨ i = 2 ∨ i = 3 ∨ i = 4) with rfl | rfl | rfl | rfl | rfl
  · show cal d 3007 [.int 0] w = some (some (.ref 2000), w)
    simp only [c_3007, e_3007_0, e_3007_1, e_3007_32, e_3007_34, e_3007_35, e_3007_37, e_3007_38, e_3007_40, e_3007_41, e_3007_43, e_3007_44, e_3007_46, zk_int, zk_ref, zk_null, zk_none, zk_long, zisR_r, zisR_n, zcl_int, zcl_ref, zcl_null, zpush_s, zpush_n, zbs, zbn, true_or, or_true, not_false_eq_true, not_true_eq_false, ↓reduceIte, and_self, and_true, true_and]
  · show cal d 3007 [.int 1] w = some (some (.ref 2001), w)
    simp only [c_3007, e_3007_0, e_3007_1, e_3007_32, e_3007_34, e_3007_35, e_3007_37, e_3007_38, e_3007_40, e_3007_41, e_3007_43, e_3007_44, e_3007_46, zk_int, zk_ref, zk_null, zk_none, zk_long, zisR_r, zisR_n, zcl_int, zcl_ref, zcl_null, zpush_s, zpush_n, zbs, zbn, true_or, or_true, not_false_eq_true, not_true_eq_false, ↓reduceIte, and_self, and_true, true_and, e10]
  · show cal d 3007 [.int 2] w = some (some (.ref 2002), w)
    simp only [c_3007, e_3007_0, e_3007_1, e_3007_32, e_3007_34, e_3007_35, e_3007_37, e_3007_38, e_3007_40, e_3007_41, e_3007_43, e_3007_44, e_3007_46, zk_int, zk_ref, zk_null, zk_none, zk_long, zisR_r, zisR_n, zcl_int, zcl_ref, zcl_null, zpush_s, zpush_n, zbs, zbn, true_or, or_true, not_false_eq_true, not_true_eq_false, ↓reduceIte, and_self, and_true, true_and, e20, e21]
  · show cal d 3007 [.int 3] w = some (some (.ref 2003), w)
    simp only [c_3007, e_3007_0, e_3007_1, e_3007_32, e_3007_34, e_3007_35, e_3007_37, e_3007_38, e_3007_40, e_3007_41, e_3007_43, e_3007_44, e_3007_46, zk_int, zk_ref, zk_null, zk_none, zk_long, zisR_r, zisR_n, zcl_int, zcl_ref, zcl_null, zpush_s, zpush_n, zbs, zbn, true_or, or_true, not_false_eq_true, not_true_eq_false, ↓reduceIte, and_self, and_true, true_and, e30, e31, e32]
  · show cal d 3007 [.int 4] w = some (some (.ref 2004), w)
    simp only [c_3007, e_3007_0, e_3007_1, e_3007_32, e_3007_34, e_3007_35, e_3007_37, e_3007_38, e_3007_40, e_3007_41, e_3007_43, e_3007_44, e_3007_46, zk_int, zk_ref, zk_null, zk_none, zk_long, zisR_r, zisR_n, zcl_int, zcl_ref, zcl_null, zpush_s, zpush_n, zbs, zbn, true_or, or_true, not_false_eq_true, not_true_eq_false, ↓reduceIte, and_self, and_true, true_and, e40, e41, e42, e43]
def rFst (i : Nat) : Int32 := (rStr (2000 + i)).getD 0 0
def rByF (x : Int32) : Nat → Nat → Int32
  | 0, _ => -1
  | r + 1, i => if x = rFst i then nI i else rByF x r (i + 1)
def rBy (x : Int32) : Int32 := rByF x 5 0
theorem r_itemBy_l {w : zM} {x : Int32} : ∀ r i, i + r = 5 → den (d + 1) 3006 2 [some (.int x), some (.int (nI i))] [] w = some (some (.int (rByF x r i)), w) := by
  intro r
  induction r with
  | zero =>
    intro i hi
    have e : i = 5 := by omega
    subst e
    have l1 : ((4 : Int32) < nI 5) = True := eq_true (by decide)
    rw [e_3006_2]
    simp only [c_3006, e_3006_0, e_3006_1, e_3006_3, e_3006_4, e_3006_7, e_3006_8, e_3006_9, e_3006_12, e_3006_13, e_3006_16, e_3006_19, e_3006_20, e_3006_21, e_3006_24, e_3006_27, e_3006_28, zk_int, zk_ref, zk_null, zk_none, zk_long, zisR_r, zisR_n, zcl_int, zcl_ref, zcl_null, zpush_s, zpush_n, zbs, zbn, true_or, or_true, not_false_eq_true, not_true_eq_false, ↓reduceIte, and_self, and_true, true_and, l1]
    rfl
  | succ r ih =>
    intro i hi
    have l1 : ((4 : Int32) < nI i) = False := nI_lt_f (a := 4) (b := i) (by omega) (by omega)
    have w1 := r_wordOf (d := d) (w := w) (i := i) (by omega)
    have hs : 2000 + i = 2000 ∨ 2000 + i = 2001 ∨ 2000 + i = 2002 ∨ 2000 + i = 2003 ∨ 2000 + i = 2004 := by omega
    have r1 := r_letterAt (d := d) (w := w) (a := 2000 + i) (i := 0) hs (rStr_ok hs).2.2.1
    have e0 : nI 0 = 0 := nI_0
    rw [e0] at r1
    have e1 : rByF x (r + 1) i = if x = rFst i then nI i else rByF x r (i + 1) := rfl
    rw [e1]
    by_cases hx : x = rFst i
    · rw [if_pos hx]
      have hx2 : (x = (rStr (2000 + i)).getD 0 0) = True := eq_true hx
      rw [e_3006_2]
      simp only [c_3006, e_3006_0, e_3006_1, e_3006_3, e_3006_4, e_3006_7, e_3006_8, e_3006_9, e_3006_12, e_3006_13, e_3006_16, e_3006_19, e_3006_20, e_3006_21, e_3006_24, e_3006_27, e_3006_28, zk_int, zk_ref, zk_null, zk_none, zk_long, zisR_r, zisR_n, zcl_int, zcl_ref, zcl_null, zpush_s, zpush_n, zbs, zbn, true_or, or_true, not_false_eq_true, not_true_eq_false, ↓reduceIte, and_self, and_true, true_and, l1, w1, r1, hx2]
    · rw [if_neg hx]
      have hx2 : (x = (rStr (2000 + i)).getD 0 0) = False := eq_false hx
      rw [e_3006_2]
      simp only [c_3006, e_3006_0, e_3006_1, e_3006_3, e_3006_4, e_3006_7, e_3006_8, e_3006_9, e_3006_12, e_3006_13, e_3006_16, e_3006_19, e_3006_20, e_3006_21, e_3006_24, e_3006_27, e_3006_28, zk_int, zk_ref, zk_null, zk_none, zk_long, zisR_r, zisR_n, zcl_int, zcl_ref, zcl_null, zpush_s, zpush_n, zbs, zbn, true_or, or_true, not_false_eq_true, not_true_eq_false, ↓reduceIte, and_self, and_true, true_and, l1, w1, r1, hx2, nI_1]
      exact ih (i + 1) (by omega)
theorem r_itemBy {w : zM} {x : Int32} : cal (d + 1) 3006 [.int x] w = some (some (.int (rBy x)), w) := by
  have q := r_itemBy_l (d := d) (w := w) (x := x) 5 0 rfl
  have e0 : nI 0 = 0 := nI_0
  rw [e0] at q
  simp only [c_3006, e_3006_0, e_3006_1, zk_int, zk_ref, zk_null, zk_none, zk_long, zisR_r, zisR_n, zcl_int, zcl_ref, zcl_null, zpush_s, zpush_n, zbs, zbn, true_or, or_true, not_false_eq_true, not_true_eq_false, ↓reduceIte, and_self, and_true, true_and]
  exact q
theorem r_roomW {n m : Nat} (C : zHc Z 26 n m) : cal (d + 1) 3013 [.ref 25, .int 0] Z = some (some (.int (if m < 4 then 1 else 0)), Z) := by
  have q := q_hasRoomForWaiter (d := d) C
  simp only [c_3013, e_3013_0, e_3013_1, e_3013_4, e_3013_5, e_3013_8, e_3013_11, e_3013_12, e_3013_13, e_3013_14, e_3013_17, e_3013_18, e_3013_21, e_3013_24, e_3013_27, e_3013_28, e_3013_31, e_3013_32, zk_int, zk_ref, zk_null, zk_none, zk_long, zisR_r, zisR_n, zcl_int, zcl_ref, zcl_null, zpush_s, zpush_n, zbs, zbn, true_or, or_true, not_false_eq_true, not_true_eq_false, ↓reduceIte, and_self, and_true, true_and, zt_25, zr_25_0, zt_26, q, zif01]
theorem r_roomT {n m : Nat} (C : zHc Z 26 n m) : cal (d + 1) 3013 [.ref 25, .int 1] Z = some (some (.int (if n < 8 then 1 else 0)), Z) := by
  have q := q_hasRoomForTable (d := d) C
  have e10 : ((1 : Int32) = 0) = False := eq_false (by decide)
  by_cases hn : n < 8
  · rw [if_pos hn] at q ⊢
    simp only [c_3013, e_3013_0, e_3013_1, e_3013_4, e_3013_5, e_3013_8, e_3013_11, e_3013_12, e_3013_13, e_3013_14, e_3013_17, e_3013_18, e_3013_21, e_3013_24, e_3013_27, e_3013_28, e_3013_31, e_3013_32, zk_int, zk_ref, zk_null, zk_none, zk_long, zisR_r, zisR_n, zcl_int, zcl_ref, zcl_null, zpush_s, zpush_n, zbs, zbn, true_or, or_true, not_false_eq_true, not_true_eq_false, ↓reduceIte, and_self, and_true, true_and, zt_25, zr_25_0, zt_26, q, e10]
  · rw [if_neg hn] at q ⊢
    simp only [c_3013, e_3013_0, e_3013_1, e_3013_4, e_3013_5, e_3013_8, e_3013_11, e_3013_12, e_3013_13, e_3013_14, e_3013_17, e_3013_18, e_3013_21, e_3013_24, e_3013_27, e_3013_28, e_3013_31, e_3013_32, zk_int, zk_ref, zk_null, zk_none, zk_long, zisR_r, zisR_n, zcl_int, zcl_ref, zcl_null, zpush_s, zpush_n, zbs, zbn, true_or, or_true, not_false_eq_true, not_true_eq_false, ↓reduceIte, and_self, and_true, true_and, zt_25, zr_25_0, zt_26, q, e10]
theorem r_roomO {x : Int32} (h0 : ¬ x = 0) (h1 : ¬ x = 1) : cal (d + 1) 3013 [.ref 25, .int x] Z = some (some (.int 1), Z) := by
  simp only [c_3013, e_3013_0, e_3013_1, e_3013_4, e_3013_5, e_3013_8, e_3013_11, e_3013_12, e_3013_13, e_3013_14, e_3013_17, e_3013_18, e_3013_21, e_3013_24, e_3013_27, e_3013_28, e_3013_31, e_3013_32, zk_int, zk_ref, zk_null, zk_none, zk_long, zisR_r, zisR_n, zcl_int, zcl_ref, zcl_null, zpush_s, zpush_n, zbs, zbn, true_or, or_true, not_false_eq_true, not_true_eq_false, ↓reduceIte, and_self, and_true, true_and, zt_25, zr_25_0, zt_26, h0, h1]
theorem r_number_l {s i j : Nat} (X : rTx Z h z L) (hs : s < 1000) : ∀ k p v, p + k = s + 3 → den (d + 2) 3011 9 [some (.ref 25), some (.ref h), some (.int (nI i)), some (.int (nI j)), some (.int (nI s)), some (.int v)] [] (sR Z N p f) = den (d + 2) 3011 66 [some (.ref 25), some (.ref h), some (.int (nI i)), some (.int (nI j)), some (.int (nI s)), some (.int (rNum L k p v).2)] [] (sR Z N (rNum L k p v).1 f) := by
  have th := (zSs_f X.1).1
  have e3 : nI s + 3 = nI (s + 3) := nI_add s 3
  intro k
  induction k with
  | zero =>
    intro p v hp
    have e : p = s + 3 := by omega
    subst e
    have l1 := nI_le_n (Nat.le_refl (s + 3)) (by omega)
    rw [e_3011_9 zisR_r]
    simp only [c_3011, e_3011_0, e_3011_1, e_3011_4, e_3011_6, e_3011_7, e_3011_10, e_3011_13, e_3011_15, e_3011_16, e_3011_17, e_3011_20, e_3011_21, e_3011_22, e_3011_25, e_3011_28, e_3011_31, e_3011_34, e_3011_36, e_3011_38, e_3011_39, e_3011_40, e_3011_41, e_3011_44, e_3011_47, e_3011_48, e_3011_50, e_3011_51, e_3011_53, e_3011_54, e_3011_55, e_3011_58, e_3011_59, e_3011_60, e_3011_63, e_3011_67, e_3011_70, e_3011_72, e_3011_75, e_3011_76, e_3011_77, e_3011_78, e_3011_80, e_3011_83, e_3011_86, e_3011_87, e_3011_89, e_3011_92, e_3011_93, e_3011_94, e_3011_97, e_3011_98, e_3011_100, e_3011_103, e_3011_104, zk_int, zk_ref, zk_null, zk_none, zk_long, zisR_r, zisR_n, zcl_int, zcl_ref, zcl_null, zpush_s, zpush_n, zbs, zbn, true_or, or_true, not_false_eq_true, not_true_eq_false, ↓reduceIte, and_self, and_true, true_and, zt_25, sR_p, e3, l1]
    rfl
  | succ k ih =>
    intro p v hp
    have l1 := nI_ge_f (a := p) (b := s + 3) (by omega) (by omega)
    have r1 := r_int (d := d) (rTx_sR (N := N) (p := p) (f := f) X) (p := p) (by omega)
    have r2 := r_isDigit (d := d + 1) (w := sR Z N p f) (x := L p)
    have e1 : rNum L (k + 1) p v = if 48 ≤ L p ∧ L p ≤ 57 then rNum L k (p + 1) (v * 10 + L p - 48) else (p, v) := rfl
    rw [e1]
    by_cases hd : 48 ≤ L p ∧ L p ≤ 57
    · rw [if_pos hd] at r2 ⊢
      rw [e_3011_9 zisR_r]
      simp only [c_3011, e_3011_0, e_3011_1, e_3011_4, e_3011_6, e_3011_7, e_3011_10, e_3011_13, e_3011_15, e_3011_16, e_3011_17, e_3011_20, e_3011_21, e_3011_22, e_3011_25, e_3011_28, e_3011_31, e_3011_34, e_3011_36, e_3011_38, e_3011_39, e_3011_40, e_3011_41, e_3011_44, e_3011_47, e_3011_48, e_3011_50, e_3011_51, e_3011_53, e_3011_54, e_3011_55, e_3011_58, e_3011_59, e_3011_60, e_3011_63, e_3011_67, e_3011_70, e_3011_72, e_3011_75, e_3011_76, e_3011_77, e_3011_78, e_3011_80, e_3011_83, e_3011_86, e_3011_87, e_3011_89, e_3011_92, e_3011_93, e_3011_94, e_3011_97, e_3011_98, e_3011_100, e_3011_103, e_3011_104, zk_int, zk_ref, zk_null, zk_none, zk_long, zisR_r, zisR_n, zcl_int, zcl_ref, zcl_null, zpush_s, zpush_n, zbs, zbn, true_or, or_true, not_false_eq_true, not_true_eq_false, ↓reduceIte, and_self, and_true, true_and, zt_25, th, sR_p, e3, l1, r1, r2, zui_A, nI_1, sR_up]
      exact ih (p + 1) _ (by omega)
    · rw [if_neg hd] at r2 ⊢
      rw [e_3011_9 zisR_r]
      simp only [c_3011, e_3011_0, e_3011_1, e_3011_4, e_3011_6, e_3011_7, e_3011_10, e_3011_13, e_3011_15, e_3011_16, e_3011_17, e_3011_20, e_3011_21, e_3011_22, e_3011_25, e_3011_28, e_3011_31, e_3011_34, e_3011_36, e_3011_38, e_3011_39, e_3011_40, e_3011_41, e_3011_44, e_3011_47, e_3011_48, e_3011_50, e_3011_51, e_3011_53, e_3011_54, e_3011_55, e_3011_58, e_3011_59, e_3011_60, e_3011_63, e_3011_67, e_3011_70, e_3011_72, e_3011_75, e_3011_76, e_3011_77, e_3011_78, e_3011_80, e_3011_83, e_3011_86, e_3011_87, e_3011_89, e_3011_92, e_3011_93, e_3011_94, e_3011_97, e_3011_98, e_3011_100, e_3011_103, e_3011_104, zk_int, zk_ref, zk_null, zk_none, zk_long, zisR_r, zisR_n, zcl_int, zcl_ref, zcl_null, zpush_s, zpush_n, zbs, zbn, true_or, or_true, not_false_eq_true, not_true_eq_false, ↓reduceIte, and_self, and_true, true_and, zt_25, th, sR_p, e3, l1, r1, r2]
end RW
