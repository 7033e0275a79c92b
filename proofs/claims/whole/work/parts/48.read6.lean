def rTl (Z : zM) (n m i : Nat) (N : Nat → Int32) : zM := if i = 0 then sAdW Z 26 m (N 0) (N 1) (N 2) else if i = 1 then sAdT Z 26 n (N 0) (N 1) (N 2) (N 3) (N 4) else if i = 2 then zuA Z 29 (upd (Z.1 29) 0 (N 0)) else if i = 3 then zuA Z 29 (upd (Z.1 29) 1 (N 0)) else zuA Z 29 (upd (upd (upd (Z.1 29) 2 (N 0)) 3 (N 1)) 4 (N 2))
theorem rByF_c (x : Int32) : ∀ r i, i + r = 5 → rByF x r i = -1 ∨ ∃ k, k < 5 ∧ rByF x r i = nI k := by
  intro r
  induction r with
  | zero => intro i _; exact Or.inl rfl
  | succ r ih =>
    intro i hi
    have e : rByF x (r + 1) i = if x = rFst i then nI i else rByF x r (i + 1) := rfl
    rw [e]
    by_cases h : x = rFst i
    · rw [if_pos h]; exact Or.inr ⟨i, by omega, rfl⟩
    · rw [if_neg h]; exact ih (i + 1) (by omega)
theorem rBy_c (x : Int32) : rBy x = -1 ∨ ∃ k, k < 5 ∧ rBy x = nI k := rByF_c x 5 0 rfl
def rRm (n m i : Nat) : Prop := (i = 0 ∧ ¬ m < 4) ∨ (i = 1 ∧ ¬ n < 8)
def rItm (L : Nat → Int32) (n m p : Nat) (N : Nat → Int32) : Bool × Nat × Nat × (Nat → Int32) :=
  if rBy (L p) = -1 then (false, p, p, N)
  else if (rWrd L (rStr (2000 + (rBy (L p)).toNatClampNeg)) p).1 = true then
    (if ((rBy (L p)).toNatClampNeg = 0 ∧ ¬ m < 4) ∨ ((rBy (L p)).toNatClampNeg = 1 ∧ ¬ n < 8) then (false, (rWrd L (rStr (2000 + (rBy (L p)).toNatClampNeg)) p).2, p, N)
     else rNs L m (rBy (L p)).toNatClampNeg (rCnt (rBy (L p)).toNatClampNeg) 0 (rWrd L (rStr (2000 + (rBy (L p)).toNatClampNeg)) p).2 N)
  else (false, (rWrd L (rStr (2000 + (rBy (L p)).toNatClampNeg)) p).2, (rWrd L (rStr (2000 + (rBy (L p)).toNatClampNeg)) p).2, N)
section RT
variable {d h z n m : Nat} {Z : zM} {L N : Nat → Int32} {p : Nat} {f : Int32}
theorem r_tell {i : Nat} (C : zHc Z 26 n m) (hi : i < 5) (hr : ¬ rRm n m i) (hk : ∀ k, k < rCnt i → rOk m i k (N k)) : cal (d + 5) 3018 [.ref 25, .int (nI i)] (sR Z N p f) = some (none, sR (rTl Z n m i N) N p f) := by
  rcases (by omega : i = 0 ∨ i = 1 ∨ i = 2 ∨ i = 3 ∨ i = 4) with rfl | rfl | rfl | rfl | rfl
  · have hm : m < 4 := by
      by_cases hm : m < 4
      · exact hm
      · exact absurd (Or.inl ⟨rfl, hm⟩) hr
    exact r_tell0 (d := d + 1) C hm ⟨hk 0 (by decide), hk 1 (by decide), hk 2 (by decide)⟩
  · have hn : n < 8 := by
      by_cases hn : n < 8
      · exact hn
      · exact absurd (Or.inr ⟨rfl, hn⟩) hr
    have h4 : rOk m 1 4 (N 4) := hk 4 (by decide)
    have h4' : 0 ≤ N 4 ∧ N 4 ≤ nI m - 1 := h4
    obtain ⟨y, hy, hN⟩ := nI_of4 h4'.1 ((i32_lt_sub C.2.2.2.2 h4'.1).mp h4'.2) C.2.2.2.2
    exact r_tell1 (d := d) C hn (hk 0 (by decide)) ⟨hk 1 (by decide), hk 2 (by decide), hk 3 (by decide)⟩ hy hN
  · exact r_tell2 (d := d + 2)
  · exact r_tell3 (d := d + 2)
  · exact r_tell4 (d := d + 2)
theorem r_room {i : Nat} (C : zHc Z 26 n m) (hi : i < 5) (hr : ¬ rRm n m i) : cal (d + 1) 3013 [.ref 25, .int (nI i)] (sR Z N p f) = some (some (.int 1), sR Z N p f) := by
  rcases (by omega : i = 0 ∨ i = 1 ∨ i = 2 ∨ i = 3 ∨ i = 4) with rfl | rfl | rfl | rfl | rfl
  · have hm : m < 4 := by
      by_cases hm : m < 4
      · exact hm
      · exact absurd (Or.inl ⟨rfl, hm⟩) hr
    have q := r_roomW (d := d) (zHc_sR (N := N) (p := p) (f := f) C)
    rw [if_pos hm] at q
    exact q
  · have hn : n < 8 := by
      by_cases hn : n < 8
      · exact hn
      · exact absurd (Or.inr ⟨rfl, hn⟩) hr
    have q := r_roomT (d := d) (zHc_sR (N := N) (p := p) (f := f) C)
    rw [if_pos hn] at q
    exact q
  · exact r_roomO (by decide) (by decide)
  · exact r_roomO (by decide) (by decide)
  · exact r_roomO (by decide) (by decide)
theorem r_room_b {i : Nat} (C : zHc Z 26 n m) (hr : rRm n m i) : cal (d + 1) 3013 [.ref 25, .int (nI i)] (sR Z N p f) = some (some (.int 0), sR Z N p f) := by
  rcases hr with ⟨rfl, hm⟩ | ⟨rfl, hn⟩
  · have q := r_roomW (d := d) (zHc_sR (N := N) (p := p) (f := f) C)
    rw [if_neg hm] at q
    exact q
  · have q := r_roomT (d := d) (zHc_sR (N := N) (p := p) (f := f) C)
    rw [if_neg hn] at q
    exact q
theorem rStr_len {i : Nat} (hi : i < 5) : (rStr (2000 + i)).length < 8 := by
  have hs : 2000 + i = 2000 ∨ 2000 + i = 2001 ∨ 2000 + i = 2002 ∨ 2000 + i = 2003 ∨ 2000 + i = 2004 := by omega
  have := rStr_ok hs
  omega
theorem r_item (X : rTx Z h z L) (C : zHc Z 26 n m) (hp : p < 800) : cal (d + 6) 3005 [.ref 25, .ref h] (sR Z N p f) = if (rItm L n m p N).1 = true then some (some (.int 1), sR (rTl Z n m (rBy (L p)).toNatClampNeg (rItm L n m p N).2.2.2) (rItm L n m p N).2.2.2 (rItm L n m p N).2.1 f) else some (some (.int 0), sR Z (rItm L n m p N).2.2.2 (rItm L n m p N).2.1 (nI (rItm L n m p N).2.2.1)) := by
  have th := (zSs_f X.1).1
  have r1 := r_int (d := d + 4) (rTx_sR (N := N) (p := p) (f := f) X) (p := p) (by omega)
  have b1 := r_itemBy (d := d + 4) (w := sR Z N p f) (x := L p)
  have ef : (false = true) = False := eq_false (fun h => by cases h)
  have e10 : ((1 : Int32) = 0) = False := eq_false (by decide)
  unfold rItm
  rcases rBy_c (L p) with hb | ⟨i, hi, hb⟩
  · rw [if_pos hb]
    rw [hb] at b1
    simp only [c_3005, e_3005_0, e_3005_1, e_3005_2, e_3005_5, e_3005_8, e_3005_11, e_3005_12, e_3005_13, e_3005_14, e_3005_17, e_3005_18, e_3005_19, e_3005_22, e_3005_25, e_3005_26, e_3005_27, e_3005_30, e_3005_31, e_3005_32, e_3005_33, e_3005_34, e_3005_37, e_3005_40, e_3005_43, e_3005_44, e_3005_45, e_3005_46, e_3005_47, e_3005_50, e_3005_53, e_3005_54, e_3005_55, e_3005_58, e_3005_59, e_3005_60, e_3005_64, e_3005_67, e_3005_68, e_3005_71, e_3005_74, e_3005_75, e_3005_76, e_3005_78, e_3005_81, e_3005_84, e_3005_85, e_3005_86, e_3005_87, e_3005_89, e_3005_92, e_3005_95, e_3005_96, e_3005_97, e_3005_100, e_3005_104, e_3005_105, e_3005_108, e_3005_109, zk_int, zk_ref, zk_null, zk_none, zk_long, zisR_r, zisR_n, zcl_int, zcl_ref, zcl_null, zpush_s, zpush_n, zbs, zbn, true_or, or_true, not_false_eq_true, not_true_eq_false, ↓reduceIte, and_self, and_true, true_and, zt_25, th, sR_p, r1, b1, ef, r_faultAt]
  · have hb1 : ¬ rBy (L p) = -1 := by
      rw [hb]
      rcases (by omega : i = 0 ∨ i = 1 ∨ i = 2 ∨ i = 3 ∨ i = 4) with rfl | rfl | rfl | rfl | rfl <;> decide
    rw [if_neg hb1]
    rw [hb] at b1 hb1 ⊢
    have hc : (nI i).toNatClampNeg = i := nI_clamp (by omega)
    rw [hc]
    have hs : 2000 + i = 2000 ∨ 2000 + i = 2001 ∨ 2000 + i = 2002 ∨ 2000 + i = 2003 ∨ 2000 + i = 2004 := by omega
    have w1 := r_wordOf (d := d + 5) (w := sR Z N p f) hi
    have w2 := r_readWord (d := d + 2) (N := N) (p := p) (f := f) X hs (by omega)
    have wb := rWrd_b L (rStr (2000 + i)) p
    have wl := rStr_len hi
    by_cases hw : (rWrd L (rStr (2000 + i)) p).1 = true
    · rw [if_pos hw] at w2 ⊢
      by_cases hr : (i = 0 ∧ ¬ m < 4) ∨ (i = 1 ∧ ¬ n < 8)
      · rw [if_pos hr]
        have rb := r_room_b (d := d + 4) (N := N) (p := (rWrd L (rStr (2000 + i)) p).2) (f := f) C hr
        simp only [c_3005, e_3005_0, e_3005_1, e_3005_2, e_3005_5, e_3005_8, e_3005_11, e_3005_12, e_3005_13, e_3005_14, e_3005_17, e_3005_18, e_3005_19, e_3005_22, e_3005_25, e_3005_26, e_3005_27, e_3005_30, e_3005_31, e_3005_32, e_3005_33, e_3005_34, e_3005_37, e_3005_40, e_3005_43, e_3005_44, e_3005_45, e_3005_46, e_3005_47, e_3005_50, e_3005_53, e_3005_54, e_3005_55, e_3005_58, e_3005_59, e_3005_60, e_3005_64, e_3005_67, e_3005_68, e_3005_71, e_3005_74, e_3005_75, e_3005_76, e_3005_78, e_3005_81, e_3005_84, e_3005_85, e_3005_86, e_3005_87, e_3005_89, e_3005_92, e_3005_95, e_3005_96, e_3005_97, e_3005_100, e_3005_104, e_3005_105, e_3005_108, e_3005_109, zk_int, zk_ref, zk_null, zk_none, zk_long, zisR_r, zisR_n, zcl_int, zcl_ref, zcl_null, zpush_s, zpush_n, zbs, zbn, true_or, or_true, not_false_eq_true, not_true_eq_false, ↓reduceIte, and_self, and_true, true_and, zt_25, th, sR_p, r1, b1, hb1, w1, w2, rb, ef, e10, r_faultAt]
      · rw [if_neg hr]
        have rb := r_room (d := d + 4) (N := N) (p := (rWrd L (rStr (2000 + i)) p).2) (f := f) C hi hr
        have h5 := rCnt_5 (i := i)
        have ns := r_ns (d := d + 2) (f := f) (x3 := nI p) X C hi (rCnt i) 0 (rWrd L (rStr (2000 + i)) p).2 N (by omega) (by omega)
        have ok := rNs_ok (L := L) (m := m) (i := i) (rCnt i) 0 (rWrd L (rStr (2000 + i)) p).2 N
        generalize rNs L m i (rCnt i) 0 (rWrd L (rStr (2000 + i)) p).2 N = R at *
        have e0 : nI 0 = 0 := nI_0
        rw [e0] at ns
        by_cases ho : R.1 = true
        · rw [if_pos ho] at ns ⊢
          have ok2 := ok ho (fun k hk => absurd hk (Nat.not_lt_zero k))
          rw [Nat.zero_add] at ok2
          have te := r_tell (d := d) (N := R.2.2.2) (p := R.2.1) (f := f) C hi hr ok2
          simp only [c_3005, e_3005_0, e_3005_1, e_3005_2, e_3005_5, e_3005_8, e_3005_11, e_3005_12, e_3005_13, e_3005_14, e_3005_17, e_3005_18, e_3005_19, e_3005_22, e_3005_25, e_3005_26, e_3005_27, e_3005_30, e_3005_31, e_3005_32, e_3005_33, e_3005_34, e_3005_37, e_3005_40, e_3005_43, e_3005_44, e_3005_45, e_3005_46, e_3005_47, e_3005_50, e_3005_53, e_3005_54, e_3005_55, e_3005_58, e_3005_59, e_3005_60, e_3005_64, e_3005_67, e_3005_68, e_3005_71, e_3005_74, e_3005_75, e_3005_76, e_3005_78, e_3005_81, e_3005_84, e_3005_85, e_3005_86, e_3005_87, e_3005_89, e_3005_92, e_3005_95, e_3005_96, e_3005_97, e_3005_100, e_3005_104, e_3005_105, e_3005_108, e_3005_109, zk_int, zk_ref, zk_null, zk_none, zk_long, zisR_r, zisR_n, zcl_int, zcl_ref, zcl_null, zpush_s, zpush_n, zbs, zbn, true_or, or_true, not_false_eq_true, not_true_eq_false, ↓reduceIte, and_self, and_true, true_and, zt_25, th, sR_p, r1, b1, hb1, w1, w2, rb, e10, ns]
          simp only [e_3005_103, e_3005_104, e_3005_105, e_3005_108, e_3005_109, zk_int, zk_ref, zk_null, zk_none, zk_long, zisR_r, zisR_n, zcl_int, zcl_ref, zcl_null, zpush_s, zpush_n, zbs, zbn, true_or, or_true, not_false_eq_true, not_true_eq_false, ↓reduceIte, and_self, and_true, true_and, zt_25, te]
        · rw [if_neg ho] at ns ⊢
          simp only [c_3005, e_3005_0, e_3005_1, e_3005_2, e_3005_5, e_3005_8, e_3005_11, e_3005_12, e_3005_13, e_3005_14, e_3005_17, e_3005_18, e_3005_19, e_3005_22, e_3005_25, e_3005_26, e_3005_27, e_3005_30, e_3005_31, e_3005_32, e_3005_33, e_3005_34, e_3005_37, e_3005_40, e_3005_43, e_3005_44, e_3005_45, e_3005_46, e_3005_47, e_3005_50, e_3005_53, e_3005_54, e_3005_55, e_3005_58, e_3005_59, e_3005_60, e_3005_64, e_3005_67, e_3005_68, e_3005_71, e_3005_74, e_3005_75, e_3005_76, e_3005_78, e_3005_81, e_3005_84, e_3005_85, e_3005_86, e_3005_87, e_3005_89, e_3005_92, e_3005_95, e_3005_96, e_3005_97, e_3005_100, e_3005_104, e_3005_105, e_3005_108, e_3005_109, zk_int, zk_ref, zk_null, zk_none, zk_long, zisR_r, zisR_n, zcl_int, zcl_ref, zcl_null, zpush_s, zpush_n, zbs, zbn, true_or, or_true, not_false_eq_true, not_true_eq_false, ↓reduceIte, and_self, and_true, true_and, zt_25, th, sR_p, r1, b1, hb1, w1, w2, rb, e10, ns]
    · rw [if_neg hw] at w2 ⊢
      simp only [c_3005, e_3005_0, e_3005_1, e_3005_2, e_3005_5, e_3005_8, e_3005_11, e_3005_12, e_3005_13, e_3005_14, e_3005_17, e_3005_18, e_3005_19, e_3005_22, e_3005_25, e_3005_26, e_3005_27, e_3005_30, e_3005_31, e_3005_32, e_3005_33, e_3005_34, e_3005_37, e_3005_40, e_3005_43, e_3005_44, e_3005_45, e_3005_46, e_3005_47, e_3005_50, e_3005_53, e_3005_54, e_3005_55, e_3005_58, e_3005_59, e_3005_60, e_3005_64, e_3005_67, e_3005_68, e_3005_71, e_3005_74, e_3005_75, e_3005_76, e_3005_78, e_3005_81, e_3005_84, e_3005_85, e_3005_86, e_3005_87, e_3005_89, e_3005_92, e_3005_95, e_3005_96, e_3005_97, e_3005_100, e_3005_104, e_3005_105, e_3005_108, e_3005_109, zk_int, zk_ref, zk_null, zk_none, zk_long, zisR_r, zisR_n, zcl_int, zcl_ref, zcl_null, zpush_s, zpush_n, zbs, zbn, true_or, or_true, not_false_eq_true, not_true_eq_false, ↓reduceIte, and_self, and_true, true_and, zt_25, th, sR_p, r1, b1, hb1, w1, w2, ef]
end RT
