section RQ
variable {d h z : Nat} {Z : zM} {L : Nat → Int32} {f : Int32}
theorem r_read_l {x2 : Nat} (X : rTx Z h z L) : ∀ r k p H N, z < r + p → k ≤ p → p ≤ z → k < 160 → H.1 ≤ 8 → H.2.1 ≤ 4 → den (d + 7) 3003 23 [some (.ref 25), some (.ref h), some (.ref x2), some (.int (nI k)), some (.int 1)] [] (sR (wD Z H) N p f) = if (rRd L z r k p H N).1 = true then some (some (.int (nI (rRd L z r k p H N).2.1)), sR (wD Z (rRd L z r k p H N).2.2.2.2.1) (rRd L z r k p H N).2.2.2.2.2 (rRd L z r k p H N).2.2.1 f) else some (some (.int (-1)), sR (wD Z (rRd L z r k p H N).2.2.2.2.1) (rRd L z r k p H N).2.2.2.2.2 (rRd L z r k p H N).2.2.1 (nI (rRd L z r k p H N).2.2.2.1)) := by
  have th := (zSs_f X.1).1
  have hz := X.2.2.1
  have e10 : ((1 : Int32) = 0) = False := eq_false (by decide)
  have ef : (false = true) = False := eq_false (fun h => by cases h)
  intro r
  induction r with
  | zero =>
    intro k p H N h1 h2 h3
    omega
  | succ r ih =>
    intro k p H N h1 h2 h3 hk hn hm
    have l1 : ((160 : Int32) ≤ nI k) = False := nI_ge_f (a := k) (b := 160) hk (by omega)
    have it := r_item (d := d) (N := N) (p := p) (f := f) (wD_X (H := H) X) (wD_C hn hm) (by omega)
    rw [rTl_wD] at it
    have io := rItm_ok (L := L) (p := p) (N := N) hn hm
    have e : rRd L z (r + 1) k p H N = if (rItm L H.1 H.2.1 p N).1 = true then (if (rItm L H.1 H.2.1 p N).2.1 < z then (if L (rItm L H.1 H.2.1 p N).2.1 = 59 then rRd L z r (k + 1) ((rItm L H.1 H.2.1 p N).2.1 + 1) (rTh H (rIx L p) (rItm L H.1 H.2.1 p N).2.2.2) (rItm L H.1 H.2.1 p N).2.2.2 else (false, k + 1, (rItm L H.1 H.2.1 p N).2.1, (rItm L H.1 H.2.1 p N).2.1, rTh H (rIx L p) (rItm L H.1 H.2.1 p N).2.2.2, (rItm L H.1 H.2.1 p N).2.2.2)) else (true, k + 1, (rItm L H.1 H.2.1 p N).2.1, 0, rTh H (rIx L p) (rItm L H.1 H.2.1 p N).2.2.2, (rItm L H.1 H.2.1 p N).2.2.2)) else (false, k, (rItm L H.1 H.2.1 p N).2.1, (rItm L H.1 H.2.1 p N).2.2.1, H, (rItm L H.1 H.2.1 p N).2.2.2) := rfl
    rw [e]
    have ei : (rBy (L p)).toNatClampNeg = rIx L p := rfl
    rw [ei] at it
    generalize rItm L H.1 H.2.1 p N = R at *
    by_cases ho : R.1 = true
    · rw [if_pos ho] at it ⊢
      obtain ⟨o1, o2, o3⟩ := io ho
      have o4 := o3 R.2.2.2
      generalize rTh H (rIx L p) R.2.2.2 = H2 at *
      have sp := r_spans (d := d + 6) (p := R.2.1) (rTx_sR (N := R.2.2.2) (p := R.2.1) (f := f) (wD_X (H := H2) X)) (by omega)
      by_cases hz2 : R.2.1 < z
      · rw [if_pos hz2] at sp ⊢
        have sg := r_sign (d := d + 4) (N := R.2.2.2) (p := R.2.1) (f := f) (c := 59) (wD_X (H := H2) X) (by omega)
        by_cases hs : L R.2.1 = 59
        · rw [if_pos hs] at sg ⊢
          rw [e_3003_23]
          simp only [c_3003, e_3003_0, e_3003_1, e_3003_4, e_3003_5, e_3003_8, e_3003_9, e_3003_10, e_3003_13, e_3003_14, e_3003_15, e_3003_18, e_3003_19, e_3003_20, e_3003_21, e_3003_25, e_3003_28, e_3003_29, e_3003_32, e_3003_35, e_3003_36, e_3003_37, e_3003_40, e_3003_43, e_3003_44, e_3003_45, e_3003_48, e_3003_49, e_3003_50, e_3003_53, e_3003_54, e_3003_57, e_3003_59, e_3003_61, e_3003_64, e_3003_65, e_3003_66, e_3003_68, e_3003_71, e_3003_74, e_3003_75, e_3003_76, e_3003_77, zk_int, zk_ref, zk_null, zk_none, zk_long, zisR_r, zisR_n, zcl_int, zcl_ref, zcl_null, zpush_s, zpush_n, zbs, zbn, true_or, or_true, not_false_eq_true, not_true_eq_false, ↓reduceIte, and_self, and_true, true_and, zt_25, th, sR_p, l1, it, sp, sg, e10, nI_1]
          exact ih (k + 1) (R.2.1 + 1) H2 R.2.2.2 (by omega) (by omega) (by omega) (by omega) o4.1 o4.2
        · rw [if_neg hs] at sg ⊢
          rw [e_3003_23]
          simp only [c_3003, e_3003_0, e_3003_1, e_3003_4, e_3003_5, e_3003_8, e_3003_9, e_3003_10, e_3003_13, e_3003_14, e_3003_15, e_3003_18, e_3003_19, e_3003_20, e_3003_21, e_3003_25, e_3003_28, e_3003_29, e_3003_32, e_3003_35, e_3003_36, e_3003_37, e_3003_40, e_3003_43, e_3003_44, e_3003_45, e_3003_48, e_3003_49, e_3003_50, e_3003_53, e_3003_54, e_3003_57, e_3003_59, e_3003_61, e_3003_64, e_3003_65, e_3003_66, e_3003_68, e_3003_71, e_3003_74, e_3003_75, e_3003_76, e_3003_77, zk_int, zk_ref, zk_null, zk_none, zk_long, zisR_r, zisR_n, zcl_int, zcl_ref, zcl_null, zpush_s, zpush_n, zbs, zbn, true_or, or_true, not_false_eq_true, not_true_eq_false, ↓reduceIte, and_self, and_true, true_and, zt_25, th, sR_p, l1, it, sp, sg, e10, nI_1, ef]
      · rw [if_neg hz2] at sp ⊢
        rw [e_3003_23]
        simp only [c_3003, e_3003_0, e_3003_1, e_3003_4, e_3003_5, e_3003_8, e_3003_9, e_3003_10, e_3003_13, e_3003_14, e_3003_15, e_3003_18, e_3003_19, e_3003_20, e_3003_21, e_3003_25, e_3003_28, e_3003_29, e_3003_32, e_3003_35, e_3003_36, e_3003_37, e_3003_40, e_3003_43, e_3003_44, e_3003_45, e_3003_48, e_3003_49, e_3003_50, e_3003_53, e_3003_54, e_3003_57, e_3003_59, e_3003_61, e_3003_64, e_3003_65, e_3003_66, e_3003_68, e_3003_71, e_3003_74, e_3003_75, e_3003_76, e_3003_77, zk_int, zk_ref, zk_null, zk_none, zk_long, zisR_r, zisR_n, zcl_int, zcl_ref, zcl_null, zpush_s, zpush_n, zbs, zbn, true_or, or_true, not_false_eq_true, not_true_eq_false, ↓reduceIte, and_self, and_true, true_and, zt_25, th, sR_p, l1, it, sp, e10, nI_1]
        rw [e_3003_23]
        simp only [c_3003, e_3003_0, e_3003_1, e_3003_4, e_3003_5, e_3003_8, e_3003_9, e_3003_10, e_3003_13, e_3003_14, e_3003_15, e_3003_18, e_3003_19, e_3003_20, e_3003_21, e_3003_25, e_3003_28, e_3003_29, e_3003_32, e_3003_35, e_3003_36, e_3003_37, e_3003_40, e_3003_43, e_3003_44, e_3003_45, e_3003_48, e_3003_49, e_3003_50, e_3003_53, e_3003_54, e_3003_57, e_3003_59, e_3003_61, e_3003_64, e_3003_65, e_3003_66, e_3003_68, e_3003_71, e_3003_74, e_3003_75, e_3003_76, e_3003_77, zk_int, zk_ref, zk_null, zk_none, zk_long, zisR_r, zisR_n, zcl_int, zcl_ref, zcl_null, zpush_s, zpush_n, zbs, zbn, true_or, or_true, not_false_eq_true, not_true_eq_false, ↓reduceIte, and_self, and_true, true_and]
    · rw [if_neg ho] at it ⊢
      rw [e_3003_23]
      simp only [c_3003, e_3003_0, e_3003_1, e_3003_4, e_3003_5, e_3003_8, e_3003_9, e_3003_10, e_3003_13, e_3003_14, e_3003_15, e_3003_18, e_3003_19, e_3003_20, e_3003_21, e_3003_25, e_3003_28, e_3003_29, e_3003_32, e_3003_35, e_3003_36, e_3003_37, e_3003_40, e_3003_43, e_3003_44, e_3003_45, e_3003_48, e_3003_49, e_3003_50, e_3003_53, e_3003_54, e_3003_57, e_3003_59, e_3003_61, e_3003_64, e_3003_65, e_3003_66, e_3003_68, e_3003_71, e_3003_74, e_3003_75, e_3003_76, e_3003_77, zk_int, zk_ref, zk_null, zk_none, zk_long, zisR_r, zisR_n, zcl_int, zcl_ref, zcl_null, zpush_s, zpush_n, zbs, zbn, true_or, or_true, not_false_eq_true, not_true_eq_false, ↓reduceIte, and_self, and_true, true_and, zt_25, th, sR_p, l1, it, e10, ef]
end RQ
