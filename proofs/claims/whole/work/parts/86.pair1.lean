def efOf (V : Nat → Int32) (m : Nat) : Nat → Nat := fun j => if j < m then (V (6 * j + 1)).toNatClampNeg else 0
theorem bt_nI {x : Int32} {b : Nat} (h : zBt x 0 b) : ∃ k, k ≤ b ∧ x = nI k := by
  obtain ⟨h0, h1⟩ := h
  have h2 := Int32.toInt_lt x
  refine ⟨x.toInt.toNat, by omega, ?_⟩
  rw [ti_eq, nI_toInt (by omega)]
  omega
section PC
variable {d n m : Nat} {w : zM} {S : Nat → Int32} {L : Int32}
theorem ef_ok (A : zRl w S L n m) : (∀ j, efOf (w.1 3) m j < 4) ∧ ∀ j, j < m → w.1 3 (6 * j + 1) = nI (efOf (w.1 3) m j) := by
  have R := (rl_M A).2.2
  constructor
  · intro j
    unfold efOf
    by_cases h : j < m
    · rw [if_pos h]
      obtain ⟨k, h1, h2⟩ := bt_nI (b := 3) (R.2.1 j h).2.1
      rw [h2, nI_clamp (by omega)]
      omega
    · rw [if_neg h]; decide
  · intro j h
    unfold efOf
    rw [if_pos h]
    obtain ⟨k, h1, h2⟩ := bt_nI (b := 3) (R.2.1 j h).2.1
    rw [h2, nI_clamp (by omega)]
def sR0 (w : zM) (m : Nat) : Nat := rowOf (efOf (w.1 3) m) m
theorem p_RE (A : zRl w S L n m) : ∃ W', cal (d + 6) 2003 [.ref 13, .ref 1] w = some (none, W') ∧ zKp w W' ∧ zGw W' m (sGN (w.1 2) (w.1 3) (w.1 4) n m) ∧ W'.1 13 2 = nI (sR0 w m) ∧ sR0 w m < 4 ^ m ∧ ∀ v, v < m → W'.1 58 v = dg m (sR0 w m) v := by
  obtain ⟨h4, hef⟩ := ef_ok A
  have hm := rl_m A
  have hz := rl_z1 A
  obtain ⟨W', h1, g, e, gv, h2, h3⟩ := q_reckonEfforts (d := d) hz (rl_z14 A) (rl_Tc A) (rl_C A) (efOf (w.1 3) m) hef
  have kp : zKp w W' := by
    rw [h2]
    have k1 : zKp w (zuA (zuA w 13 (upd (w.1 13) 2 (nI (rowOf (efOf (w.1 3) m) m)))) 19 g) := zKp_t (zKp_A (a := 13) (by unfold zKa; omega) (by omega) (by omega) (by omega)) (zKp_A (a := 19) (by unfold zKa; omega) (by omega) (by omega) (by omega))
    refine zKp_t k1 (zKp_O (fun _ => ⟨hz.1, fun k hk => ?_, hz.2.2.1, hz.2.2.2⟩))
    unfold sSe
    rw [if_neg (by omega)]
    exact hz.2.1 k hk
  refine ⟨W', h1, kp, ⟨?_, hm, ?_⟩, ?_, rowOf_lt h4 m, fun v hv => ?_⟩
  · rw [h2, zO_14]; exact (rl_C A).2.2.2.1
  · intro r y hr hy
    rw [h2, zO_n _ _ _ _ _ _ (by decide), zA_s]
    exact h3 r y hr hy
  · rw [h2, zO_n _ _ _ _ _ _ (by decide), zA_n _ _ (by decide), zA_s, u_eq]
    rfl
  · rw [kp.1 58 (by unfold zKa; omega)]
    rw [((rl_M A).1.2.1 v (by omega)).2.1, hef v hv]
    unfold dg sR0
    rw [rowOf_dig h4 m v hv]
theorem yE_id {m r : Nat} (h : ∀ v, v < m → w.1 58 v = dg m r v) : yE w m r = w := by
  have e : zcpy (dg m r) (w.1 58) m = w.1 58 := by
    funext k
    unfold zcpy
    by_cases hk : k < m
    · rw [if_pos hk]; exact (h k hk).symm
    · rw [if_neg hk]
  unfold yE
  rw [e, zA_id]
theorem kp_Xr {r : Int32} {X : zM} : zKp X (Xr X r) := zKp_A (a := 13) (by unfold zKa; omega) (by omega) (by omega) (by omega)
theorem p_reply {x : Int32} (A : zRl w S L n m) : zPr d 5023 6059 [.int x] w S L := by
  have C := rl_C A
  have M := rl_M A
  have hm := rl_m A
  rcases ix_c x (by omega : m < 1000) with hx | ⟨y, hy, rfl⟩
  · have q1 := m_isWaiter_o (d := d + 39) (zMc_f (j := 1) M).2.1 hx
    have q2 := m_no (d := d + 39) (w := fRf w 1) (j := 1) (c := -1) (by decide) (by decide)
    refine pr_f A (by decide) (f_reply_o (d := d + 37) C hx) (zKp_r _) ?_ (zKp_r _)
    simp only [c_6059, e_6059_0, e_6059_1, e_6059_2, e_6059_5, e_6059_8, e_6059_9, e_6059_10, e_6059_13, e_6059_16, e_6059_17, e_6059_18, e_6059_21, zk_int, zk_ref, zk_null, zk_none, zk_long, zisR_r, zisR_n, zcl_int, zcl_ref, zcl_null, zpush_s, zpush_n, zbs, zbn, true_or, or_true, not_false_eq_true, not_true_eq_false, ↓reduceIte, and_self, and_true, true_and, zt_50, q1, q2]
  · obtain ⟨W', h1, kp, hg, h13, hr, h58⟩ := p_RE (d := d + 33) A
    have a := q_hasWaiter (d := d + 39) C hy
    have b := g_replyNow (d := d + 34) hg h13 hy hr
    have hc : cal (d + 40) 5023 [.ref 0, .int (nI y)] w = some (some (.int (nI (sRep (sGN (w.1 2) (w.1 3) (w.1 4) n m) m (sR0 w m) y))), W') := by
      simp only [c_5023, e_5023_0, e_5023_1, e_5023_4, e_5023_5, e_5023_8, e_5023_11, e_5023_12, e_5023_13, e_5023_16, e_5023_17, e_5023_18, e_5023_21, e_5023_22, e_5023_25, e_5023_28, e_5023_29, e_5023_32, e_5023_33, e_5023_36, zk_int, zk_ref, zk_null, zk_none, zk_long, zisR_r, zisR_n, zcl_int, zcl_ref, zcl_null, zpush_s, zpush_n, zbs, zbn, true_or, or_true, not_false_eq_true, not_true_eq_false, ↓reduceIte, and_self, and_true, true_and, zt_0, zr_0_0, zt_1, zr_0_3, zt_13, a, h1, b, ie_0_1, ie_0_2, ie_0_3, ie_0_4, ie_0_5, ie_0_6, ie_0_7, ie_1_0, ie_1_2, ie_1_3, ie_1_4, ie_1_5, ie_1_6, ie_1_7, ie_2_0, ie_2_1, ie_2_3, ie_2_4, ie_2_5, ie_2_6, ie_2_7, ie_3_0, ie_3_1, ie_3_2, ie_3_4, ie_3_5, ie_3_6, ie_3_7, ie_4_0, ie_4_1, ie_4_2, ie_4_3, ie_4_5, ie_4_6, ie_4_7, ie_5_0, ie_5_1, ie_5_2, ie_5_3, ie_5_4, ie_5_6, ie_5_7, ie_6_0, ie_6_1, ie_6_2, ie_6_3, ie_6_4, ie_6_5, ie_6_7, ie_7_0, ie_7_1, ie_7_2, ie_7_3, ie_7_4, ie_7_5, ie_7_6]
    have M1 := zMc_kp kp M
    have q1 := m_isWaiter (d := d + 39) M1.2.1 hy
    have q2 := y_replyOf (d := d + 17) (r := sR0 w m) M1 hy hr
    rw [yE_id h58] at q2
    refine pr_k A hc kp ?_ (zKp_r _)
    simp only [c_6059, e_6059_0, e_6059_1, e_6059_2, e_6059_5, e_6059_8, e_6059_9, e_6059_10, e_6059_13, e_6059_16, e_6059_17, e_6059_18, e_6059_21, zk_int, zk_ref, zk_null, zk_none, zk_long, zisR_r, zisR_n, zcl_int, zcl_ref, zcl_null, zpush_s, zpush_n, zbs, zbn, true_or, or_true, not_false_eq_true, not_true_eq_false, ↓reduceIte, and_self, and_true, true_and, zt_50, q1, q2, ie_0_1, ie_0_2, ie_0_3, ie_0_4, ie_0_5, ie_0_6, ie_0_7, ie_1_0, ie_1_2, ie_1_3, ie_1_4, ie_1_5, ie_1_6, ie_1_7, ie_2_0, ie_2_1, ie_2_3, ie_2_4, ie_2_5, ie_2_6, ie_2_7, ie_3_0, ie_3_1, ie_3_2, ie_3_4, ie_3_5, ie_3_6, ie_3_7, ie_4_0, ie_4_1, ie_4_2, ie_4_3, ie_4_5, ie_4_6, ie_4_7, ie_5_0, ie_5_1, ie_5_2, ie_5_3, ie_5_4, ie_5_6, ie_5_7, ie_6_0, ie_6_1, ie_6_2, ie_6_3, ie_6_4, ie_6_5, ie_6_7, ie_7_0, ie_7_1, ie_7_2, ie_7_3, ie_7_4, ie_7_5, ie_7_6]
theorem p_best {x : Int32} (A : zRl w S L n m) : zPr d 5026 6066 [.int x] w S L := by
  have C := rl_C A
  have M := rl_M A
  have hm := rl_m A
  rcases ix_c x (by omega : m < 1000) with hx | ⟨y, hy, rfl⟩
  · have q1 := m_isWaiter_o (d := d + 39) (zMc_f (j := 1) M).2.1 hx
    have q2 := m_no (d := d + 39) (w := fRf w 1) (j := 1) (c := -1) (by decide) (by decide)
    refine pr_f A (by decide) (f_best_o (d := d + 37) C hx) (zKp_r _) ?_ (zKp_r _)
    simp only [c_6066, e_6066_0, e_6066_1, e_6066_2, e_6066_5, e_6066_8, e_6066_9, e_6066_10, e_6066_13, e_6066_14, e_6066_15, e_6066_16, e_6066_19, e_6066_20, e_6066_21, e_6066_22, e_6066_24, e_6066_25, e_6066_28, e_6066_31, e_6066_32, e_6066_33, e_6066_36, e_6066_37, e_6066_39, e_6066_40, e_6066_44, e_6066_45, e_6066_48, e_6066_51, e_6066_53, e_6066_54, e_6066_56, e_6066_59, e_6066_60, e_6066_62, e_6066_65, e_6066_68, e_6066_69, e_6066_72, e_6066_74, e_6066_75, e_6066_78, e_6066_81, e_6066_83, e_6066_84, e_6066_85, e_6066_89, e_6066_90, e_6066_93, e_6066_94, e_6066_97, e_6066_99, e_6066_100, e_6066_103, e_6066_105, e_6066_106, e_6066_107, e_6066_110, e_6066_113, e_6066_116, e_6066_119, e_6066_120, e_6066_121, e_6066_124, e_6066_125, e_6066_128, e_6066_129, e_6066_130, zk_int, zk_ref, zk_null, zk_none, zk_long, zisR_r, zisR_n, zcl_int, zcl_ref, zcl_null, zpush_s, zpush_n, zbs, zbn, true_or, or_true, not_false_eq_true, not_true_eq_false, ↓reduceIte, and_self, and_true, true_and, zt_50, q1, q2]
  · obtain ⟨W', h1, kp, hg, h13, hr, h58⟩ := p_RE (d := d + 33) A
    have h256 := (pow_le4 (b := 4) (k := m) (by decide) (by decide) hm).2
    have a := q_hasWaiter (d := d + 39) C hy
    have b := g_findBest (d := d + 36) hg
    have hle := sFB_le (sGN (w.1 2) (w.1 3) (w.1 4) n m) m (4 ^ m - 1)
    have c := g_effortFound (d := d + 36) (zGw_r (r := nI (sFB (sGN (w.1 2) (w.1 3) (w.1 4) n m) m (4 ^ m - 1))) hg) (Xr_3 _ _) hy (by omega)
    have hc : cal (d + 40) 5026 [.ref 0, .int (nI y)] w = some (some (.int (nI (dig 4 m (sFB (sGN (w.1 2) (w.1 3) (w.1 4) n m) m (4 ^ m - 1)) y))), Xr W' (nI (sFB (sGN (w.1 2) (w.1 3) (w.1 4) n m) m (4 ^ m - 1)))) := by
      simp only [c_5026, e_5026_0, e_5026_1, e_5026_4, e_5026_5, e_5026_8, e_5026_11, e_5026_12, e_5026_13, e_5026_16, e_5026_17, e_5026_18, e_5026_21, e_5026_22, e_5026_25, e_5026_28, e_5026_29, e_5026_32, e_5026_35, e_5026_36, e_5026_39, e_5026_40, e_5026_43, zk_int, zk_ref, zk_null, zk_none, zk_long, zisR_r, zisR_n, zcl_int, zcl_ref, zcl_null, zpush_s, zpush_n, zbs, zbn, true_or, or_true, not_false_eq_true, not_true_eq_false, ↓reduceIte, and_self, and_true, true_and, zt_0, zr_0_0, zt_1, zr_0_3, zt_13, a, h1, b, c, ie_0_1, ie_0_2, ie_0_3, ie_0_4, ie_0_5, ie_0_6, ie_0_7, ie_1_0, ie_1_2, ie_1_3, ie_1_4, ie_1_5, ie_1_6, ie_1_7, ie_2_0, ie_2_1, ie_2_3, ie_2_4, ie_2_5, ie_2_6, ie_2_7, ie_3_0, ie_3_1, ie_3_2, ie_3_4, ie_3_5, ie_3_6, ie_3_7, ie_4_0, ie_4_1, ie_4_2, ie_4_3, ie_4_5, ie_4_6, ie_4_7, ie_5_0, ie_5_1, ie_5_2, ie_5_3, ie_5_4, ie_5_6, ie_5_7, ie_6_0, ie_6_1, ie_6_2, ie_6_3, ie_6_4, ie_6_5, ie_6_7, ie_7_0, ie_7_1, ie_7_2, ie_7_3, ie_7_4, ie_7_5, ie_7_6]
    have k1 := zKp_t kp (kp_Xr (X := W') (r := nI (sFB (sGN (w.1 2) (w.1 3) (w.1 4) n m) m (4 ^ m - 1))))
    obtain ⟨w2, k2, q⟩ := m_best (d := d + 15) (zMc_kp k1 M) hy
    exact pr_k A hc k1 q k2
theorem p_rest {x : Int32} (A : zRl w S L n m) : zPr d 5024 6061 [.int x] w S L := by
  have C := rl_C A
  have M := rl_M A
  have hm := rl_m A
  have h256 := (pow_le4 (b := 4) (k := m) (by decide) (by decide) hm).2
  have run : ∃ W', cal (d + 39) 2003 [.ref 13, .ref 1] w = some (none, W') ∧ zKp w W' ∧ zGw W' m (sGN (w.1 2) (w.1 3) (w.1 4) n m) ∧ W'.1 13 2 = nI (sR0 w m) ∧ sR0 w m < 4 ^ m ∧ ∀ v, v < m → W'.1 58 v = dg m (sR0 w m) v := p_RE (d := d + 33) A
  obtain ⟨W', h1, kp, hg, h13, hr, h58⟩ := run
  have b := g_takeTurns (d := d + 34) hg h13 hr
  have k1 := zKp_t kp (kp_Xr (X := W') (r := nI (sRst (sGN (w.1 2) (w.1 3) (w.1 4) n m) m 30 0 (sR0 w m)).2))
  have e58 : ∀ v, v < m → (Xr W' (nI (sRst (sGN (w.1 2) (w.1 3) (w.1 4) n m) m 30 0 (sR0 w m)).2)).1 58 v = dg m (sR0 w m) v := fun v hv => by
    unfold Xr
    rw [zA_n _ _ (by decide)]
    exact h58 v hv
  by_cases hM : x = -1
  · subst hM
    have hc : cal (d + 40) 5024 [.ref 0, .int (-1)] w = some (some (.int (sRst (sGN (w.1 2) (w.1 3) (w.1 4) n m) m 30 0 (sR0 w m)).1), Xr W' (nI (sRst (sGN (w.1 2) (w.1 3) (w.1 4) n m) m 30 0 (sR0 w m)).2)) := by
      simp only [c_5024, e_5024_0, e_5024_1, e_5024_2, e_5024_5, e_5024_6, e_5024_9, e_5024_10, e_5024_13, e_5024_16, e_5024_17, e_5024_18, e_5024_21, e_5024_23, e_5024_24, e_5024_25, e_5024_26, e_5024_29, e_5024_30, e_5024_33, e_5024_36, e_5024_37, e_5024_40, e_5024_43, e_5024_44, e_5024_45, e_5024_46, e_5024_49, e_5024_50, e_5024_53, e_5024_54, e_5024_57, e_5024_58, e_5024_61, zk_int, zk_ref, zk_null, zk_none, zk_long, zisR_r, zisR_n, zcl_int, zcl_ref, zcl_null, zpush_s, zpush_n, zbs, zbn, true_or, or_true, not_false_eq_true, not_true_eq_false, ↓reduceIte, and_self, and_true, true_and, zt_0, zr_0_0, zt_1, zr_0_3, zt_13, h1, b, ie_0_1, ie_0_2, ie_0_3, ie_0_4, ie_0_5, ie_0_6, ie_0_7, ie_1_0, ie_1_2, ie_1_3, ie_1_4, ie_1_5, ie_1_6, ie_1_7, ie_2_0, ie_2_1, ie_2_3, ie_2_4, ie_2_5, ie_2_6, ie_2_7, ie_3_0, ie_3_1, ie_3_2, ie_3_4, ie_3_5, ie_3_6, ie_3_7, ie_4_0, ie_4_1, ie_4_2, ie_4_3, ie_4_5, ie_4_6, ie_4_7, ie_5_0, ie_5_1, ie_5_2, ie_5_3, ie_5_4, ie_5_6, ie_5_7, ie_6_0, ie_6_1, ie_6_2, ie_6_3, ie_6_4, ie_6_5, ie_6_7, ie_7_0, ie_7_1, ie_7_2, ie_7_3, ie_7_4, ie_7_5, ie_7_6]
    obtain ⟨w2, k2, q⟩ := m_rest_N (d := d + 15) (zMc_kp k1 M) hr e58
    exact pr_k A hc k1 q k2
  · rcases ix_c x (by omega : m < 1000) with hx | ⟨y, hy, rfl⟩
    · have a := q_hasWaiter_o (d := d + 39) C hx
      have r := f_refuse (d := d + 38) (w := w) (c := -1) (j := 1) (by decide) (by decide)
      have hc : cal (d + 40) 5024 [.ref 0, .int x] w = some (some (.int (-1 + -10)), fRf w 1) := by
        simp only [c_5024, e_5024_0, e_5024_1, e_5024_2, e_5024_5, e_5024_6, e_5024_9, e_5024_10, e_5024_13, e_5024_16, e_5024_17, e_5024_18, e_5024_21, e_5024_23, e_5024_24, e_5024_25, e_5024_26, e_5024_29, e_5024_30, e_5024_33, e_5024_36, e_5024_37, e_5024_40, e_5024_43, e_5024_44, e_5024_45, e_5024_46, e_5024_49, e_5024_50, e_5024_53, e_5024_54, e_5024_57, e_5024_58, e_5024_61, zk_int, zk_ref, zk_null, zk_none, zk_long, zisR_r, zisR_n, zcl_int, zcl_ref, zcl_null, zpush_s, zpush_n, zbs, zbn, true_or, or_true, not_false_eq_true, not_true_eq_false, ↓reduceIte, and_self, and_true, true_and, zt_0, zr_0_0, zt_1, hM, a, r]
      have q1 := m_isWaiter_o (d := d + 39) (zMc_f (j := 1) M).2.1 hx
      have q2 := m_noTen (d := d + 39) (w := fRf w 1) (j := 1) (c := -1) (by decide) (by decide)
      refine pr_f A (by decide) hc (zKp_r _) ?_ (zKp_r _)
      simp only [c_6061, e_6061_0, e_6061_1, e_6061_2, e_6061_5, e_6061_6, e_6061_7, e_6061_10, e_6061_13, e_6061_14, e_6061_15, e_6061_18, zk_int, zk_ref, zk_null, zk_none, zk_long, zisR_r, zisR_n, zcl_int, zcl_ref, zcl_null, zpush_s, zpush_n, zbs, zbn, true_or, or_true, not_false_eq_true, not_true_eq_false, ↓reduceIte, and_self, and_true, true_and, zt_50, hM, q1, q2]
      rfl
    · have a := q_hasWaiter (d := d + 39) C hy
      have g1 := nI_neM (y := y) (by omega)
      have hlt := sRst_lt (GN := sGN (w.1 2) (w.1 3) (w.1 4) n m) 30 0 (sR0 w m) hr
      have c := g_effortFound (d := d + 36) (zGw_r (r := nI (sRst (sGN (w.1 2) (w.1 3) (w.1 4) n m) m 30 0 (sR0 w m)).2) hg) (Xr_3 _ _) hy (by omega)
      have hc : cal (d + 40) 5024 [.ref 0, .int (nI y)] w = some (some (.int (nI (dig 4 m (sRst (sGN (w.1 2) (w.1 3) (w.1 4) n m) m 30 0 (sR0 w m)).2 y))), Xr W' (nI (sRst (sGN (w.1 2) (w.1 3) (w.1 4) n m) m 30 0 (sR0 w m)).2)) := by
        simp only [c_5024, e_5024_0, e_5024_1, e_5024_2, e_5024_5, e_5024_6, e_5024_9, e_5024_10, e_5024_13, e_5024_16, e_5024_17, e_5024_18, e_5024_21, e_5024_23, e_5024_24, e_5024_25, e_5024_26, e_5024_29, e_5024_30, e_5024_33, e_5024_36, e_5024_37, e_5024_40, e_5024_43, e_5024_44, e_5024_45, e_5024_46, e_5024_49, e_5024_50, e_5024_53, e_5024_54, e_5024_57, e_5024_58, e_5024_61, zk_int, zk_ref, zk_null, zk_none, zk_long, zisR_r, zisR_n, zcl_int, zcl_ref, zcl_null, zpush_s, zpush_n, zbs, zbn, true_or, or_true, not_false_eq_true, not_true_eq_false, ↓reduceIte, and_self, and_true, true_and, zt_0, zr_0_0, zt_1, zr_0_3, zt_13, a, g1, h1, b, c, ie_0_1, ie_0_2, ie_0_3, ie_0_4, ie_0_5, ie_0_6, ie_0_7, ie_1_0, ie_1_2, ie_1_3, ie_1_4, ie_1_5, ie_1_6, ie_1_7, ie_2_0, ie_2_1, ie_2_3, ie_2_4, ie_2_5, ie_2_6, ie_2_7, ie_3_0, ie_3_1, ie_3_2, ie_3_4, ie_3_5, ie_3_6, ie_3_7, ie_4_0, ie_4_1, ie_4_2, ie_4_3, ie_4_5, ie_4_6, ie_4_7, ie_5_0, ie_5_1, ie_5_2, ie_5_3, ie_5_4, ie_5_6, ie_5_7, ie_6_0, ie_6_1, ie_6_2, ie_6_3, ie_6_4, ie_6_5, ie_6_7, ie_7_0, ie_7_1, ie_7_2, ie_7_3, ie_7_4, ie_7_5, ie_7_6]
      obtain ⟨w2, k2, q⟩ := m_rest_w (d := d + 15) (zMc_kp k1 M) hr e58 hy
      exact pr_k A hc k1 q k2
theorem p_rests {x : Int32} (A : zRl w S L n m) : zPr d 5025 6065 [.int x] w S L := by
  have C := rl_C A
  have M := rl_M A
  have hm := rl_m A
  have h256 := (pow_le4 (b := 4) (k := m) (by decide) (by decide) hm).2
  obtain ⟨W', h1, kp, hg, h13, hr, h58⟩ := p_RE (d := d + 33) A
  have b := g_findRests (d := d + 33) hg
  have k1 := zKp_t kp (kp_Xr (X := W') (r := (sFR (sGN (w.1 2) (w.1 3) (w.1 4) n m) m (W'.1 13 3) (4 ^ m)).2))
  have hle := sFR_le (sGN (w.1 2) (w.1 3) (w.1 4) n m) m (W'.1 13 3) (4 ^ m)
  by_cases hM : x = -1
  · subst hM
    have hc : cal (d + 40) 5025 [.ref 0, .int (-1)] w = some (some (.int (nI (sFR (sGN (w.1 2) (w.1 3) (w.1 4) n m) m (W'.1 13 3) (4 ^ m)).1)), Xr W' (sFR (sGN (w.1 2) (w.1 3) (w.1 4) n m) m (W'.1 13 3) (4 ^ m)).2) := by
      simp only [c_5025, e_5025_0, e_5025_1, e_5025_2, e_5025_5, e_5025_6, e_5025_9, e_5025_10, e_5025_13, e_5025_16, e_5025_17, e_5025_18, e_5025_21, e_5025_22, e_5025_23, e_5025_26, e_5025_27, e_5025_30, e_5025_33, e_5025_34, e_5025_37, e_5025_40, e_5025_41, e_5025_42, e_5025_43, e_5025_46, e_5025_47, e_5025_48, e_5025_49, e_5025_52, e_5025_53, e_5025_55, e_5025_58, e_5025_61, e_5025_62, e_5025_65, e_5025_66, e_5025_69, zk_int, zk_ref, zk_null, zk_none, zk_long, zisR_r, zisR_n, zcl_int, zcl_ref, zcl_null, zpush_s, zpush_n, zbs, zbn, true_or, or_true, not_false_eq_true, not_true_eq_false, ↓reduceIte, and_self, and_true, true_and, zt_0, zr_0_0, zt_1, zr_0_3, zt_13, h1, b, ie_0_1, ie_0_2, ie_0_3, ie_0_4, ie_0_5, ie_0_6, ie_0_7, ie_1_0, ie_1_2, ie_1_3, ie_1_4, ie_1_5, ie_1_6, ie_1_7, ie_2_0, ie_2_1, ie_2_3, ie_2_4, ie_2_5, ie_2_6, ie_2_7, ie_3_0, ie_3_1, ie_3_2, ie_3_4, ie_3_5, ie_3_6, ie_3_7, ie_4_0, ie_4_1, ie_4_2, ie_4_3, ie_4_5, ie_4_6, ie_4_7, ie_5_0, ie_5_1, ie_5_2, ie_5_3, ie_5_4, ie_5_6, ie_5_7, ie_6_0, ie_6_1, ie_6_2, ie_6_3, ie_6_4, ie_6_5, ie_6_7, ie_7_0, ie_7_1, ie_7_2, ie_7_3, ie_7_4, ie_7_5, ie_7_6]
    obtain ⟨w2, k2, q⟩ := m_rests_N (d := d + 15) (zMc_kp k1 M) (W'.1 13 3)
    exact pr_k A hc k1 q k2
  · rcases ix_c x (by omega : m < 1000) with hx | ⟨y, hy, rfl⟩
    · have a := q_hasWaiter_o (d := d + 39) C hx
      have r := f_refuse (d := d + 38) (w := w) (c := -1) (j := 1) (by decide) (by decide)
      have hc : cal (d + 40) 5025 [.ref 0, .int x] w = some (some (.int (-1)), fRf w 1) := by
        simp only [c_5025, e_5025_0, e_5025_1, e_5025_2, e_5025_5, e_5025_6, e_5025_9, e_5025_10, e_5025_13, e_5025_16, e_5025_17, e_5025_18, e_5025_21, e_5025_22, e_5025_23, e_5025_26, e_5025_27, e_5025_30, e_5025_33, e_5025_34, e_5025_37, e_5025_40, e_5025_41, e_5025_42, e_5025_43, e_5025_46, e_5025_47, e_5025_48, e_5025_49, e_5025_52, e_5025_53, e_5025_55, e_5025_58, e_5025_61, e_5025_62, e_5025_65, e_5025_66, e_5025_69, zk_int, zk_ref, zk_null, zk_none, zk_long, zisR_r, zisR_n, zcl_int, zcl_ref, zcl_null, zpush_s, zpush_n, zbs, zbn, true_or, or_true, not_false_eq_true, not_true_eq_false, ↓reduceIte, and_self, and_true, true_and, zt_0, zr_0_0, zt_1, hM, a, r]
      have q1 := m_isWaiter_o (d := d + 39) (zMc_f (j := 1) M).2.1 hx
      have q2 := m_no (d := d + 39) (w := fRf w 1) (j := 1) (c := -1) (by decide) (by decide)
      refine pr_f A (by decide) hc (zKp_r _) ?_ (zKp_r _)
      simp only [c_6065, e_6065_0, e_6065_1, e_6065_2, e_6065_5, e_6065_6, e_6065_7, e_6065_10, e_6065_13, e_6065_14, e_6065_15, e_6065_18, zk_int, zk_ref, zk_null, zk_none, zk_long, zisR_r, zisR_n, zcl_int, zcl_ref, zcl_null, zpush_s, zpush_n, zbs, zbn, true_or, or_true, not_false_eq_true, not_true_eq_false, ↓reduceIte, and_self, and_true, true_and, zt_50, hM, q1, q2]
    · have a := q_hasWaiter (d := d + 39) C hy
      have g1 := nI_neM (y := y) (by omega)
      by_cases h0 : (sFR (sGN (w.1 2) (w.1 3) (w.1 4) n m) m (W'.1 13 3) (4 ^ m)).1 = 0
      · have r := f_refuse (d := d + 38) (w := Xr W' (sFR (sGN (w.1 2) (w.1 3) (w.1 4) n m) m (W'.1 13 3) (4 ^ m)).2) (c := -5) (j := 5) (by decide) (by decide)
        rw [h0, nI_0] at b
        have hc : cal (d + 40) 5025 [.ref 0, .int (nI y)] w = some (some (.int (-5)), fRf (Xr W' (sFR (sGN (w.1 2) (w.1 3) (w.1 4) n m) m (W'.1 13 3) (4 ^ m)).2) 5) := by
          simp only [c_5025, e_5025_0, e_5025_1, e_5025_2, e_5025_5, e_5025_6, e_5025_9, e_5025_10, e_5025_13, e_5025_16, e_5025_17, e_5025_18, e_5025_21, e_5025_22, e_5025_23, e_5025_26, e_5025_27, e_5025_30, e_5025_33, e_5025_34, e_5025_37, e_5025_40, e_5025_41, e_5025_42, e_5025_43, e_5025_46, e_5025_47, e_5025_48, e_5025_49, e_5025_52, e_5025_53, e_5025_55, e_5025_58, e_5025_61, e_5025_62, e_5025_65, e_5025_66, e_5025_69, zk_int, zk_ref, zk_null, zk_none, zk_long, zisR_r, zisR_n, zcl_int, zcl_ref, zcl_null, zpush_s, zpush_n, zbs, zbn, true_or, or_true, not_false_eq_true, not_true_eq_false, ↓reduceIte, and_self, and_true, true_and, zt_0, zr_0_0, zt_1, zr_0_3, zt_13, a, g1, h1, b, r, ie_0_1, ie_0_2, ie_0_3, ie_0_4, ie_0_5, ie_0_6, ie_0_7, ie_1_0, ie_1_2, ie_1_3, ie_1_4, ie_1_5, ie_1_6, ie_1_7, ie_2_0, ie_2_1, ie_2_3, ie_2_4, ie_2_5, ie_2_6, ie_2_7, ie_3_0, ie_3_1, ie_3_2, ie_3_4, ie_3_5, ie_3_6, ie_3_7, ie_4_0, ie_4_1, ie_4_2, ie_4_3, ie_4_5, ie_4_6, ie_4_7, ie_5_0, ie_5_1, ie_5_2, ie_5_3, ie_5_4, ie_5_6, ie_5_7, ie_6_0, ie_6_1, ie_6_2, ie_6_3, ie_6_4, ie_6_5, ie_6_7, ie_7_0, ie_7_1, ie_7_2, ie_7_3, ie_7_4, ie_7_5, ie_7_6]
        obtain ⟨w2, k2, q⟩ := m_rests_0 (d := d + 15) (zMc_f (j := 5) (zMc_kp k1 M)) hy (W'.1 13 3) h0
        exact pr_f A (by decide) hc k1 q k2
      · have hp : 0 < (sFR (sGN (w.1 2) (w.1 3) (w.1 4) n m) m (W'.1 13 3) (4 ^ m)).1 := by omega
        have hn0 := nI_ne0' hp (by omega)
        obtain ⟨w2, r, k2, hr2, hr3, q⟩ := m_rests_w (d := d + 15) (zMc_kp k1 M) hy (W'.1 13 3) hp
        have c := g_effortFound (d := d + 36) (zGw_r (r := (sFR (sGN (w.1 2) (w.1 3) (w.1 4) n m) m (W'.1 13 3) (4 ^ m)).2) hg) ((Xr_3 _ _).trans hr3) hy (by omega)
        have hc : cal (d + 40) 5025 [.ref 0, .int (nI y)] w = some (some (.int (nI (dig 4 m r y))), Xr W' (sFR (sGN (w.1 2) (w.1 3) (w.1 4) n m) m (W'.1 13 3) (4 ^ m)).2) := by
          simp only [c_5025, e_5025_0, e_5025_1, e_5025_2, e_5025_5, e_5025_6, e_5025_9, e_5025_10, e_5025_13, e_5025_16, e_5025_17, e_5025_18, e_5025_21, e_5025_22, e_5025_23, e_5025_26, e_5025_27, e_5025_30, e_5025_33, e_5025_34, e_5025_37, e_5025_40, e_5025_41, e_5025_42, e_5025_43, e_5025_46, e_5025_47, e_5025_48, e_5025_49, e_5025_52, e_5025_53, e_5025_55, e_5025_58, e_5025_61, e_5025_62, e_5025_65, e_5025_66, e_5025_69, zk_int, zk_ref, zk_null, zk_none, zk_long, zisR_r, zisR_n, zcl_int, zcl_ref, zcl_null, zpush_s, zpush_n, zbs, zbn, true_or, or_true, not_false_eq_true, not_true_eq_false, ↓reduceIte, and_self, and_true, true_and, zt_0, zr_0_0, zt_1, zr_0_3, zt_13, a, g1, h1, b, c, hn0, ie_0_1, ie_0_2, ie_0_3, ie_0_4, ie_0_5, ie_0_6, ie_0_7, ie_1_0, ie_1_2, ie_1_3, ie_1_4, ie_1_5, ie_1_6, ie_1_7, ie_2_0, ie_2_1, ie_2_3, ie_2_4, ie_2_5, ie_2_6, ie_2_7, ie_3_0, ie_3_1, ie_3_2, ie_3_4, ie_3_5, ie_3_6, ie_3_7, ie_4_0, ie_4_1, ie_4_2, ie_4_3, ie_4_5, ie_4_6, ie_4_7, ie_5_0, ie_5_1, ie_5_2, ie_5_3, ie_5_4, ie_5_6, ie_5_7, ie_6_0, ie_6_1, ie_6_2, ie_6_3, ie_6_4, ie_6_5, ie_6_7, ie_7_0, ie_7_1, ie_7_2, ie_7_3, ie_7_4, ie_7_5, ie_7_6]
        exact pr_k A hc k1 q k2
end PC
