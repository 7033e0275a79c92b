section PN
variable {d n m : Nat} {w w1 w2 : zM} {S : Nat → Int32} {L : Int32} {T V G : Nat → Int32}
theorem okS_of {j : Nat} (hn : n ≤ 8) (h : rSj w n j) : okS w j := by
  rcases h with ⟨_, h⟩ | ⟨_, s, z, h1, _, _, h2, _⟩ | ⟨_, t, h1, _, h2⟩
  · exact Or.inl h
  · exact Or.inr (Or.inl ⟨s, h1, h2⟩)
  · exact Or.inr (Or.inr ⟨t, by omega, h2⟩)
theorem p_restore (A : zRl w S L n m) : zPr d 5043 6095 [] w S L := by
  have C := rl_C A
  have M := rl_M A
  have hn8 := rl_n A
  have A' := A
  obtain ⟨a, i, s, f, t, c, o, z⟩ := A
  obtain ⟨i47, i0 | ⟨i1, n2, m2, kt⟩⟩ := i
  · have r := f_refuse (d := d + 38) (w := w) (c := -6) (j := 6) (by decide) (by decide)
    have hc : cal (d + 40) 5043 [.ref 0] w = some (some (.int (-6)), fRf w 6) := by
      simp only [c_5043, e_5043_0, e_5043_1, e_5043_4, e_5043_7, e_5043_8, e_5043_10, e_5043_13, zk_int, zk_ref, zk_null, zk_none, zk_long, zisR_r, zisR_n, zcl_int, zcl_ref, zcl_null, zpush_s, zpush_n, zbs, zbn, true_or, or_true, not_false_eq_true, not_true_eq_false, ↓reduceIte, and_self, and_true, true_and, zt_0, i0, r]
    have r2 := m_no (d := d + 39) (w := fRf w 6) (j := 6) (c := -6) (by decide) (by decide)
    have h47 : (fRf w 6).1 50 47 = 0 := by unfold fRf; rw [zA_n _ _ (by decide), ← i47]; exact i0
    refine pr_f A' (by decide) hc (zKp_r _) ?_ (zKp_r _)
    simp only [c_6095, e_6095_0, e_6095_1, e_6095_4, e_6095_7, e_6095_8, e_6095_10, e_6095_13, zk_int, zk_ref, zk_null, zk_none, zk_long, zisR_r, zisR_n, zcl_int, zcl_ref, zcl_null, zpush_s, zpush_n, zbs, zbn, true_or, or_true, not_false_eq_true, not_true_eq_false, ↓reduceIte, and_self, and_true, true_and, zt_50, h47, r2]
  · obtain ⟨-, -, -, -, -, -, -, -, -, -, -, -, f3, f4, kR, k6⟩ := id kt
    have kn8 : n2 ≤ 8 := kR.2.2.2.2.2.2.2.1
    have km4 : m2 ≤ 4 := kR.2.2.2.2.2.2.2.2
    have b := q_becomeAs (d := d + 38) (w := w) zHs1 zHs6 (by decide)
    rw [sBec_z z.1 z.2.1] at b
    have x1 : (sHs w 1 (w.1 6) (w.1 (6 + 1)) (w.1 (6 + 2)) (w.1 (6 + 3))).1 1 = w.1 6 := sHs_0 _ _ _ _
    have x2 : (sHs w 1 (w.1 6) (w.1 (6 + 1)) (w.1 (6 + 2)) (w.1 (6 + 3))).1 2 = w.1 7 := sHs_1 _ _ _ _
    have x3 : (sHs w 1 (w.1 6) (w.1 (6 + 1)) (w.1 (6 + 2)) (w.1 (6 + 3))).1 3 = w.1 8 := sHs_t _ _ _ _
    have x4 : (sHs w 1 (w.1 6) (w.1 (6 + 1)) (w.1 (6 + 2)) (w.1 (6 + 3))).1 4 = w.1 9 := sHs_3 _ _ _ _
    have xn : ∀ a, (a < 1 ∨ 4 < a) → (sHs w 1 (w.1 6) (w.1 (6 + 1)) (w.1 (6 + 2)) (w.1 (6 + 3))).1 a = w.1 a := fun a h => sHs_a _ _ _ _ (by omega)
    have xl : (sHs w 1 (w.1 6) (w.1 (6 + 1)) (w.1 (6 + 2)) (w.1 (6 + 3))).2 = w.2 := rfl
    generalize sHs w 1 (w.1 6) (w.1 (6 + 1)) (w.1 (6 + 2)) (w.1 (6 + 3)) = X at b x1 x2 x3 x4 xn xl
    have CX : zHc X 1 n2 m2 := ⟨zHs1, by rw [x1]; exact f3, kn8, by rw [x1]; exact f4, km4⟩
    have hs : ∀ j, j < 8 → okS X j := fun j hj => by
      have h := okS_of hn8 (s j hj)
      unfold okS at h ⊢
      rw [xn _ (by omega)]
      exact h
    obtain ⟨X3, ⟨y1, y2, y3, y4⟩, q⟩ := f_rest_l (d := d + 36) CX hs 8 0 none X (by omega) ⟨fun _ _ => rfl, rfl, fun i _ h => absurd h (Nat.not_lt_zero i), fun _ _ _ => rfl⟩
    rw [nI_0] at q
    have hc : cal (d + 40) 5043 [.ref 0] w = some (some (.int (nI n2)), X3) := by
      simp only [c_5043, e_5043_0, e_5043_1, e_5043_4, e_5043_14, e_5043_15, e_5043_18, e_5043_19, e_5043_22, e_5043_25, e_5043_26, zk_int, zk_ref, zk_null, zk_none, zk_long, zisR_r, zisR_n, zcl_int, zcl_ref, zcl_null, zpush_s, zpush_n, zbs, zbn, true_or, or_true, not_false_eq_true, not_true_eq_false, ↓reduceIte, and_self, and_true, true_and, ie_0_1, ie_0_2, ie_0_3, ie_0_4, ie_0_5, ie_0_6, ie_0_7, ie_1_0, ie_1_2, ie_1_3, ie_1_4, ie_1_5, ie_1_6, ie_1_7, ie_2_0, ie_2_1, ie_2_3, ie_2_4, ie_2_5, ie_2_6, ie_2_7, ie_3_0, ie_3_1, ie_3_2, ie_3_4, ie_3_5, ie_3_6, ie_3_7, ie_4_0, ie_4_1, ie_4_2, ie_4_3, ie_4_5, ie_4_6, ie_4_7, ie_5_0, ie_5_1, ie_5_2, ie_5_3, ie_5_4, ie_5_6, ie_5_7, ie_6_0, ie_6_1, ie_6_2, ie_6_3, ie_6_4, ie_6_5, ie_6_7, ie_7_0, ie_7_1, ie_7_2, ie_7_3, ie_7_4, ie_7_5, ie_7_6, zt_0, i1, zr_0_0, zr_0_1, zt_1, zt_6, b, q]
    have yx : ∀ a, (a < 34 ∨ 49 ≤ a) → (a < 1 ∨ 4 < a) → X3.1 a = w.1 a := fun a h1 h2 => by rw [y1 a h1, xn a h2]
    have yl : X3.2 = w.2 := y2.trans xl
    have h47 : X3.1 50 47 = 1 := by rw [yx _ (by omega) (by omega), ← i47]; exact i1
    have h73 : X3.1 73 = w.1 73 := yx _ (by omega) (by omega)
    have cf := m_carT (d := d + 38) (w := X3) (a := 73) zt_73 zn_73 (by decide)
    rw [h73] at cf
    obtain ⟨b1, b2, b3, b4, b5⟩ := zKt_b (w := X3) kt
    have bn : ∀ a, a ≠ 50 → (a < 52 ∨ 63 < a) → (cB X3 (w.1 73)).1 a = X3.1 a := fun a h1 h2 => cB_n h1 h2
    have b7 : ∀ k, 7 ≤ k → (cB X3 (w.1 73)).1 50 k = w.1 50 k := fun k hk => by
      rw [cB_50, u_ne (by omega), u_ne (by omega), u_ne (by omega), u_ne (by omega), u_ne (by omega), u_ne (by omega), u_ne (by omega), yx _ (by omega) (by omega)]
    have bl : (cB X3 (w.1 73)).2 = w.2 := yl
    generalize cB X3 (w.1 73) = Y at cf b1 b2 b3 b4 b5 bn b7 bl
    have m0 : mHd Y n2 0 = Y.1 64 := by
      funext i
      exact if_neg (fun c => Nat.not_lt_zero _ c.1)
    have lp := m_rest_l2 (d := d + 39) (w := Y) (n := n2) b2.1 8 0 (by omega)
    rw [m0, zA_id, nI_0] at lp
    have hm : cal (d + 40) 6095 [.ref 50] X3 = some (some (.int (nI n2)), zuA Y 64 (mHd Y n2 8)) := by
      simp only [c_6095, e_6095_0, e_6095_1, e_6095_4, e_6095_14, e_6095_15, e_6095_16, e_6095_19, e_6095_20, e_6095_23, e_6095_24, zk_int, zk_ref, zk_null, zk_none, zk_long, zisR_r, zisR_n, zcl_int, zcl_ref, zcl_null, zpush_s, zpush_n, zbs, zbn, true_or, or_true, not_false_eq_true, not_true_eq_false, ↓reduceIte, and_self, and_true, true_and, ie_0_1, ie_0_2, ie_0_3, ie_0_4, ie_0_5, ie_0_6, ie_0_7, ie_1_0, ie_1_2, ie_1_3, ie_1_4, ie_1_5, ie_1_6, ie_1_7, ie_2_0, ie_2_1, ie_2_3, ie_2_4, ie_2_5, ie_2_6, ie_2_7, ie_3_0, ie_3_1, ie_3_2, ie_3_4, ie_3_5, ie_3_6, ie_3_7, ie_4_0, ie_4_1, ie_4_2, ie_4_3, ie_4_5, ie_4_6, ie_4_7, ie_5_0, ie_5_1, ie_5_2, ie_5_3, ie_5_4, ie_5_6, ie_5_7, ie_6_0, ie_6_1, ie_6_2, ie_6_3, ie_6_4, ie_6_5, ie_6_7, ie_7_0, ie_7_1, ie_7_2, ie_7_3, ie_7_4, ie_7_5, ie_7_6, zt_50, zr_50_35, h47, cf, lp]
    have wn : ∀ a, a ≠ 64 → (zuA Y 64 (mHd Y n2 8)).1 a = Y.1 a := fun a h => zA_n _ _ h
    have wo : ∀ a, a ≠ 64 → a ≠ 50 → (a < 52 ∨ 63 < a) → (a < 34 ∨ 49 ≤ a) → (a < 1 ∨ 4 < a) → (zuA Y 64 (mHd Y n2 8)).1 a = w.1 a := fun a h1 h2 h3 h4 h5 => by rw [wn a h1, bn a h2 h3, yx a h4 h5]
    have wl : (zuA Y 64 (mHd Y n2 8)).2 = w.2 := bl
    have e64 : Y.1 64 = w.1 64 := by rw [bn _ (by omega) (by omega), yx _ (by omega) (by omega)]
    have e67 : Y.1 67 = w.1 67 := by rw [bn _ (by omega) (by omega), yx _ (by omega) (by omega)]
    have wsh : ∀ j, j < 8 → (zuA Y 64 (mHd Y n2 8)).1 (34 + 2 * j) = X3.1 (34 + 2 * j) := fun j hj => by rw [wn _ (by omega), bn _ (by omega) (by omega)]
    have kkeep : ∀ j, j < 8 → ¬ badT X n2 j → (zuA Y 64 (mHd Y n2 8)).1 (34 + 2 * j) = w.1 (34 + 2 * j) := fun j hj hb => by rw [wsh j hj, y4 j hj (Or.inr hb), xn _ (by omega)]
    have w1' : (zuA Y 64 (mHd Y n2 8)).1 1 = w.1 6 := by rw [wn _ (by omega), bn _ (by omega) (by omega), y1 _ (by omega), x1]
    have w2' : (zuA Y 64 (mHd Y n2 8)).1 2 = w.1 7 := by rw [wn _ (by omega), bn _ (by omega) (by omega), y1 _ (by omega), x2]
    have w3' : (zuA Y 64 (mHd Y n2 8)).1 3 = w.1 8 := by rw [wn _ (by omega), bn _ (by omega) (by omega), y1 _ (by omega), x3]
    have w4' : (zuA Y 64 (mHd Y n2 8)).1 4 = w.1 9 := by rw [wn _ (by omega), bn _ (by omega) (by omega), y1 _ (by omega), x4]
    refine ⟨_, _, _, n2, m2, hc, hm, ?_, ?_, fun j hj => ?_, ?_, ?_, rC_k c (wo _ (by omega) (by omega) (by omega) (by omega) (by omega)) (wo _ (by omega) (by omega) (by omega) (by omega) (by omega)) (by rw [wn _ (by omega), b7 _ (by omega)]) (wo _ (by omega) (by omega) (by omega) (by omega) (by omega)), rW_k o (wo _ (by omega) (by omega) (by omega) (by omega) (by omega)) (wo _ (by omega) (by omega) (by omega) (by omega) (by omega)) (wo _ (by omega) (by omega) (by omega) (by omega) (by omega)), ?_, ?_, ?_, ?_⟩
    · unfold rA zHc
      rw [w1', w2', w3', w4', wn 50 (by omega)]
      exact ⟨⟨zHs1, f3, kn8, f4, km4⟩, ⟨zMs_k b1 ⟨by rw [wn _ (by omega)], by rw [wn _ (by omega)]⟩ (fun a h1 h2 => wn a (by omega)), zMn_k b2 (by rw [wn _ (by omega)]) (by rw [wn _ (by omega)]), kR⟩, k6, b3, b4, b5⟩
    · unfold rI
      rw [wo 0 (by omega) (by omega) (by omega) (by omega) (by omega), wo 6 (by omega) (by omega) (by omega) (by omega) (by omega), wo 7 (by omega) (by omega) (by omega) (by omega) (by omega), wo 8 (by omega) (by omega) (by omega) (by omega) (by omega), wo 9 (by omega) (by omega) (by omega) (by omega) (by omega), wo 73 (by omega) (by omega) (by omega) (by omega) (by omega), wn 50 (by omega), b7 47 (by omega)]
      exact ⟨i47, Or.inr ⟨i1, n2, m2, kt⟩⟩
    · have hX : X.1 (34 + 2 * j) = w.1 (34 + 2 * j) := xn _ (by omega)
      have e64' : (zuA Y 64 (mHd Y n2 8)).1 64 = mHd Y n2 8 := zA_s _ _ _
      rcases s j hj with ⟨h1, h2⟩ | ⟨h1, s', z', g1, g2, g3, g4, g5, g6, g7⟩ | ⟨h1, t', g1, g2, g3⟩
      · have nb : ¬ badT X n2 j := fun ⟨t, p, q, r⟩ => by
          rw [hX, h2] at r
          exact nI_neN (by omega) r.symm
        refine Or.inl ⟨?_, by rw [kkeep j hj nb]; exact h2⟩
        rw [e64']
        have : mHd Y n2 8 j = Y.1 64 j := if_neg (fun c => by
          have := c.2.1
          rw [e64, h1] at this
          exact absurd this (by decide))
        rw [this, e64]; exact h1
      · have nb : ¬ badT X n2 j := fun ⟨t, p, q, r⟩ => by
          rw [hX, g4] at r
          have := (nI_eq (by omega) (by omega)).mp r
          omega
        have k64 : mHd Y n2 8 j = Y.1 64 j := if_neg (fun c => by
          have := c.2.1
          rw [e64, h1] at this
          exact absurd this (by decide))
        refine Or.inr (Or.inl ⟨by rw [e64', k64, e64]; exact h1, s', z', g1, g2, ?_, by rw [kkeep j hj nb]; exact g4, by rw [kkeep j hj nb]; exact g5, ?_, by rw [wl]; exact g7⟩)
        · rw [wo 65 (by omega) (by omega) (by omega) (by omega) (by omega)]; exact g3
        · rw [wo 66 (by omega) (by omega) (by omega) (by omega) (by omega)]; exact g6
      · by_cases hb : n2 ≤ t'
        · have bad : badT X n2 j := ⟨t', by omega, hb, by rw [hX]; exact g3⟩
          refine Or.inl ⟨?_, by rw [wsh j hj]; exact y3 j hj (by omega) bad⟩
          rw [e64']
          exact if_pos ⟨hj, by rw [e64]; exact h1, by rw [e67, g2]; exact nI_le hb (by omega)⟩
        · have nb : ¬ badT X n2 j := fun ⟨t, p, q, r⟩ => by
            rw [hX, g3] at r
            have := (nI_eq (by omega) (by omega)).mp r
            omega
          have k64 : mHd Y n2 8 j = Y.1 64 j := if_neg (fun c => by
            have := c.2.2
            rw [e67, g2] at this
            exact nI_ge (by omega) (by omega) this)
          refine Or.inr (Or.inr ⟨by rw [e64', k64, e64]; exact h1, t', by omega, ?_, by rw [kkeep j hj nb]; exact g3⟩)
          rw [wo 67 (by omega) (by omega) (by omega) (by omega) (by omega)]; exact g2
    · unfold rF
      rw [wo 33 (by omega) (by omega) (by omega) (by omega) (by omega), wo 51 (by omega) (by omega) (by omega) (by omega) (by omega)]
      exact f
    · rw [wo 25 (by omega) (by omega) (by omega) (by omega) (by omega), wn 50 (by omega), b7 7 (by omega)]; exact t
    · unfold zHz
      rw [w1', show (1 + 1 : Nat) = 2 from rfl, show (1 + 2 : Nat) = 3 from rfl, show (1 + 3 : Nat) = 4 from rfl, w2', w3', w4']
      exact z.2.1
    · exact zHz_k (fun b h1 h2 => wo b (by omega) (by omega) (by omega) (by omega) (by omega)) z.2.1
    · exact zHz_k (fun b h1 h2 => wo b (by omega) (by omega) (by omega) (by omega) (by omega)) z.2.2.1
    · exact zHz_k (fun b h1 h2 => wo b (by omega) (by omega) (by omega) (by omega) (by omega)) z.2.2.2
theorem zRl_sh {j : Nat} (A : zRl w S L n m) (hj : j < 8) (k : ∀ a, a ≠ 34 + 2 * j → (a < 64 ∨ 67 < a) → w2.1 a = w.1 a) (ki : ∀ i, i ≠ j → w2.1 64 i = w.1 64 i ∧ w2.1 65 i = w.1 65 i ∧ w2.1 66 i = w.1 66 i ∧ w2.1 67 i = w.1 67 i) (kl : ∀ a, a ≠ 34 + 2 * j + 1 → a ≠ 68 → a ≠ 69 → w2.2 a = w.2 a) (kc : ∀ i, (i < 160 * j ∨ 160 * j + 160 ≤ i) → w2.2 68 i = w.2 68 i) (hs : rSj w2 n j) : zRl w2 S L n m := by
  obtain ⟨a, i, s, f, t, c, o, z⟩ := A
  refine ⟨rA_k a (k 1 (by omega) (by omega)) (k 2 (by omega) (by omega)) (k 3 (by omega) (by omega)) (k 4 (by omega) (by omega)) (fun x h => by rw [k 50 (by omega) (by omega)]) (fun b h1 h2 => k b (by omega) (by omega)), rI_k i (k _ (by omega) (by omega)) (k _ (by omega) (by omega)) (k _ (by omega) (by omega)) (k _ (by omega) (by omega)) (k _ (by omega) (by omega)) (by rw [k 50 (by omega) (by omega)]) (k _ (by omega) (by omega)), fun j2 hj2 => ?_, ?_, ?_, rC_k c (k _ (by omega) (by omega)) (k _ (by omega) (by omega)) (by rw [k 50 (by omega) (by omega)]) (k _ (by omega) (by omega)), rW_k o (k _ (by omega) (by omega)) (k _ (by omega) (by omega)) (k _ (by omega) (by omega)), ?_⟩
  · by_cases e : j2 = j
    · subst e; exact hs
    · obtain ⟨p1, p2, p3, p4⟩ := ki j2 e
      rcases s j2 hj2 with ⟨h1, h2⟩ | ⟨h1, s', z', g1, g2, g3, g4, g5, g6, g7⟩ | ⟨h1, t', g1, g2, g3⟩
      · exact Or.inl ⟨by rw [p1]; exact h1, by rw [k _ (by omega) (by omega)]; exact h2⟩
      · refine Or.inr (Or.inl ⟨by rw [p1]; exact h1, s', z', g1, g2, by rw [p2]; exact g3, by rw [k _ (by omega) (by omega)]; exact g4, by rw [k _ (by omega) (by omega)]; exact g5, by rw [p3]; exact g6, fun i hi => ?_⟩)
        rw [kc _ (by omega), kl _ (by omega) (by omega) (by omega)]
        exact g7 i hi
      · exact Or.inr (Or.inr ⟨by rw [p1]; exact h1, t', g1, by rw [p4]; exact g2, by rw [k _ (by omega) (by omega)]; exact g3⟩)
  · unfold rF
    rw [k 33 (by omega) (by omega), k 51 (by omega) (by omega)]
    exact f
  · rw [k 25 (by omega) (by omega), k 50 (by omega) (by omega)]; exact t
  · exact ⟨zHz_k (fun b h1 h2 => k b (by omega) (by omega)) z.1, zHz_k (fun b h1 h2 => k b (by omega) (by omega)) z.2.1, zHz_k (fun b h1 h2 => k b (by omega) (by omega)) z.2.2.1, zHz_k (fun b h1 h2 => k b (by omega) (by omega)) z.2.2.2⟩
end PN
