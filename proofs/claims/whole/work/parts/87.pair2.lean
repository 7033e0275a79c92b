theorem least_ex (P : Nat → Prop) : ∀ n, (∃ r, r < n ∧ P r) → ∃ r, r < n ∧ P r ∧ ∀ r', r' < r → ¬ P r' := by
  intro n
  induction n with
  | zero => intro ⟨r, h, _⟩; omega
  | succ n ih =>
    intro ⟨r, h, p⟩
    by_cases c : ∃ r, r < n ∧ P r
    · obtain ⟨r2, a, b, d⟩ := ih c
      exact ⟨r2, by omega, b, d⟩
    · refine ⟨r, h, p, fun r' hr' p' => c ⟨r', by omega, p'⟩⟩
section PD
variable {d n m : Nat} {w : zM} {S : Nat → Int32} {L : Int32}
theorem kp_13 {f : Nat → Int32} : zKp w (zuA w 13 f) := zKp_A (a := 13) (by unfold zKa; omega) (by omega) (by omega) (by omega)
theorem sSp_z {V e : Nat → Int32} (hm : m ≤ 4) (hV : ∀ k, 24 ≤ k → V k = 0) : ∀ k, 24 ≤ k → sSp V e m k = 0 := by
  intro k hk
  unfold sSp
  rw [if_neg (by omega)]
  exact hV k hk
theorem p_points {x : Int32} (A : zRl w S L n m) : zPr d 5027 6068 [.int x] w S L := by
  have C := rl_C A
  have M := rl_M A
  have hm := rl_m A
  have hz := rl_z1 A
  have h256 := (pow_le4 (b := 3) (k := m) (by decide) (by decide) hm).2
  rcases ix_c x (by omega : m < 1000) with hx | ⟨y, hy, rfl⟩
  · have q1 := m_isWaiter_o (d := d + 39) (zMc_f (j := 1) M).2.1 hx
    have q2 := m_no (d := d + 39) (w := fRf w 1) (j := 1) (c := -1) (by decide) (by decide)
    refine pr_f A (by decide) (f_points_o (d := d + 37) C hx) (zKp_r _) ?_ (zKp_r _)
    simp only [c_6068, e_6068_0, e_6068_1, e_6068_2, e_6068_5, e_6068_8, e_6068_9, e_6068_10, e_6068_13, zk_int, zk_ref, zk_null, zk_none, zk_long, zisR_r, zisR_n, zcl_int, zcl_ref, zcl_null, zpush_s, zpush_n, zbs, zbn, true_or, or_true, not_false_eq_true, not_true_eq_false, ↓reduceIte, and_self, and_true, true_and, zt_50, q1, q2]
  · have a := q_hasWaiter (d := d + 39) C hy
    by_cases h : ∃ r, r < 3 ^ m ∧ sLp (w.1 2) (w.1 3) (w.1 4) n m r = 0
    · obtain ⟨r0, hr, h0, h1⟩ := least_ex _ _ h
      obtain ⟨e2, gv2, q⟩ := q_findPoints (d := d + 34) hz (rl_z14 A) (rl_Tc A) hr h0 h1
      have k1 : zKp w (zO (zuA w 13 (upd (w.1 13) 3 (nI r0))) (w.1 1) (w.1 2) (sSp (w.1 3) e2 m) (upd (w.1 4) 0 2) gv2) :=
        zKp_t kp_13 (zKp_O (fun _ => ⟨hz.1, sSp_z hm hz.2.1, fun k hk => by rw [u_ne (by omega)]; exact hz.2.2.1 k hk, hz.2.2.2⟩))
      have C14 : zHc (zO (zuA w 13 (upd (w.1 13) 3 (nI r0))) (w.1 1) (w.1 2) (sSp (w.1 3) e2 m) (upd (w.1 4) 0 2) gv2) 14 n m := zTc_C (rl_Tc A)
      have pf := f_pointsFound (d := d + 37) (y := y) C14 (r := r0) (by rw [zO_n _ _ _ _ _ _ (by decide), zA_s, u_eq]) (by omega) hy
      have hc : cal (d + 40) 5027 [.ref 0, .int (nI y)] w = some (some (.int (nI (dig 3 m r0 y + 1))), (zO (zuA w 13 (upd (w.1 13) 3 (nI r0))) (w.1 1) (w.1 2) (sSp (w.1 3) e2 m) (upd (w.1 4) 0 2) gv2)) := by
        rw [← nI_1]
        simp only [c_5027, e_5027_0, e_5027_1, e_5027_4, e_5027_5, e_5027_8, e_5027_11, e_5027_12, e_5027_13, e_5027_16, e_5027_17, e_5027_18, e_5027_21, e_5027_22, e_5027_25, e_5027_28, e_5027_31, e_5027_32, e_5027_35, e_5027_36, e_5027_39, e_5027_42, e_5027_43, e_5027_45, e_5027_48, zk_int, zk_ref, zk_null, zk_none, zk_long, zisR_r, zisR_n, zcl_int, zcl_ref, zcl_null, zpush_s, zpush_n, zbs, zbn, true_or, or_true, not_false_eq_true, not_true_eq_false, ↓reduceIte, and_self, and_true, true_and, zt_0, zr_0_0, zt_1, zr_0_3, zt_13, a, q, pf, ie_0_1, ie_0_2, ie_0_3, ie_0_4, ie_0_5, ie_0_6, ie_0_7, ie_1_0, ie_1_2, ie_1_3, ie_1_4, ie_1_5, ie_1_6, ie_1_7, ie_2_0, ie_2_1, ie_2_3, ie_2_4, ie_2_5, ie_2_6, ie_2_7, ie_3_0, ie_3_1, ie_3_2, ie_3_4, ie_3_5, ie_3_6, ie_3_7, ie_4_0, ie_4_1, ie_4_2, ie_4_3, ie_4_5, ie_4_6, ie_4_7, ie_5_0, ie_5_1, ie_5_2, ie_5_3, ie_5_4, ie_5_6, ie_5_7, ie_6_0, ie_6_1, ie_6_2, ie_6_3, ie_6_4, ie_6_5, ie_6_7, ie_7_0, ie_7_1, ie_7_2, ie_7_3, ie_7_4, ie_7_5, ie_7_6]
      obtain ⟨w2, k2, qm⟩ := m_points (d := d + 19) (zMc_kp k1 M) hy hr h0 h1
      exact pr_k A hc k1 qm k2
    · have h1 : ∀ r', r' < 3 ^ m → ¬ sLp (w.1 2) (w.1 3) (w.1 4) n m r' = 0 := fun r' hr' h0 => h ⟨r', hr', h0⟩
      obtain ⟨e2, gv2, x2, q⟩ := q_findPoints_0 (d := d + 34) hz (rl_z14 A) (rl_Tc A) h1
      have k1 : zKp w (zO (zuA w 13 (upd (w.1 13) 3 x2)) (w.1 1) (w.1 2) (sSp (w.1 3) e2 m) (upd (w.1 4) 0 2) gv2) :=
        zKp_t kp_13 (zKp_O (fun _ => ⟨hz.1, sSp_z hm hz.2.1, fun k hk => by rw [u_ne (by omega)]; exact hz.2.2.1 k hk, hz.2.2.2⟩))
      have r := f_refuse (d := d + 38) (w := zO (zuA w 13 (upd (w.1 13) 3 x2)) (w.1 1) (w.1 2) (sSp (w.1 3) e2 m) (upd (w.1 4) 0 2) gv2) (c := -5) (j := 5) (by decide) (by decide)
      have hc : cal (d + 40) 5027 [.ref 0, .int (nI y)] w = some (some (.int (-5)), fRf (zO (zuA w 13 (upd (w.1 13) 3 x2)) (w.1 1) (w.1 2) (sSp (w.1 3) e2 m) (upd (w.1 4) 0 2) gv2) 5) := by
        simp only [c_5027, e_5027_0, e_5027_1, e_5027_4, e_5027_5, e_5027_8, e_5027_11, e_5027_12, e_5027_13, e_5027_16, e_5027_17, e_5027_18, e_5027_21, e_5027_22, e_5027_25, e_5027_28, e_5027_31, e_5027_32, e_5027_35, e_5027_36, e_5027_39, e_5027_42, e_5027_43, e_5027_45, e_5027_48, zk_int, zk_ref, zk_null, zk_none, zk_long, zisR_r, zisR_n, zcl_int, zcl_ref, zcl_null, zpush_s, zpush_n, zbs, zbn, true_or, or_true, not_false_eq_true, not_true_eq_false, ↓reduceIte, and_self, and_true, true_and, zt_0, zr_0_0, zt_1, zr_0_3, zt_13, a, q, r, ie_0_1, ie_0_2, ie_0_3, ie_0_4, ie_0_5, ie_0_6, ie_0_7, ie_1_0, ie_1_2, ie_1_3, ie_1_4, ie_1_5, ie_1_6, ie_1_7, ie_2_0, ie_2_1, ie_2_3, ie_2_4, ie_2_5, ie_2_6, ie_2_7, ie_3_0, ie_3_1, ie_3_2, ie_3_4, ie_3_5, ie_3_6, ie_3_7, ie_4_0, ie_4_1, ie_4_2, ie_4_3, ie_4_5, ie_4_6, ie_4_7, ie_5_0, ie_5_1, ie_5_2, ie_5_3, ie_5_4, ie_5_6, ie_5_7, ie_6_0, ie_6_1, ie_6_2, ie_6_3, ie_6_4, ie_6_5, ie_6_7, ie_7_0, ie_7_1, ie_7_2, ie_7_3, ie_7_4, ie_7_5, ie_7_6]
      obtain ⟨w2, k2, qm⟩ := m_points_0 (d := d + 19) (zMc_f (j := 5) (zMc_kp k1 M)) hy h1
      exact pr_f A (by decide) hc k1 qm k2
theorem kp_sW {Z : zM} {O K : Nat → Int32} {s : zSt4} : zKp Z (sW Z O K s) := by
  unfold sW
  exact zKp_t kp_13 (zKp_t (zKp_A (a := 20) (by unfold zKa; omega) (by omega) (by omega) (by omega)) (zKp_t (zKp_A (a := 21) (by unfold zKa; omega) (by omega) (by omega) (by omega)) (zKp_t (zKp_A (a := 23) (by unfold zKa; omega) (by omega) (by omega) (by omega)) (zKp_A (a := 24) (by unfold zKa; omega) (by omega) (by omega) (by omega)))))
theorem p_way {k ev : Int32} (A : zRl w S L n m) (hev : ev = 0 ∨ ev = 1) : ∃ W', zKp w W' ∧ zRe n ev 0 (W'.1 23, W'.1 13 9, W'.1 13 10, W'.1 24) (tFs n m k ev W' (w.1 2) (w.1 3) (w.1 4)) ∧ cal (d + 14) 2018 [.ref 13, .ref 1, .int k, .int ev] w = some (some (.int (W'.1 13 9)), W') := by
  have hn := rl_n A
  have hm := rl_m A
  have hz := rl_z1 A
  have M := rl_M A
  obtain ⟨Z', s', e1, e2, q⟩ := q_findWay (d := d + (8 - n)) (k := k) (ev := ev) hz (rl_z14 A) (rl_Tc A)
  have ed : d + (8 - n) + 6 + n = d + 14 := by omega
  rw [ed] at q
  have k1 : zKp w Z' := by
    rw [e2]
    exact zKp_t (kp_O A hz.1 hz.2.1 hz.2.2.1 rfl) (zKp_A (a := 22) (by unfold zKa; omega) (by omega) (by omega) (by omega))
  have k2 := zKp_t k1 (kp_sW (Z := Z') (O := zz4 (w.1 20)) (K := zz4 (w.1 21)) (s := s'))
  refine ⟨_, k2, ?_, by rw [sW_fd]; exact q⟩
  rw [sW_23, sW_fd, sW_vl, sW_24]
  unfold tFs
  have r := pF_tF (k := k) M.2.2 hev (Q := sQ2 (w.1 2) (w.1 3) (w.1 4) (w.1 22) n m 0) (fun t ht => if_pos ⟨Nat.zero_le _, ht⟩) n 0 0 (zz4 (w.1 20)) (zz4 (w.1 21)) (w.1 23, 0, 0, w.1 24) ((sW Z' (zz4 (w.1 20)) (zz4 (w.1 21)) s').1 56, 0, (sW Z' (zz4 (w.1 20)) (zz4 (w.1 21)) s').1 50 41, (sW Z' (zz4 (w.1 20)) (zz4 (w.1 21)) s').1 77) (by omega) (fun i hi => by omega) rfl (fun y hy => zz4_0 _ (by omega)) (fun y hy => by rw [zz4_0 _ (by omega)]; exact nI_0.symm) (Or.inl rfl) ⟨rfl, fun h => absurd rfl h, fun i hi => by omega⟩
  rw [← e1] at r
  exact r
theorem p_placed {k x ev : Int32} (A : zRl w S L n m) (hev : ev = 0 ∨ ev = 1) : ∃ (v : Int32) (w1 w2 : zM) (n' m' : Nat), cal (d + 39) 5052 [.ref 0, .int k, .int x, .int ev] w = some (some (.int v), w1) ∧ cal (d + 39) 6072 [.ref 50, .int k, .int x, .int ev] w1 = some (some (.int v), w2) ∧ zRl w2 S L n' m' := by
  have C := rl_C A
  have M := rl_M A
  have hn := rl_n A
  have fin : ∀ {v : Int32} {w1 w2 : zM}, cal (d + 39) 5052 [.ref 0, .int k, .int x, .int ev] w = some (some (.int v), w1) → zKp w w1 → cal (d + 39) 6072 [.ref 50, .int k, .int x, .int ev] w1 = some (some (.int v), w2) → zKp w1 w2 → ∃ (v : Int32) (w1 w2 : zM) (n' m' : Nat), cal (d + 39) 5052 [.ref 0, .int k, .int x, .int ev] w = some (some (.int v), w1) ∧ cal (d + 39) 6072 [.ref 50, .int k, .int x, .int ev] w1 = some (some (.int v), w2) ∧ zRl w2 S L n' m' :=
    fun hc k1 hm k2 => ⟨_, _, _, n, m, hc, hm, zRl_k (zRl_k A k1) k2⟩
  have finf : ∀ {v : Int32} {w1 w2 : zM} {j : Nat}, j < 8 → cal (d + 39) 5052 [.ref 0, .int k, .int x, .int ev] w = some (some (.int v), fRf w1 j) → zKp w w1 → cal (d + 39) 6072 [.ref 50, .int k, .int x, .int ev] (fRf w1 j) = some (some (.int v), mRf w2 j) → zKp (fRf w1 j) w2 → ∃ (v : Int32) (w1 w2 : zM) (n' m' : Nat), cal (d + 39) 5052 [.ref 0, .int k, .int x, .int ev] w = some (some (.int v), w1) ∧ cal (d + 39) 6072 [.ref 50, .int k, .int x, .int ev] w1 = some (some (.int v), w2) ∧ zRl w2 S L n' m' :=
    fun hj hc k1 hm k2 => ⟨_, _, _, n, m, hc, hm, zRl_k (zRl_f (zRl_k A k1) hj) (zKp_m k2)⟩
  have tab : (¬ x = -1 ∧ (x < 0 ∨ nI n ≤ x)) ∨ (x = -1 ∨ ∃ j, j < n ∧ x = nI j) := by
    by_cases hM : x = -1
    · exact Or.inr (Or.inl hM)
    · rcases ix_c x (by omega : n < 1000) with hx | hx
      · exact Or.inl ⟨hM, hx⟩
      · exact Or.inr (Or.inr hx)
  rcases tab with ⟨hM, hx⟩ | ht
  · have a := q_hasTable_o (d := d + 38) C hx
    have r := f_refuse (d := d + 37) (w := w) (c := -1) (j := 1) (by decide) (by decide)
    have hc : cal (d + 39) 5052 [.ref 0, .int k, .int x, .int ev] w = some (some (.int (-1)), fRf w 1) := by
      simp only [c_5052, e_5052_0, e_5052_1, e_5052_2, e_5052_5, e_5052_6, e_5052_9, e_5052_10, e_5052_13, e_5052_16, e_5052_17, e_5052_18, e_5052_21, e_5052_22, e_5052_23, e_5052_24, e_5052_27, e_5052_28, e_5052_30, e_5052_33, e_5052_34, e_5052_36, e_5052_39, e_5052_40, e_5052_41, e_5052_44, e_5052_45, e_5052_48, e_5052_49, e_5052_50, e_5052_53, e_5052_56, e_5052_57, e_5052_59, e_5052_62, e_5052_63, e_5052_64, e_5052_65, e_5052_68, e_5052_69, e_5052_72, e_5052_75, e_5052_78, e_5052_79, e_5052_82, e_5052_83, e_5052_86, zk_int, zk_ref, zk_null, zk_none, zk_long, zisR_r, zisR_n, zcl_int, zcl_ref, zcl_null, zpush_s, zpush_n, zbs, zbn, true_or, or_true, not_false_eq_true, not_true_eq_false, ↓reduceIte, and_self, and_true, true_and, zt_0, zr_0_0, zt_1, hM, a, r]
    exact finf (by decide) hc (zKp_r _) (m_told_1 (d := d + 9) (zMc_f M).2.1 hM hx) (zKp_r _)
  · have into : cal (d + 39) 5052 [.ref 0, .int k, .int x, .int ev] w = den (d + 39) 5052 22 [some (.ref 0), some (.int k), some (.int x), some (.int ev)] [] w := by
      rcases ht with rfl | ⟨j, hj, rfl⟩
      · simp only [c_5052, e_5052_0, e_5052_1, e_5052_2, zk_int, zk_ref, zk_null, zk_none, zk_long, zisR_r, zisR_n, zcl_int, zcl_ref, zcl_null, zpush_s, zpush_n, zbs, zbn, true_or, or_true, not_false_eq_true, not_true_eq_false, ↓reduceIte, and_self, and_true, true_and]
      · have g1 := nI_neM (y := j) (by omega)
        have a := q_hasTable (d := d + 38) C hj
        simp only [c_5052, e_5052_0, e_5052_1, e_5052_2, e_5052_5, e_5052_6, e_5052_9, e_5052_10, e_5052_13, zk_int, zk_ref, zk_null, zk_none, zk_long, zisR_r, zisR_n, zcl_int, zcl_ref, zcl_null, zpush_s, zpush_n, zbs, zbn, true_or, or_true, not_false_eq_true, not_true_eq_false, ↓reduceIte, and_self, and_true, true_and, ie_0_1, ie_0_2, ie_0_3, ie_0_4, ie_0_5, ie_0_6, ie_0_7, ie_1_0, ie_1_2, ie_1_3, ie_1_4, ie_1_5, ie_1_6, ie_1_7, ie_2_0, ie_2_1, ie_2_3, ie_2_4, ie_2_5, ie_2_6, ie_2_7, ie_3_0, ie_3_1, ie_3_2, ie_3_4, ie_3_5, ie_3_6, ie_3_7, ie_4_0, ie_4_1, ie_4_2, ie_4_3, ie_4_5, ie_4_6, ie_4_7, ie_5_0, ie_5_1, ie_5_2, ie_5_3, ie_5_4, ie_5_6, ie_5_7, ie_6_0, ie_6_1, ie_6_2, ie_6_3, ie_6_4, ie_6_5, ie_6_7, ie_7_0, ie_7_1, ie_7_2, ie_7_3, ie_7_4, ie_7_5, ie_7_6, zt_0, zr_0_0, zt_1, g1, a]
    by_cases hk : k < 1 ∨ 8 < k
    · have r := f_refuse (d := d + 37) (w := w) (c := -6) (j := 6) (by decide) (by decide)
      have hc : cal (d + 39) 5052 [.ref 0, .int k, .int x, .int ev] w = some (some (.int (-6)), fRf w 6) := by
        rw [into]
        by_cases h1 : k < 1
        · simp only [e_5052_22, e_5052_23, e_5052_24, e_5052_33, e_5052_34, e_5052_36, e_5052_39, zk_int, zk_ref, zk_null, zk_none, zk_long, zisR_r, zisR_n, zcl_int, zcl_ref, zcl_null, zpush_s, zpush_n, zbs, zbn, true_or, or_true, not_false_eq_true, not_true_eq_false, ↓reduceIte, and_self, and_true, true_and, zt_0, h1, r]
        · have h2 : (k ≤ 8) = False := eq_false (Int32.not_le.mpr (hk.resolve_left h1))
          simp only [e_5052_22, e_5052_23, e_5052_24, e_5052_27, e_5052_28, e_5052_30, e_5052_33, e_5052_34, e_5052_36, e_5052_39, zk_int, zk_ref, zk_null, zk_none, zk_long, zisR_r, zisR_n, zcl_int, zcl_ref, zcl_null, zpush_s, zpush_n, zbs, zbn, true_or, or_true, not_false_eq_true, not_true_eq_false, ↓reduceIte, and_self, and_true, true_and, zt_0, h1, h2, r]
      exact finf (by decide) hc (zKp_r _) (m_told_6 (d := d + 9) (zMc_f M).2.1 ht hk) (zKp_r _)
    · have h1 : 1 ≤ k := Int32.not_lt.mp (fun h => hk (Or.inl h))
      have h8 : k ≤ 8 := Int32.not_lt.mp (fun h => hk (Or.inr h))
      have h1' : (k < 1) = False := eq_false (Int32.not_lt.mpr h1)
      obtain ⟨W', k1, E, q⟩ := p_way (d := d + 24) (k := k) (ev := ev) A hev
      obtain ⟨E1, E2, E3⟩ := E
      have M1 := zMc_kp k1 M
      by_cases hf : W'.1 13 9 = 0
      · have hf' : (tFs n m k ev W' (w.1 2) (w.1 3) (w.1 4)).2.1 = 0 := by rw [← E1]; exact hf
        have r := f_refuse (d := d + 37) (w := W') (c := -5) (j := 5) (by decide) (by decide)
        have hc : cal (d + 39) 5052 [.ref 0, .int k, .int x, .int ev] w = some (some (.int (-5)), fRf W' 5) := by
          rw [into]
          simp only [e_5052_22, e_5052_23, e_5052_24, e_5052_27, e_5052_28, e_5052_30, e_5052_40, e_5052_41, e_5052_44, e_5052_45, e_5052_48, e_5052_49, e_5052_50, e_5052_53, e_5052_56, e_5052_57, e_5052_59, e_5052_62, zk_int, zk_ref, zk_null, zk_none, zk_long, zisR_r, zisR_n, zcl_int, zcl_ref, zcl_null, zpush_s, zpush_n, zbs, zbn, true_or, or_true, not_false_eq_true, not_true_eq_false, ↓reduceIte, and_self, and_true, true_and, zt_0, zr_0_0, zt_1, zr_0_3, zt_13, h1', h8, q, hf, r]
        have ef : tFs n m k ev (fRf W' 5) (w.1 2) (w.1 3) (w.1 4) = tFs n m k ev W' (w.1 2) (w.1 3) (w.1 4) := by
          unfold tFs fRf
          rw [zA_n _ _ (by decide), zA_n _ _ (by decide), zA_n _ _ (by decide)]
        obtain ⟨w2, k2, qm⟩ := m_told_5 (d := d + 9) (k := k) (zMc_f (j := 5) M1) hev ht h1 h8 (by rw [ef]; exact hf')
        exact finf (by decide) hc k1 qm k2
      · have hf' : ¬ (tFs n m k ev W' (w.1 2) (w.1 3) (w.1 4)).2.1 = 0 := by rw [← E1]; exact hf
        obtain ⟨a1, a2, a3⟩ := E2 hf
        rcases ht with rfl | ⟨j, hj, rfl⟩
        · have fv := f_value (d := d + 38) (w := W')
          have hc : cal (d + 39) 5052 [.ref 0, .int k, .int (-1), .int ev] w = some (some (.int (W'.1 13 10)), W') := by
            rw [into]
            simp only [e_5052_22, e_5052_23, e_5052_24, e_5052_27, e_5052_28, e_5052_30, e_5052_40, e_5052_41, e_5052_44, e_5052_45, e_5052_48, e_5052_49, e_5052_50, e_5052_53, e_5052_63, e_5052_64, e_5052_65, e_5052_68, e_5052_69, e_5052_72, e_5052_75, e_5052_86, zk_int, zk_ref, zk_null, zk_none, zk_long, zisR_r, zisR_n, zcl_int, zcl_ref, zcl_null, zpush_s, zpush_n, zbs, zbn, true_or, or_true, not_false_eq_true, not_true_eq_false, ↓reduceIte, and_self, and_true, true_and, zt_0, zr_0_0, zt_1, zr_0_3, zt_13, h1', h8, q, hf, fv]
          obtain ⟨w2, k2, qm⟩ := m_told_v (d := d + 9) (k := k) M1 hev h1 h8 hf'
          have ea : (if ev = 0 then (tFs n m k ev W' (w.1 2) (w.1 3) (w.1 4)).2.2.1 else - (tFs n m k ev W' (w.1 2) (w.1 3) (w.1 4)).2.2.1) = W'.1 13 10 := by
            rw [a2]
            rcases hev with rfl | rfl
            · rw [if_pos rfl, if_pos rfl]
            · rw [if_neg (by decide), if_neg (by decide), Int32.neg_neg]
          rw [ea] at qm
          exact fin hc k1 qm k2
        · have g1 := nI_neM (y := j) (by omega)
          have fv := f_server (d := d + 37) (w := W') (t := j) (by omega)
          have hc : cal (d + 39) 5052 [.ref 0, .int k, .int (nI j), .int ev] w = some (some (.int (W'.1 24 j)), W') := by
            rw [into]
            simp only [e_5052_22, e_5052_23, e_5052_24, e_5052_27, e_5052_28, e_5052_30, e_5052_40, e_5052_41, e_5052_44, e_5052_45, e_5052_48, e_5052_49, e_5052_50, e_5052_53, e_5052_63, e_5052_64, e_5052_65, e_5052_78, e_5052_79, e_5052_82, e_5052_83, e_5052_86, zk_int, zk_ref, zk_null, zk_none, zk_long, zisR_r, zisR_n, zcl_int, zcl_ref, zcl_null, zpush_s, zpush_n, zbs, zbn, true_or, or_true, not_false_eq_true, not_true_eq_false, ↓reduceIte, and_self, and_true, true_and, zt_0, zr_0_0, zt_1, zr_0_3, zt_13, h1', h8, q, hf, g1, fv]
          obtain ⟨w2, k2, qm⟩ := m_told_t (d := d + 9) (k := k) M1 hev hj h1 h8 hf'
          have ea := a3 j hj
          rw [← ea] at qm
          exact fin hc k1 qm k2
theorem p_most {k x : Int32} (A : zRl w S L n m) : zPr d 5029 6073 [.int k, .int x] w S L := by
  obtain ⟨v, w1, w2, n', m', h1, h2, h3⟩ := p_placed (d := d) (k := k) (x := x) (ev := 0) A (Or.inl rfl)
  refine ⟨.int v, w1, w2, n', m', ?_, ?_, h3⟩
  · simp only [c_5029, e_5029_0, e_5029_1, e_5029_2, e_5029_3, e_5029_4, e_5029_7, zk_int, zk_ref, zk_null, zk_none, zk_long, zisR_r, zisR_n, zcl_int, zcl_ref, zcl_null, zpush_s, zpush_n, zbs, zbn, true_or, or_true, not_false_eq_true, not_true_eq_false, ↓reduceIte, and_self, and_true, true_and, zt_0, h1]
  · simp only [c_6073, e_6073_0, e_6073_1, e_6073_2, e_6073_3, e_6073_4, e_6073_7, zk_int, zk_ref, zk_null, zk_none, zk_long, zisR_r, zisR_n, zcl_int, zcl_ref, zcl_null, zpush_s, zpush_n, zbs, zbn, true_or, or_true, not_false_eq_true, not_true_eq_false, ↓reduceIte, and_self, and_true, true_and, zt_50, h2]
theorem p_even {k x : Int32} (A : zRl w S L n m) : zPr d 5030 6074 [.int k, .int x] w S L := by
  obtain ⟨v, w1, w2, n', m', h1, h2, h3⟩ := p_placed (d := d) (k := k) (x := x) (ev := 1) A (Or.inr rfl)
  refine ⟨.int v, w1, w2, n', m', ?_, ?_, h3⟩
  · simp only [c_5030, e_5030_0, e_5030_1, e_5030_2, e_5030_3, e_5030_4, e_5030_7, zk_int, zk_ref, zk_null, zk_none, zk_long, zisR_r, zisR_n, zcl_int, zcl_ref, zcl_null, zpush_s, zpush_n, zbs, zbn, true_or, or_true, not_false_eq_true, not_true_eq_false, ↓reduceIte, and_self, and_true, true_and, zt_0, h1]
  · simp only [c_6074, e_6074_0, e_6074_1, e_6074_2, e_6074_3, e_6074_4, e_6074_7, zk_int, zk_ref, zk_null, zk_none, zk_long, zisR_r, zisR_n, zcl_int, zcl_ref, zcl_null, zpush_s, zpush_n, zbs, zbn, true_or, or_true, not_false_eq_true, not_true_eq_false, ↓reduceIte, and_self, and_true, true_and, zt_50, h2]
theorem kp_tu {B gv : Nat → Int32} (A : zRl w S L n m) (hB : B = w.1 2 ∨ ∃ e, B = sTe (w.1 2) m e n (w.1 2)) : zKp w (zO w (w.1 1) B (w.1 3) (w.1 4) gv) := by
  have hz := rl_z1 A
  have hn := rl_n A
  refine kp_O A (fun k hk => ?_) hz.2.1 hz.2.2.1 rfl
  rcases hB with rfl | ⟨e, rfl⟩
  · exact hz.1 k hk
  · unfold sTe
    rw [if_neg (by omega)]
    exact hz.1 k hk
theorem p_turns {x k : Int32} (A : zRl w S L n m) : zPr d 5031 6076 [.int x, .int k] w S L := by
  have C := rl_C A
  have M := rl_M A
  have hm := rl_m A
  have hz := rl_z1 A
  rcases ix_c x (by omega : m < 1000) with hx | ⟨y, hy, rfl⟩
  · have q1 := m_isWaiter_o (d := d + 39) (zMc_f (j := 1) M).2.1 hx
    have q2 := m_no (d := d + 39) (w := fRf w 1) (j := 1) (c := -1) (by decide) (by decide)
    refine pr_f A (by decide) (f_turns_o (d := d + 37) C hx) (zKp_r _) ?_ (zKp_r _)
    simp only [c_6076, e_6076_0, e_6076_1, e_6076_2, e_6076_5, e_6076_8, e_6076_9, e_6076_10, e_6076_13, e_6076_14, e_6076_15, e_6076_18, e_6076_19, e_6076_21, e_6076_24, e_6076_25, e_6076_27, e_6076_30, e_6076_33, e_6076_34, e_6076_35, e_6076_36, e_6076_39, zk_int, zk_ref, zk_null, zk_none, zk_long, zisR_r, zisR_n, zcl_int, zcl_ref, zcl_null, zpush_s, zpush_n, zbs, zbn, true_or, or_true, not_false_eq_true, not_true_eq_false, ↓reduceIte, and_self, and_true, true_and, zt_50, q1, q2]
  · have a := q_hasWaiter (d := d + 39) C hy
    by_cases hb : k < 0 ∨ 30 < k
    · have r := f_refuse (d := d + 38) (w := w) (c := -6) (j := 6) (by decide) (by decide)
      have q1 := m_isWaiter (d := d + 39) (zMc_f (j := 6) M).2.1 hy
      have q2 := m_no (d := d + 39) (w := fRf w 6) (j := 6) (c := -6) (by decide) (by decide)
      by_cases h1 : k < 0
      · have hc : cal (d + 40) 5031 [.ref 0, .int (nI y), .int k] w = some (some (.int (-6)), fRf w 6) := by
          simp only [c_5031, e_5031_0, e_5031_1, e_5031_4, e_5031_5, e_5031_8, e_5031_11, e_5031_12, e_5031_13, e_5031_16, e_5031_17, e_5031_18, e_5031_21, e_5031_22, e_5031_24, e_5031_27, e_5031_28, e_5031_30, e_5031_33, e_5031_36, e_5031_37, e_5031_40, e_5031_41, e_5031_44, e_5031_45, e_5031_46, e_5031_49, zk_int, zk_ref, zk_null, zk_none, zk_long, zisR_r, zisR_n, zcl_int, zcl_ref, zcl_null, zpush_s, zpush_n, zbs, zbn, true_or, or_true, not_false_eq_true, not_true_eq_false, ↓reduceIte, and_self, and_true, true_and, ie_0_1, ie_0_2, ie_0_3, ie_0_4, ie_0_5, ie_0_6, ie_0_7, ie_1_0, ie_1_2, ie_1_3, ie_1_4, ie_1_5, ie_1_6, ie_1_7, ie_2_0, ie_2_1, ie_2_3, ie_2_4, ie_2_5, ie_2_6, ie_2_7, ie_3_0, ie_3_1, ie_3_2, ie_3_4, ie_3_5, ie_3_6, ie_3_7, ie_4_0, ie_4_1, ie_4_2, ie_4_3, ie_4_5, ie_4_6, ie_4_7, ie_5_0, ie_5_1, ie_5_2, ie_5_3, ie_5_4, ie_5_6, ie_5_7, ie_6_0, ie_6_1, ie_6_2, ie_6_3, ie_6_4, ie_6_5, ie_6_7, ie_7_0, ie_7_1, ie_7_2, ie_7_3, ie_7_4, ie_7_5, ie_7_6, zt_0, zr_0_0, zt_1, a, h1, r]
        refine pr_f A (by decide) hc (zKp_r _) ?_ (zKp_r _)
        simp only [c_6076, e_6076_0, e_6076_1, e_6076_2, e_6076_5, e_6076_8, e_6076_9, e_6076_10, e_6076_13, e_6076_14, e_6076_15, e_6076_18, e_6076_19, e_6076_21, e_6076_24, e_6076_25, e_6076_27, e_6076_30, e_6076_33, e_6076_34, e_6076_35, e_6076_36, e_6076_39, zk_int, zk_ref, zk_null, zk_none, zk_long, zisR_r, zisR_n, zcl_int, zcl_ref, zcl_null, zpush_s, zpush_n, zbs, zbn, true_or, or_true, not_false_eq_true, not_true_eq_false, ↓reduceIte, and_self, and_true, true_and, ie_0_1, ie_0_2, ie_0_3, ie_0_4, ie_0_5, ie_0_6, ie_0_7, ie_1_0, ie_1_2, ie_1_3, ie_1_4, ie_1_5, ie_1_6, ie_1_7, ie_2_0, ie_2_1, ie_2_3, ie_2_4, ie_2_5, ie_2_6, ie_2_7, ie_3_0, ie_3_1, ie_3_2, ie_3_4, ie_3_5, ie_3_6, ie_3_7, ie_4_0, ie_4_1, ie_4_2, ie_4_3, ie_4_5, ie_4_6, ie_4_7, ie_5_0, ie_5_1, ie_5_2, ie_5_3, ie_5_4, ie_5_6, ie_5_7, ie_6_0, ie_6_1, ie_6_2, ie_6_3, ie_6_4, ie_6_5, ie_6_7, ie_7_0, ie_7_1, ie_7_2, ie_7_3, ie_7_4, ie_7_5, ie_7_6, zt_50, q1, q2, h1]
      · have h2 : (k ≤ 30) = False := eq_false (Int32.not_le.mpr (hb.resolve_left h1))
        have hc : cal (d + 40) 5031 [.ref 0, .int (nI y), .int k] w = some (some (.int (-6)), fRf w 6) := by
          simp only [c_5031, e_5031_0, e_5031_1, e_5031_4, e_5031_5, e_5031_8, e_5031_11, e_5031_12, e_5031_13, e_5031_16, e_5031_17, e_5031_18, e_5031_21, e_5031_22, e_5031_24, e_5031_27, e_5031_28, e_5031_30, e_5031_33, e_5031_36, e_5031_37, e_5031_40, e_5031_41, e_5031_44, e_5031_45, e_5031_46, e_5031_49, zk_int, zk_ref, zk_null, zk_none, zk_long, zisR_r, zisR_n, zcl_int, zcl_ref, zcl_null, zpush_s, zpush_n, zbs, zbn, true_or, or_true, not_false_eq_true, not_true_eq_false, ↓reduceIte, and_self, and_true, true_and, ie_0_1, ie_0_2, ie_0_3, ie_0_4, ie_0_5, ie_0_6, ie_0_7, ie_1_0, ie_1_2, ie_1_3, ie_1_4, ie_1_5, ie_1_6, ie_1_7, ie_2_0, ie_2_1, ie_2_3, ie_2_4, ie_2_5, ie_2_6, ie_2_7, ie_3_0, ie_3_1, ie_3_2, ie_3_4, ie_3_5, ie_3_6, ie_3_7, ie_4_0, ie_4_1, ie_4_2, ie_4_3, ie_4_5, ie_4_6, ie_4_7, ie_5_0, ie_5_1, ie_5_2, ie_5_3, ie_5_4, ie_5_6, ie_5_7, ie_6_0, ie_6_1, ie_6_2, ie_6_3, ie_6_4, ie_6_5, ie_6_7, ie_7_0, ie_7_1, ie_7_2, ie_7_3, ie_7_4, ie_7_5, ie_7_6, zt_0, zr_0_0, zt_1, a, h1, h2, r]
        refine pr_f A (by decide) hc (zKp_r _) ?_ (zKp_r _)
        simp only [c_6076, e_6076_0, e_6076_1, e_6076_2, e_6076_5, e_6076_8, e_6076_9, e_6076_10, e_6076_13, e_6076_14, e_6076_15, e_6076_18, e_6076_19, e_6076_21, e_6076_24, e_6076_25, e_6076_27, e_6076_30, e_6076_33, e_6076_34, e_6076_35, e_6076_36, e_6076_39, zk_int, zk_ref, zk_null, zk_none, zk_long, zisR_r, zisR_n, zcl_int, zcl_ref, zcl_null, zpush_s, zpush_n, zbs, zbn, true_or, or_true, not_false_eq_true, not_true_eq_false, ↓reduceIte, and_self, and_true, true_and, ie_0_1, ie_0_2, ie_0_3, ie_0_4, ie_0_5, ie_0_6, ie_0_7, ie_1_0, ie_1_2, ie_1_3, ie_1_4, ie_1_5, ie_1_6, ie_1_7, ie_2_0, ie_2_1, ie_2_3, ie_2_4, ie_2_5, ie_2_6, ie_2_7, ie_3_0, ie_3_1, ie_3_2, ie_3_4, ie_3_5, ie_3_6, ie_3_7, ie_4_0, ie_4_1, ie_4_2, ie_4_3, ie_4_5, ie_4_6, ie_4_7, ie_5_0, ie_5_1, ie_5_2, ie_5_3, ie_5_4, ie_5_6, ie_5_7, ie_6_0, ie_6_1, ie_6_2, ie_6_3, ie_6_4, ie_6_5, ie_6_7, ie_7_0, ie_7_1, ie_7_2, ie_7_3, ie_7_4, ie_7_5, ie_7_6, zt_50, q1, q2, h1, h2]
    · obtain ⟨N, hN, rfl⟩ := nI_of (x := k) (fun h => hb (Or.inl h))
      have hN30 : N ≤ 30 := by
        have h3 : nI N ≤ nI 30 := Int32.not_lt.mp (fun h => hb (Or.inr h))
        exact (nI_leI hN (by omega)).mp h3
      have h1 := nI_lt0 (a := N) (by omega)
      have h2 : (nI N ≤ 30) = True := nI_le_n (b := 30) hN30 (by decide)
      obtain ⟨B2, gv2, hB, q⟩ := q_turnsOf (d := d + 34) hz (rl_z14 A) (rl_Tc A) C hN30 hy
      have hc : cal (d + 40) 5031 [.ref 0, .int (nI y), .int (nI N)] w = some (some (.int (sTu (w.1 2) (w.1 3) (w.1 4) n m y N)), zO w (w.1 1) B2 (w.1 3) (w.1 4) gv2) := by
        simp only [c_5031, e_5031_0, e_5031_1, e_5031_4, e_5031_5, e_5031_8, e_5031_11, e_5031_12, e_5031_13, e_5031_16, e_5031_17, e_5031_18, e_5031_21, e_5031_22, e_5031_24, e_5031_27, e_5031_28, e_5031_30, e_5031_33, e_5031_36, e_5031_37, e_5031_40, e_5031_41, e_5031_44, e_5031_45, e_5031_46, e_5031_49, zk_int, zk_ref, zk_null, zk_none, zk_long, zisR_r, zisR_n, zcl_int, zcl_ref, zcl_null, zpush_s, zpush_n, zbs, zbn, true_or, or_true, not_false_eq_true, not_true_eq_false, ↓reduceIte, and_self, and_true, true_and, ie_0_1, ie_0_2, ie_0_3, ie_0_4, ie_0_5, ie_0_6, ie_0_7, ie_1_0, ie_1_2, ie_1_3, ie_1_4, ie_1_5, ie_1_6, ie_1_7, ie_2_0, ie_2_1, ie_2_3, ie_2_4, ie_2_5, ie_2_6, ie_2_7, ie_3_0, ie_3_1, ie_3_2, ie_3_4, ie_3_5, ie_3_6, ie_3_7, ie_4_0, ie_4_1, ie_4_2, ie_4_3, ie_4_5, ie_4_6, ie_4_7, ie_5_0, ie_5_1, ie_5_2, ie_5_3, ie_5_4, ie_5_6, ie_5_7, ie_6_0, ie_6_1, ie_6_2, ie_6_3, ie_6_4, ie_6_5, ie_6_7, ie_7_0, ie_7_1, ie_7_2, ie_7_3, ie_7_4, ie_7_5, ie_7_6, zt_0, zr_0_0, zt_1, zr_0_3, zt_13, a, h1, h2, q]
      have k1 := kp_tu (gv := gv2) A hB
      have M1 := zMc_kp k1 M
      obtain ⟨w2, k2, qm⟩ := m_turnsOf (d := d + 20) (y := y) M1 (by omega : 0 < m) hN30
      have q1 := m_isWaiter (d := d + 39) M1.2.1 hy
      refine pr_k A hc k1 ?_ k2
      simp only [c_6076, e_6076_0, e_6076_1, e_6076_2, e_6076_5, e_6076_8, e_6076_9, e_6076_10, e_6076_13, e_6076_14, e_6076_15, e_6076_18, e_6076_19, e_6076_21, e_6076_24, e_6076_25, e_6076_27, e_6076_30, e_6076_33, e_6076_34, e_6076_35, e_6076_36, e_6076_39, zk_int, zk_ref, zk_null, zk_none, zk_long, zisR_r, zisR_n, zcl_int, zcl_ref, zcl_null, zpush_s, zpush_n, zbs, zbn, true_or, or_true, not_false_eq_true, not_true_eq_false, ↓reduceIte, and_self, and_true, true_and, ie_0_1, ie_0_2, ie_0_3, ie_0_4, ie_0_5, ie_0_6, ie_0_7, ie_1_0, ie_1_2, ie_1_3, ie_1_4, ie_1_5, ie_1_6, ie_1_7, ie_2_0, ie_2_1, ie_2_3, ie_2_4, ie_2_5, ie_2_6, ie_2_7, ie_3_0, ie_3_1, ie_3_2, ie_3_4, ie_3_5, ie_3_6, ie_3_7, ie_4_0, ie_4_1, ie_4_2, ie_4_3, ie_4_5, ie_4_6, ie_4_7, ie_5_0, ie_5_1, ie_5_2, ie_5_3, ie_5_4, ie_5_6, ie_5_7, ie_6_0, ie_6_1, ie_6_2, ie_6_3, ie_6_4, ie_6_5, ie_6_7, ie_7_0, ie_7_1, ie_7_2, ie_7_3, ie_7_4, ie_7_5, ie_7_6, zt_50, q1, h1, h2, qm]
theorem p_luck {x : Int32} (A : zRl w S L n m) : zPr d 5032 6077 [.int x] w S L := by
  have C := rl_C A
  have M := rl_M A
  have hm := rl_m A
  rcases ix_c x (by omega : m < 1000) with hx | ⟨y, hy, rfl⟩
  · have q1 := m_isWaiter_o (d := d + 39) (zMc_f (j := 1) M).2.1 hx
    have q2 := m_noLow (d := d + 39) (w := fRf w 1) (j := 1) (c := -1) (by decide) (by decide)
    refine pr_f A (by decide) (f_luck_o (d := d + 37) C hx) (zKp_r _) ?_ (zKp_r _)
    simp only [c_6077, e_6077_0, e_6077_1, e_6077_2, e_6077_5, e_6077_8, e_6077_9, e_6077_12, e_6077_13, e_6077_14, e_6077_17, e_6077_18, e_6077_19, e_6077_20, e_6077_21, e_6077_24, e_6077_27, e_6077_28, e_6077_31, e_6077_32, e_6077_33, e_6077_36, zk_int, zk_ref, zk_null, zk_none, zk_long, zisR_r, zisR_n, zcl_int, zcl_ref, zcl_null, zpush_s, zpush_n, zbs, zbn, true_or, or_true, not_false_eq_true, not_true_eq_false, ↓reduceIte, and_self, and_true, true_and, zt_50, q1, q2]
    rfl
  · have a := q_hasWaiter (d := d + 39) C hy
    have r := q_reckon (d := d + 35) (w := w) C (rl_Hv A)
    have A1 := zRl_k A (kp_rk (w := w) (j := n))
    have e2 : (sRk w 1 n).1 2 = w.1 2 := f_rkn _ _ (by decide)
    have e3 : (sRk w 1 n).1 3 = w.1 3 := f_rkn _ _ (by decide)
    have e4 : (sRk w 1 n).1 4 = w.1 4 := f_rkn _ _ (by decide)
    have e6 : (sRk w 1 n).1 (1 + 4) = zcpy (sGv (w.1 2) (w.1 3) (w.1 4)) (w.1 5) n := f_rk5 w n
    have o := q_ownOf (d := d + 37) (y := nI y) (f_rkC C n)
    rw [show (1 + 1 : Nat) = 2 from rfl, e2, e6, sOwn_g (zcpy_lt _ _ n)] at o
    have wc : cal (d + 39) 1003 [.ref 1] (sRk w 1 n) = some (some (.int (nI m)), sRk w 1 n) := by
      have e1 : (sRk w 1 n).1 1 4 = nI m := by rw [f_rkn _ _ (by decide)]; exact C.2.2.2.1
      simp only [c_1003, e_1003_0, e_1003_1, e_1003_4, zk_int, zk_ref, zk_null, zk_none, zk_long, zisR_r, zisR_n, zcl_int, zcl_ref, zcl_null, zpush_s, zpush_n, zbs, zbn, true_or, or_true, not_false_eq_true, not_true_eq_false, ↓reduceIte, and_self, and_true, true_and, zt_1, e1]
    obtain ⟨B2, gv2, hB, q⟩ := q_turnsOf (d := d + 34) (rl_z1 A1) (rl_z14 A1) (rl_Tc A1) (rl_C A1) (show m ≤ 30 by omega) hy
    have k1 := zKp_t (kp_rk (w := w) (j := n)) (kp_tu (gv := gv2) A1 hB)
    rw [e2, e3, e4] at q
    rw [e3, e4] at k1
    have hc : cal (d + 40) 5032 [.ref 0, .int (nI y)] w = some (some (.int (nI m * zsum (sOwnF (w.1 2) (sGv (w.1 2) (w.1 3) (w.1 4)) (nI y)) n - sTu (w.1 2) (w.1 3) (w.1 4) n m y m)), zO (sRk w 1 n) ((sRk w 1 n).1 1) B2 (w.1 3) (w.1 4) gv2) := by
      simp only [c_5032, e_5032_0, e_5032_1, e_5032_4, e_5032_5, e_5032_8, e_5032_11, e_5032_12, e_5032_13, e_5032_16, e_5032_17, e_5032_18, e_5032_21, e_5032_24, e_5032_25, e_5032_28, e_5032_31, e_5032_32, e_5032_33, e_5032_34, e_5032_37, e_5032_38, e_5032_41, e_5032_42, e_5032_43, e_5032_46, e_5032_47, e_5032_50, e_5032_51, e_5032_52, e_5032_55, e_5032_56, zk_int, zk_ref, zk_null, zk_none, zk_long, zisR_r, zisR_n, zcl_int, zcl_ref, zcl_null, zpush_s, zpush_n, zbs, zbn, true_or, or_true, not_false_eq_true, not_true_eq_false, ↓reduceIte, and_self, and_true, true_and, ie_0_1, ie_0_2, ie_0_3, ie_0_4, ie_0_5, ie_0_6, ie_0_7, ie_1_0, ie_1_2, ie_1_3, ie_1_4, ie_1_5, ie_1_6, ie_1_7, ie_2_0, ie_2_1, ie_2_3, ie_2_4, ie_2_5, ie_2_6, ie_2_7, ie_3_0, ie_3_1, ie_3_2, ie_3_4, ie_3_5, ie_3_6, ie_3_7, ie_4_0, ie_4_1, ie_4_2, ie_4_3, ie_4_5, ie_4_6, ie_4_7, ie_5_0, ie_5_1, ie_5_2, ie_5_3, ie_5_4, ie_5_6, ie_5_7, ie_6_0, ie_6_1, ie_6_2, ie_6_3, ie_6_4, ie_6_5, ie_6_7, ie_7_0, ie_7_1, ie_7_2, ie_7_3, ie_7_4, ie_7_5, ie_7_6, zt_0, zr_0_0, zt_1, zr_0_3, zt_13, a, r, wc, o, q]
    have M1 := zMc_kp k1 M
    obtain ⟨w2, k2, qm⟩ := m_turnsOf (d := d + 20) (y := y) M1 (by omega : 0 < m) (show m ≤ 30 by omega)
    have q1 := m_isWaiter (d := d + 39) M1.2.1 hy
    have q2 := m_ownOf (d := d + 21) (y := nI y) M1
    refine pr_k A hc k1 ?_ k2
    simp only [c_6077, e_6077_0, e_6077_1, e_6077_2, e_6077_5, e_6077_8, e_6077_9, e_6077_12, e_6077_13, e_6077_14, e_6077_17, e_6077_18, e_6077_19, e_6077_20, e_6077_21, e_6077_24, e_6077_27, e_6077_28, e_6077_31, e_6077_32, e_6077_33, e_6077_36, zk_int, zk_ref, zk_null, zk_none, zk_long, zisR_r, zisR_n, zcl_int, zcl_ref, zcl_null, zpush_s, zpush_n, zbs, zbn, true_or, or_true, not_false_eq_true, not_true_eq_false, ↓reduceIte, and_self, and_true, true_and, ie_0_1, ie_0_2, ie_0_3, ie_0_4, ie_0_5, ie_0_6, ie_0_7, ie_1_0, ie_1_2, ie_1_3, ie_1_4, ie_1_5, ie_1_6, ie_1_7, ie_2_0, ie_2_1, ie_2_3, ie_2_4, ie_2_5, ie_2_6, ie_2_7, ie_3_0, ie_3_1, ie_3_2, ie_3_4, ie_3_5, ie_3_6, ie_3_7, ie_4_0, ie_4_1, ie_4_2, ie_4_3, ie_4_5, ie_4_6, ie_4_7, ie_5_0, ie_5_1, ie_5_2, ie_5_3, ie_5_4, ie_5_6, ie_5_7, ie_6_0, ie_6_1, ie_6_2, ie_6_3, ie_6_4, ie_6_5, ie_6_7, ie_7_0, ie_7_1, ie_7_2, ie_7_3, ie_7_4, ie_7_5, ie_7_6, zt_50, q1, q2, M1.2.1.2.1, qm]
theorem p_worth {x : Int32} (A : zRl w S L n m) : zPr d 5033 6078 [.int x] w S L := by
  have C := rl_C A
  have M := rl_M A
  have hm := rl_m A
  have hz := rl_z1 A
  rcases ix_c x (by omega : m < 1000) with hx | ⟨y, hy, rfl⟩
  · have q1 := m_isWaiter_o (d := d + 39) (zMc_f (j := 1) M).2.1 hx
    have q2 := m_noLow (d := d + 39) (w := fRf w 1) (j := 1) (c := -1) (by decide) (by decide)
    refine pr_f A (by decide) (f_worth_o (d := d + 37) C hx) (zKp_r _) ?_ (zKp_r _)
    simp only [c_6078, e_6078_0, e_6078_1, e_6078_2, e_6078_5, e_6078_8, e_6078_9, e_6078_10, e_6078_13, e_6078_14, e_6078_15, e_6078_18, e_6078_19, e_6078_20, e_6078_23, e_6078_24, e_6078_25, e_6078_26, e_6078_27, e_6078_28, e_6078_29, e_6078_30, e_6078_33, e_6078_34, e_6078_35, e_6078_38, e_6078_39, e_6078_40, e_6078_41, e_6078_42, e_6078_43, e_6078_44, e_6078_45, e_6078_46, e_6078_47, zk_int, zk_ref, zk_null, zk_none, zk_long, zisR_r, zisR_n, zcl_int, zcl_ref, zcl_null, zpush_s, zpush_n, zbs, zbn, true_or, or_true, not_false_eq_true, not_true_eq_false, ↓reduceIte, and_self, and_true, true_and, zt_50, q1, q2]
    rfl
  · have a := q_hasWaiter (d := d + 39) C hy
    obtain ⟨gv, q⟩ := q_worthOf (d := d + 34) hz (rl_z14 A) (rl_Tc A) C hy
    have hc : cal (d + 40) 5033 [.ref 0, .int (nI y)] w = some (some (.int (zsum (sGv (w.1 2) (upd (w.1 3) (6 * y + 0) (w.1 3 (6 * y + 0) + 1)) (w.1 4)) n - zsum (sGv (w.1 2) (w.1 3) (w.1 4)) n)), zO w (w.1 1) (w.1 2) (upd (w.1 3) (6 * y + 0) (w.1 3 (6 * y + 0) + 1)) (w.1 4) gv) := by
      simp only [c_5033, e_5033_0, e_5033_1, e_5033_4, e_5033_5, e_5033_8, e_5033_11, e_5033_12, e_5033_15, e_5033_16, e_5033_19, e_5033_20, e_5033_23, e_5033_26, e_5033_27, e_5033_28, e_5033_31, zk_int, zk_ref, zk_null, zk_none, zk_long, zisR_r, zisR_n, zcl_int, zcl_ref, zcl_null, zpush_s, zpush_n, zbs, zbn, true_or, or_true, not_false_eq_true, not_true_eq_false, ↓reduceIte, and_self, and_true, true_and, ie_0_1, ie_0_2, ie_0_3, ie_0_4, ie_0_5, ie_0_6, ie_0_7, ie_1_0, ie_1_2, ie_1_3, ie_1_4, ie_1_5, ie_1_6, ie_1_7, ie_2_0, ie_2_1, ie_2_3, ie_2_4, ie_2_5, ie_2_6, ie_2_7, ie_3_0, ie_3_1, ie_3_2, ie_3_4, ie_3_5, ie_3_6, ie_3_7, ie_4_0, ie_4_1, ie_4_2, ie_4_3, ie_4_5, ie_4_6, ie_4_7, ie_5_0, ie_5_1, ie_5_2, ie_5_3, ie_5_4, ie_5_6, ie_5_7, ie_6_0, ie_6_1, ie_6_2, ie_6_3, ie_6_4, ie_6_5, ie_6_7, ie_7_0, ie_7_1, ie_7_2, ie_7_3, ie_7_4, ie_7_5, ie_7_6, zt_0, zr_0_0, zt_1, zr_0_3, zt_13, a, q]
    have k1 : zKp w (zO w (w.1 1) (w.1 2) (upd (w.1 3) (6 * y + 0) (w.1 3 (6 * y + 0) + 1)) (w.1 4) gv) := kp_O A hz.1 (fun k hk => by rw [u_ne (by omega)]; exact hz.2.1 k hk) hz.2.2.1 rfl
    exact pr_k A hc k1 (m_worth (d := d + 20) (zMc_kp k1 M) hy (A.1.2.2.1 y hy)) (zKp_r _)
theorem p_raise (A : zRl w S L n m) : zPr d 5034 6079 [] w S L := by
  have M := rl_M A
  have hz := rl_z1 A
  by_cases h : ∃ r, r < 31 ∧ sLa (w.1 2) (w.1 3) (w.1 4) n m r = 0
  · obtain ⟨a0, ha, h0, h1⟩ := least_ex _ _ h
    obtain ⟨x2, gv2, q⟩ := q_leastAdded (d := d + 34) hz (rl_z14 A) (rl_Tc A) ha h0 h1
    have k1 : zKp w (zO w (w.1 1) (w.1 2) (w.1 3) (upd (w.1 4) 1 x2) gv2) := kp_O A hz.1 hz.2.1 (fun k hk => by rw [u_ne (by omega)]; exact hz.2.2.1 k hk) rfl
    have hc : cal (d + 40) 5034 [.ref 0] w = some (some (.int (nI a0)), zO w (w.1 1) (w.1 2) (w.1 3) (upd (w.1 4) 1 x2) gv2) := by
      simp only [c_5034, e_5034_0, e_5034_1, e_5034_4, e_5034_5, e_5034_8, e_5034_11, zk_int, zk_ref, zk_null, zk_none, zk_long, zisR_r, zisR_n, zcl_int, zcl_ref, zcl_null, zpush_s, zpush_n, zbs, zbn, true_or, or_true, not_false_eq_true, not_true_eq_false, ↓reduceIte, and_self, and_true, true_and, ie_0_1, ie_0_2, ie_0_3, ie_0_4, ie_0_5, ie_0_6, ie_0_7, ie_1_0, ie_1_2, ie_1_3, ie_1_4, ie_1_5, ie_1_6, ie_1_7, ie_2_0, ie_2_1, ie_2_3, ie_2_4, ie_2_5, ie_2_6, ie_2_7, ie_3_0, ie_3_1, ie_3_2, ie_3_4, ie_3_5, ie_3_6, ie_3_7, ie_4_0, ie_4_1, ie_4_2, ie_4_3, ie_4_5, ie_4_6, ie_4_7, ie_5_0, ie_5_1, ie_5_2, ie_5_3, ie_5_4, ie_5_6, ie_5_7, ie_6_0, ie_6_1, ie_6_2, ie_6_3, ie_6_4, ie_6_5, ie_6_7, ie_7_0, ie_7_1, ie_7_2, ie_7_3, ie_7_4, ie_7_5, ie_7_6, zt_0, zr_0_0, zt_1, zr_0_3, zt_13, q]
    exact pr_k A hc k1 (m_raise (d := d + 19) (zMc_kp k1 M) ha h0 h1) (zKp_r _)
  · have h1 : ∀ r', r' < 31 → ¬ sLa (w.1 2) (w.1 3) (w.1 4) n m r' = 0 := fun r' hr' h0 => h ⟨r', hr', h0⟩
    obtain ⟨x2, gv2, q⟩ := q_leastAdded_0 (d := d + 34) hz (rl_z14 A) (rl_Tc A) h1
    have k1 : zKp w (zO w (w.1 1) (w.1 2) (w.1 3) (upd (w.1 4) 1 x2) gv2) := kp_O A hz.1 hz.2.1 (fun k hk => by rw [u_ne (by omega)]; exact hz.2.2.1 k hk) rfl
    have hc : cal (d + 40) 5034 [.ref 0] w = some (some (.int (-1)), zO w (w.1 1) (w.1 2) (w.1 3) (upd (w.1 4) 1 x2) gv2) := by
      simp only [c_5034, e_5034_0, e_5034_1, e_5034_4, e_5034_5, e_5034_8, e_5034_11, zk_int, zk_ref, zk_null, zk_none, zk_long, zisR_r, zisR_n, zcl_int, zcl_ref, zcl_null, zpush_s, zpush_n, zbs, zbn, true_or, or_true, not_false_eq_true, not_true_eq_false, ↓reduceIte, and_self, and_true, true_and, ie_0_1, ie_0_2, ie_0_3, ie_0_4, ie_0_5, ie_0_6, ie_0_7, ie_1_0, ie_1_2, ie_1_3, ie_1_4, ie_1_5, ie_1_6, ie_1_7, ie_2_0, ie_2_1, ie_2_3, ie_2_4, ie_2_5, ie_2_6, ie_2_7, ie_3_0, ie_3_1, ie_3_2, ie_3_4, ie_3_5, ie_3_6, ie_3_7, ie_4_0, ie_4_1, ie_4_2, ie_4_3, ie_4_5, ie_4_6, ie_4_7, ie_5_0, ie_5_1, ie_5_2, ie_5_3, ie_5_4, ie_5_6, ie_5_7, ie_6_0, ie_6_1, ie_6_2, ie_6_3, ie_6_4, ie_6_5, ie_6_7, ie_7_0, ie_7_1, ie_7_2, ie_7_3, ie_7_4, ie_7_5, ie_7_6, zt_0, zr_0_0, zt_1, zr_0_3, zt_13, q]
    exact pr_k A hc k1 (m_raise_0 (d := d + 19) (zMc_kp k1 M) h1) (zKp_r _)
end PD
