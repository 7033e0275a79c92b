theorem ix_c (x : Int32) {n : Nat} (hn : n < 1000) : (x < 0 ∨ nI n ≤ x) ∨ ∃ t, t < n ∧ x = nI t := by
  by_cases h0 : x < 0
  · exact Or.inl (Or.inl h0)
  · obtain ⟨j, hj, rfl⟩ := nI_of h0
    rcases Nat.lt_or_ge j n with h | h
    · exact Or.inr ⟨j, h, rfl⟩
    · exact Or.inl (Or.inr (nI_le h hj))
def zPr (d Mc Mm : Nat) (as : List Value) (w : zM) (S : Nat → Int32) (L : Int32) : Prop := ∃ v w1 w2 n m, cal (d + 40) Mc (.ref 0 :: as) w = some (some v, w1) ∧ cal (d + 40) Mm (.ref 50 :: as) w1 = some (some v, w2) ∧ zRl w2 S L n m
section PA
variable {d n m Mc Mm : Nat} {w w1 w2 : zM} {S : Nat → Int32} {L : Int32} {as : List Value} {v : Value}
theorem pr_k (A : zRl w S L n m) (hc : cal (d + 40) Mc (.ref 0 :: as) w = some (some v, w1)) (k1 : zKp w w1) (hm : cal (d + 40) Mm (.ref 50 :: as) w1 = some (some v, w2)) (k2 : zKp w1 w2) : zPr d Mc Mm as w S L :=
  ⟨v, w1, w2, n, m, hc, hm, zRl_k (zRl_k A k1) k2⟩
theorem zKp_m {X Y : zM} {j : Nat} (K : zKp X Y) : zKp (mRf X j) (mRf Y j) := by
  obtain ⟨k1, k2, k3, k4, k5, k6⟩ := K
  have h51 : Y.1 51 = X.1 51 := k1 51 (by unfold zKa; omega)
  have e : ∀ (Z : zM) a, a ≠ 51 → (mRf Z j).1 a = Z.1 a := fun Z a h => zA_n _ _ h
  refine ⟨fun a h => ?_, fun k h => ?_, ?_, fun a h => k4 a h, fun h1 h14 => ?_, fun h26 => ?_⟩
  · by_cases h2 : a = 51
    · subst h2
      unfold mRf
      rw [zA_s, zA_s, h51]
    · rw [e Y a h2, e X a h2]; exact k1 a h
  · rw [e Y 50 (by decide), e X 50 (by decide)]; exact k2 k h
  · rw [e Y 25 (by decide), e X 25 (by decide)]; exact k3
  · have a1 : zHz X 1 := zHz_k (fun b g1 g2 => (e X b (by omega)).symm) h1
    have a14 : zHz X 14 := zHz_k (fun b g1 g2 => (e X b (by omega)).symm) h14
    exact zHz_k (fun b g1 g2 => e Y b (by omega)) (k5 a1 a14)
  · have a26 : zHz X 26 := zHz_k (fun b g1 g2 => (e X b (by omega)).symm) h26
    exact zHz_k (fun b g1 g2 => e Y b (by omega)) (k6 a26)
theorem pr_f {j : Nat} (A : zRl w S L n m) (hj : j < 8) (hc : cal (d + 40) Mc (.ref 0 :: as) w = some (some v, fRf w1 j)) (k1 : zKp w w1) (hm : cal (d + 40) Mm (.ref 50 :: as) (fRf w1 j) = some (some v, mRf w2 j)) (k2 : zKp (fRf w1 j) w2) : zPr d Mc Mm as w S L :=
  ⟨v, _, _, n, m, hc, hm, zRl_k (zRl_f (zRl_k A k1) hj) (zKp_m k2)⟩
theorem rl_C (A : zRl w S L n m) : zHc w 1 n m := A.1.1
theorem rl_M (A : zRl w S L n m) : zMc w (w.1 2) (w.1 3) (w.1 4) n m := A.1.2.1
theorem rl_Hv (A : zRl w S L n m) : zHv w 1 n m := fun t ht => (A.1.2.1.2.2.1 t ht).2.2.2.2
theorem rl_Tc (A : zRl w S L n m) : zTc (w.1 1) (w.1 2) n m := ⟨A.1.1.2.1, A.1.1.2.2.1, A.1.1.2.2.2.1, A.1.1.2.2.2.2, rl_Hv A⟩
theorem rl_z1 (A : zRl w S L n m) : zHz w 1 := A.2.2.2.2.2.2.2.1
theorem rl_z6 (A : zRl w S L n m) : zHz w 6 := A.2.2.2.2.2.2.2.2.1
theorem rl_z14 (A : zRl w S L n m) : zHz w 14 := A.2.2.2.2.2.2.2.2.2.1
theorem rl_z26 (A : zRl w S L n m) : zHz w 26 := A.2.2.2.2.2.2.2.2.2.2
theorem rl_n (A : zRl w S L n m) : n ≤ 8 := A.1.1.2.2.1
theorem rl_m (A : zRl w S L n m) : m ≤ 4 := A.1.1.2.2.2.2
theorem zMc_kp {T V G : Nat → Int32} (K : zKp w w2) (C : zMc w T V G n m) : zMc w2 T V G n m := by
  obtain ⟨k1, k2, k3, k4, k5, k6⟩ := K
  exact ⟨zMs_k C.1 ⟨k2 2 (by omega), k2 3 (by omega)⟩ (fun a h1 h2 => k1 a (by unfold zKa; omega)), zMn_k C.2.1 (k2 0 (by omega)) (k2 1 (by omega)), C.2.2⟩
theorem zMc_f {T V G : Nat → Int32} {j : Nat} (C : zMc w T V G n m) : zMc (fRf w j) T V G n m :=
  ⟨zMs_k C.1 ⟨by unfold fRf; rw [zA_n _ _ (by decide)], by unfold fRf; rw [zA_n _ _ (by decide)]⟩ (fun a h1 h2 => zA_n _ _ (by omega)), zMn_k C.2.1 (by unfold fRf; rw [zA_n _ _ (by decide)]) (by unfold fRf; rw [zA_n _ _ (by decide)]), C.2.2⟩
theorem kp_rk {j : Nat} : zKp w (sRk w 1 j) := zKp_A (by unfold zKa; omega) (by omega) (by omega) (by omega)
theorem rl_T (K : zKp w w1) : w1.1 1 = w.1 1 ∧ w1.1 2 = w.1 2 ∧ w1.1 3 = w.1 3 ∧ w1.1 4 = w.1 4 :=
  ⟨K.1 1 (by unfold zKa; omega), K.1 2 (by unfold zKa; omega), K.1 3 (by unfold zKa; omega), K.1 4 (by unfold zKa; omega)⟩
end PA
section PB
variable {d n m : Nat} {w : zM} {S : Nat → Int32} {L : Int32}
theorem f_wld {t : Nat} (C : zHc w 1 n m) (Hv : zHv w 1 n m) (ht : t < n) : cal (d + 5) 5018 [.ref 0, .int (nI t)] w = some (some (.int (sWould (w.1 2) (w.1 4) t (sSvc (w.1 3) (sSrv (w.1 2) t)) (sAhd (sGv (w.1 2) (w.1 3) (w.1 4)) t))), sRk w 1 n) := by
  have r := q_reckon (d := d) (w := w) C Hv
  have hT := q_hasTable (d := d + 4) (f_rkC C n) ht
  have Hv' : zHv (sRk w 1 n) 1 n m := fun t ht => by
    obtain ⟨y, h1, h2⟩ := Hv t ht
    exact ⟨y, h1, by rw [f_rkn _ _ (by decide)]; exact h2⟩
  have g := q_wouldGiveAt (d := d) (f_rkC C n) Hv' ht
  have e5 := f_rk5 w n
  have e2 : (sRk w 1 n).1 (1 + 1) = w.1 2 := f_rkn _ _ (by decide)
  have e3 : (sRk w 1 n).1 (1 + 2) = w.1 3 := f_rkn _ _ (by decide)
  have e4 : (sRk w 1 n).1 (1 + 3) = w.1 4 := f_rkn _ _ (by decide)
  have ea : sAhd ((sRk w 1 n).1 (1 + 4)) t = sAhd (sGv (w.1 2) (w.1 3) (w.1 4)) t := by
    rw [show (1 + 4 : Nat) = 5 from rfl, e5]
    cases t with
    | zero => rw [sAhd_0, sAhd_0]
    | succ t => rw [sAhd_s, sAhd_s]; exact if_pos (by omega)
  rw [e2, e3, e4, ea] at g
  simp only [c_5018, e_5018_0, e_5018_1, e_5018_4, e_5018_7, e_5018_8, e_5018_11, e_5018_12, e_5018_15, e_5018_18, e_5018_19, e_5018_22, e_5018_23, e_5018_26, e_5018_29, e_5018_30, e_5018_31, e_5018_34, zk_int, zk_ref, zk_null, zk_none, zk_long, zisR_r, zisR_n, zcl_int, zcl_ref, zcl_null, zpush_s, zpush_n, zbs, zbn, true_or, or_true, not_false_eq_true, not_true_eq_false, ↓reduceIte, and_self, and_true, true_and, zt_0, zr_0_0, zt_1, r, hT, g, ie_0_1, ie_0_2, ie_0_3, ie_0_4, ie_0_5, ie_0_6, ie_0_7, ie_1_0, ie_1_2, ie_1_3, ie_1_4, ie_1_5, ie_1_6, ie_1_7, ie_2_0, ie_2_1, ie_2_3, ie_2_4, ie_2_5, ie_2_6, ie_2_7, ie_3_0, ie_3_1, ie_3_2, ie_3_4, ie_3_5, ie_3_6, ie_3_7, ie_4_0, ie_4_1, ie_4_2, ie_4_3, ie_4_5, ie_4_6, ie_4_7, ie_5_0, ie_5_1, ie_5_2, ie_5_3, ie_5_4, ie_5_6, ie_5_7, ie_6_0, ie_6_1, ie_6_2, ie_6_3, ie_6_4, ie_6_5, ie_6_7, ie_7_0, ie_7_1, ie_7_2, ie_7_3, ie_7_4, ie_7_5, ie_7_6]
theorem p_would {x : Int32} (A : zRl w S L n m) : zPr d 5018 6048 [.int x] w S L := by
  have C := rl_C A
  have M := rl_M A
  have hn := rl_n A
  rcases ix_c x (by omega : n < 1000) with hx | ⟨t, ht, rfl⟩
  · have MF := zMc_f (j := 1) (zMc_kp (kp_rk (j := n)) M)
    have q1 := m_isTable_o (d := d + 39) MF.2.1 hx
    have q2 := m_no (d := d + 39) (w := fRf (sRk w 1 n) 1) (j := 1) (c := -1) (by decide) (by decide)
    refine pr_f A (by decide) (f_wld_o (d := d + 35) C (rl_Hv A) hx) kp_rk ?_ (zKp_r _)
    simp only [c_6048, e_6048_0, e_6048_1, e_6048_2, e_6048_5, e_6048_8, e_6048_9, e_6048_10, e_6048_13, e_6048_16, e_6048_17, e_6048_18, e_6048_21, zk_int, zk_ref, zk_null, zk_none, zk_long, zisR_r, zisR_n, zcl_int, zcl_ref, zcl_null, zpush_s, zpush_n, zbs, zbn, true_or, or_true, not_false_eq_true, not_true_eq_false, ↓reduceIte, and_self, and_true, true_and, zt_50, q1, q2]
  · have M1 := zMc_kp (kp_rk (j := n)) M
    have q1 := m_isTable (d := d + 39) M1.2.1 ht
    have q2 := m_wouldAt (d := d + 21) M1 ht
    refine pr_k A (f_wld (d := d + 35) C (rl_Hv A) ht) kp_rk ?_ (zKp_r _)
    simp only [c_6048, e_6048_0, e_6048_1, e_6048_2, e_6048_5, e_6048_8, e_6048_9, e_6048_10, e_6048_13, e_6048_16, e_6048_17, e_6048_18, e_6048_21, zk_int, zk_ref, zk_null, zk_none, zk_long, zisR_r, zisR_n, zcl_int, zcl_ref, zcl_null, zpush_s, zpush_n, zbs, zbn, true_or, or_true, not_false_eq_true, not_true_eq_false, ↓reduceIte, and_self, and_true, true_and, zt_50, q1, q2, ie_0_1, ie_0_2, ie_0_3, ie_0_4, ie_0_5, ie_0_6, ie_0_7, ie_1_0, ie_1_2, ie_1_3, ie_1_4, ie_1_5, ie_1_6, ie_1_7, ie_2_0, ie_2_1, ie_2_3, ie_2_4, ie_2_5, ie_2_6, ie_2_7, ie_3_0, ie_3_1, ie_3_2, ie_3_4, ie_3_5, ie_3_6, ie_3_7, ie_4_0, ie_4_1, ie_4_2, ie_4_3, ie_4_5, ie_4_6, ie_4_7, ie_5_0, ie_5_1, ie_5_2, ie_5_3, ie_5_4, ie_5_6, ie_5_7, ie_6_0, ie_6_1, ie_6_2, ie_6_3, ie_6_4, ie_6_5, ie_6_7, ie_7_0, ie_7_1, ie_7_2, ie_7_3, ie_7_4, ie_7_5, ie_7_6]
theorem p_gives {x : Int32} (A : zRl w S L n m) : zPr d 5019 6049 [.int x] w S L := by
  have C := rl_C A
  have M := rl_M A
  have hn := rl_n A
  rcases ix_c x (by omega : n < 1000) with hx | ⟨t, ht, rfl⟩
  · have MF := zMc_f (j := 1) (zMc_kp (kp_rk (j := n)) M)
    have q1 := m_isTable_o (d := d + 39) MF.2.1 hx
    have q2 := m_no (d := d + 39) (w := fRf (sRk w 1 n) 1) (j := 1) (c := -1) (by decide) (by decide)
    refine pr_f A (by decide) (f_giv_o (d := d + 35) C (rl_Hv A) hx) kp_rk ?_ (zKp_r _)
    simp only [c_6049, e_6049_0, e_6049_1, e_6049_2, e_6049_5, e_6049_8, e_6049_9, e_6049_10, e_6049_13, e_6049_16, e_6049_17, e_6049_18, e_6049_21, zk_int, zk_ref, zk_null, zk_none, zk_long, zisR_r, zisR_n, zcl_int, zcl_ref, zcl_null, zpush_s, zpush_n, zbs, zbn, true_or, or_true, not_false_eq_true, not_true_eq_false, ↓reduceIte, and_self, and_true, true_and, zt_50, q1, q2]
  · have M1 := zMc_kp (kp_rk (j := n)) M
    have q1 := m_isTable (d := d + 39) M1.2.1 ht
    have q2 := m_givesOf (d := d + 22) M1 ht
    refine pr_k A (f_giv (d := d + 35) C (rl_Hv A) ht) kp_rk ?_ (zKp_r _)
    simp only [c_6049, e_6049_0, e_6049_1, e_6049_2, e_6049_5, e_6049_8, e_6049_9, e_6049_10, e_6049_13, e_6049_16, e_6049_17, e_6049_18, e_6049_21, zk_int, zk_ref, zk_null, zk_none, zk_long, zisR_r, zisR_n, zcl_int, zcl_ref, zcl_null, zpush_s, zpush_n, zbs, zbn, true_or, or_true, not_false_eq_true, not_true_eq_false, ↓reduceIte, and_self, and_true, true_and, zt_50, q1, q2, ie_0_1, ie_0_2, ie_0_3, ie_0_4, ie_0_5, ie_0_6, ie_0_7, ie_1_0, ie_1_2, ie_1_3, ie_1_4, ie_1_5, ie_1_6, ie_1_7, ie_2_0, ie_2_1, ie_2_3, ie_2_4, ie_2_5, ie_2_6, ie_2_7, ie_3_0, ie_3_1, ie_3_2, ie_3_4, ie_3_5, ie_3_6, ie_3_7, ie_4_0, ie_4_1, ie_4_2, ie_4_3, ie_4_5, ie_4_6, ie_4_7, ie_5_0, ie_5_1, ie_5_2, ie_5_3, ie_5_4, ie_5_6, ie_5_7, ie_6_0, ie_6_1, ie_6_2, ie_6_3, ie_6_4, ie_6_5, ie_6_7, ie_7_0, ie_7_1, ie_7_2, ie_7_3, ie_7_4, ie_7_5, ie_7_6]
theorem p_all (A : zRl w S L n m) : zPr d 5020 6051 [] w S L := by
  have M1 := zMc_kp (kp_rk (j := n)) (rl_M A)
  have q2 := m_allGiven (d := d + 21) M1
  refine pr_k A (f_all (d := d + 35) (rl_C A) (rl_Hv A)) kp_rk ?_ (zKp_r _)
  simp only [c_6051, e_6051_0, e_6051_1, e_6051_4, zk_int, zk_ref, zk_null, zk_none, zk_long, zisR_r, zisR_n, zcl_int, zcl_ref, zcl_null, zpush_s, zpush_n, zbs, zbn, true_or, or_true, not_false_eq_true, not_true_eq_false, ↓reduceIte, and_self, and_true, true_and, zt_50, q2]
theorem f_share_5 {y : Nat} {x : Int32} (C : zHc w 1 n m) (hy : y < m) (h0 : ¬ x = 0) (h1 : ¬ x = 1) : cal (d + 5) 5021 [.ref 0, .int (nI y), .int x] w = some (some (.int (-5)), fRf w 5) := by
  have a := q_hasWaiter (d := d + 4) C hy
  have r := f_refuse (d := d + 3) (w := w) (c := -5) (j := 5) (by decide) (by decide)
  simp only [c_5021, e_5021_0, e_5021_1, e_5021_4, e_5021_5, e_5021_8, e_5021_11, e_5021_12, e_5021_13, e_5021_16, e_5021_17, e_5021_18, e_5021_21, e_5021_22, e_5021_23, e_5021_26, e_5021_27, e_5021_29, e_5021_32, e_5021_33, e_5021_34, e_5021_37, e_5021_40, e_5021_41, e_5021_44, e_5021_45, e_5021_48, e_5021_49, e_5021_52, e_5021_55, e_5021_56, e_5021_59, e_5021_60, e_5021_63, zk_int, zk_ref, zk_null, zk_none, zk_long, zisR_r, zisR_n, zcl_int, zcl_ref, zcl_null, zpush_s, zpush_n, zbs, zbn, true_or, or_true, not_false_eq_true, not_true_eq_false, ↓reduceIte, and_self, and_true, true_and, zt_0, zr_0_0, zt_1, a, r, h0, h1, ie_0_1, ie_0_2, ie_0_3, ie_0_4, ie_0_5, ie_0_6, ie_0_7, ie_1_0, ie_1_2, ie_1_3, ie_1_4, ie_1_5, ie_1_6, ie_1_7, ie_2_0, ie_2_1, ie_2_3, ie_2_4, ie_2_5, ie_2_6, ie_2_7, ie_3_0, ie_3_1, ie_3_2, ie_3_4, ie_3_5, ie_3_6, ie_3_7, ie_4_0, ie_4_1, ie_4_2, ie_4_3, ie_4_5, ie_4_6, ie_4_7, ie_5_0, ie_5_1, ie_5_2, ie_5_3, ie_5_4, ie_5_6, ie_5_7, ie_6_0, ie_6_1, ie_6_2, ie_6_3, ie_6_4, ie_6_5, ie_6_7, ie_7_0, ie_7_1, ie_7_2, ie_7_3, ie_7_4, ie_7_5, ie_7_6]
theorem f_share {y : Nat} {x : Int32} (C : zHc w 1 n m) (Hv : zHv w 1 n m) (hy : y < m) (hx : x = 0 ∨ x = 1) : cal (d + 5) 5021 [.ref 0, .int (nI y), .int x] w = some (some (.int (if x = 0 then zsum (sOwnF (w.1 2) (sGv (w.1 2) (w.1 3) (w.1 4)) (nI y)) n else sShr (w.1 2) (w.1 3) (w.1 4) (sGv (w.1 2) (w.1 3) (w.1 4)) n m y)), sRk w 1 n) := by
  have a := q_hasWaiter (d := d + 4) C hy
  have r := q_reckon (d := d) (w := w) C Hv
  have o := q_ownOf (d := d + 2) (y := nI y) (f_rkC C n)
  have s := q_shareOf (d := d + 1) (f_rkC C n) hy
  have e5 := f_rk5 w n
  have e2 : (sRk w 1 n).1 (1 + 1) = w.1 2 := f_rkn _ _ (by decide)
  have e3 : (sRk w 1 n).1 (1 + 2) = w.1 3 := f_rkn _ _ (by decide)
  have e4 : (sRk w 1 n).1 (1 + 3) = w.1 4 := f_rkn _ _ (by decide)
  have e6 : (sRk w 1 n).1 (1 + 4) = zcpy (sGv (w.1 2) (w.1 3) (w.1 4)) (w.1 5) n := e5
  rw [e2, e6, sOwn_g (zcpy_lt _ _ n)] at o
  rw [e2, e3, e4, e6, sShr_g (zcpy_lt _ _ n)] at s
  rcases hx with rfl | rfl
  · rw [if_pos rfl]
    simp only [c_5021, e_5021_0, e_5021_1, e_5021_4, e_5021_5, e_5021_8, e_5021_11, e_5021_12, e_5021_13, e_5021_16, e_5021_17, e_5021_18, e_5021_21, e_5021_22, e_5021_23, e_5021_26, e_5021_27, e_5021_29, e_5021_32, e_5021_33, e_5021_34, e_5021_37, e_5021_40, e_5021_41, e_5021_44, e_5021_45, e_5021_48, e_5021_49, e_5021_52, e_5021_55, e_5021_56, e_5021_59, e_5021_60, e_5021_63, zk_int, zk_ref, zk_null, zk_none, zk_long, zisR_r, zisR_n, zcl_int, zcl_ref, zcl_null, zpush_s, zpush_n, zbs, zbn, true_or, or_true, not_false_eq_true, not_true_eq_false, ↓reduceIte, and_self, and_true, true_and, zt_0, zr_0_0, zt_1, a, r, o, ie_0_1, ie_0_2, ie_0_3, ie_0_4, ie_0_5, ie_0_6, ie_0_7, ie_1_0, ie_1_2, ie_1_3, ie_1_4, ie_1_5, ie_1_6, ie_1_7, ie_2_0, ie_2_1, ie_2_3, ie_2_4, ie_2_5, ie_2_6, ie_2_7, ie_3_0, ie_3_1, ie_3_2, ie_3_4, ie_3_5, ie_3_6, ie_3_7, ie_4_0, ie_4_1, ie_4_2, ie_4_3, ie_4_5, ie_4_6, ie_4_7, ie_5_0, ie_5_1, ie_5_2, ie_5_3, ie_5_4, ie_5_6, ie_5_7, ie_6_0, ie_6_1, ie_6_2, ie_6_3, ie_6_4, ie_6_5, ie_6_7, ie_7_0, ie_7_1, ie_7_2, ie_7_3, ie_7_4, ie_7_5, ie_7_6]
  · rw [if_neg (by decide)]
    simp only [c_5021, e_5021_0, e_5021_1, e_5021_4, e_5021_5, e_5021_8, e_5021_11, e_5021_12, e_5021_13, e_5021_16, e_5021_17, e_5021_18, e_5021_21, e_5021_22, e_5021_23, e_5021_26, e_5021_27, e_5021_29, e_5021_32, e_5021_33, e_5021_34, e_5021_37, e_5021_40, e_5021_41, e_5021_44, e_5021_45, e_5021_48, e_5021_49, e_5021_52, e_5021_55, e_5021_56, e_5021_59, e_5021_60, e_5021_63, zk_int, zk_ref, zk_null, zk_none, zk_long, zisR_r, zisR_n, zcl_int, zcl_ref, zcl_null, zpush_s, zpush_n, zbs, zbn, true_or, or_true, not_false_eq_true, not_true_eq_false, ↓reduceIte, and_self, and_true, true_and, zt_0, zr_0_0, zt_1, a, r, s, ie_0_1, ie_0_2, ie_0_3, ie_0_4, ie_0_5, ie_0_6, ie_0_7, ie_1_0, ie_1_2, ie_1_3, ie_1_4, ie_1_5, ie_1_6, ie_1_7, ie_2_0, ie_2_1, ie_2_3, ie_2_4, ie_2_5, ie_2_6, ie_2_7, ie_3_0, ie_3_1, ie_3_2, ie_3_4, ie_3_5, ie_3_6, ie_3_7, ie_4_0, ie_4_1, ie_4_2, ie_4_3, ie_4_5, ie_4_6, ie_4_7, ie_5_0, ie_5_1, ie_5_2, ie_5_3, ie_5_4, ie_5_6, ie_5_7, ie_6_0, ie_6_1, ie_6_2, ie_6_3, ie_6_4, ie_6_5, ie_6_7, ie_7_0, ie_7_1, ie_7_2, ie_7_3, ie_7_4, ie_7_5, ie_7_6]
theorem p_share {x k : Int32} (A : zRl w S L n m) : zPr d 5021 6054 [.int x, .int k] w S L := by
  have C := rl_C A
  have M := rl_M A
  have hm := rl_m A
  rcases ix_c x (by omega : m < 1000) with hx | ⟨y, hy, rfl⟩
  · have q1 := m_isWaiter_o (d := d + 39) (zMc_f (j := 1) M).2.1 hx
    have q2 := m_no (d := d + 39) (w := fRf w 1) (j := 1) (c := -1) (by decide) (by decide)
    refine pr_f A (by decide) (f_share_o (d := d + 37) C hx) (zKp_r _) ?_ (zKp_r _)
    simp only [c_6054, e_6054_0, e_6054_1, e_6054_2, e_6054_5, e_6054_8, e_6054_9, e_6054_10, e_6054_13, e_6054_14, e_6054_15, e_6054_18, e_6054_19, e_6054_20, e_6054_23, e_6054_24, e_6054_26, e_6054_29, e_6054_30, e_6054_31, e_6054_34, e_6054_35, e_6054_36, e_6054_39, e_6054_42, e_6054_43, e_6054_44, e_6054_47, zk_int, zk_ref, zk_null, zk_none, zk_long, zisR_r, zisR_n, zcl_int, zcl_ref, zcl_null, zpush_s, zpush_n, zbs, zbn, true_or, or_true, not_false_eq_true, not_true_eq_false, ↓reduceIte, and_self, and_true, true_and, zt_50, q1, q2]
  · by_cases h0 : k = 0
    · subst h0
      have M1 := zMc_kp (kp_rk (j := n)) M
      have q1 := m_isWaiter (d := d + 39) M1.2.1 hy
      have q2 := m_ownOf (d := d + 21) (y := nI y) M1
      have hc := f_share (d := d + 35) (x := 0) C (rl_Hv A) hy (Or.inl rfl)
      rw [if_pos rfl] at hc
      refine pr_k A hc kp_rk ?_ (zKp_r _)
      have l1 : ((0 : Int32) < 0) = False := eq_false (by decide)
      have l2 : ((0 : Int32) ≤ 1) = True := eq_true (by decide)
      simp only [c_6054, e_6054_0, e_6054_1, e_6054_2, e_6054_5, e_6054_8, e_6054_9, e_6054_10, e_6054_13, e_6054_14, e_6054_15, e_6054_18, e_6054_19, e_6054_20, e_6054_23, e_6054_24, e_6054_26, e_6054_29, e_6054_30, e_6054_31, e_6054_34, e_6054_35, e_6054_36, e_6054_39, e_6054_42, e_6054_43, e_6054_44, e_6054_47, zk_int, zk_ref, zk_null, zk_none, zk_long, zisR_r, zisR_n, zcl_int, zcl_ref, zcl_null, zpush_s, zpush_n, zbs, zbn, true_or, or_true, not_false_eq_true, not_true_eq_false, ↓reduceIte, and_self, and_true, true_and, zt_50, q1, q2, ie_0_1, ie_0_2, ie_0_3, ie_0_4, ie_0_5, ie_0_6, ie_0_7, ie_1_0, ie_1_2, ie_1_3, ie_1_4, ie_1_5, ie_1_6, ie_1_7, ie_2_0, ie_2_1, ie_2_3, ie_2_4, ie_2_5, ie_2_6, ie_2_7, ie_3_0, ie_3_1, ie_3_2, ie_3_4, ie_3_5, ie_3_6, ie_3_7, ie_4_0, ie_4_1, ie_4_2, ie_4_3, ie_4_5, ie_4_6, ie_4_7, ie_5_0, ie_5_1, ie_5_2, ie_5_3, ie_5_4, ie_5_6, ie_5_7, ie_6_0, ie_6_1, ie_6_2, ie_6_3, ie_6_4, ie_6_5, ie_6_7, ie_7_0, ie_7_1, ie_7_2, ie_7_3, ie_7_4, ie_7_5, ie_7_6, l1, l2]
    · by_cases h1 : k = 1
      · subst h1
        have M1 := zMc_kp (kp_rk (j := n)) M
        have q1 := m_isWaiter (d := d + 39) M1.2.1 hy
        have q2 := m_shareOf (d := d + 20) M1 hy
        have hc := f_share (d := d + 35) (x := 1) C (rl_Hv A) hy (Or.inr rfl)
        rw [if_neg (by decide)] at hc
        refine pr_k A hc kp_rk ?_ (zKp_r _)
        have l1 : ((1 : Int32) < 0) = False := eq_false (by decide)
        have l2 : ((1 : Int32) ≤ 1) = True := eq_true (by decide)
        simp only [c_6054, e_6054_0, e_6054_1, e_6054_2, e_6054_5, e_6054_8, e_6054_9, e_6054_10, e_6054_13, e_6054_14, e_6054_15, e_6054_18, e_6054_19, e_6054_20, e_6054_23, e_6054_24, e_6054_26, e_6054_29, e_6054_30, e_6054_31, e_6054_34, e_6054_35, e_6054_36, e_6054_39, e_6054_42, e_6054_43, e_6054_44, e_6054_47, zk_int, zk_ref, zk_null, zk_none, zk_long, zisR_r, zisR_n, zcl_int, zcl_ref, zcl_null, zpush_s, zpush_n, zbs, zbn, true_or, or_true, not_false_eq_true, not_true_eq_false, ↓reduceIte, and_self, and_true, true_and, zt_50, q1, q2, ie_0_1, ie_0_2, ie_0_3, ie_0_4, ie_0_5, ie_0_6, ie_0_7, ie_1_0, ie_1_2, ie_1_3, ie_1_4, ie_1_5, ie_1_6, ie_1_7, ie_2_0, ie_2_1, ie_2_3, ie_2_4, ie_2_5, ie_2_6, ie_2_7, ie_3_0, ie_3_1, ie_3_2, ie_3_4, ie_3_5, ie_3_6, ie_3_7, ie_4_0, ie_4_1, ie_4_2, ie_4_3, ie_4_5, ie_4_6, ie_4_7, ie_5_0, ie_5_1, ie_5_2, ie_5_3, ie_5_4, ie_5_6, ie_5_7, ie_6_0, ie_6_1, ie_6_2, ie_6_3, ie_6_4, ie_6_5, ie_6_7, ie_7_0, ie_7_1, ie_7_2, ie_7_3, ie_7_4, ie_7_5, ie_7_6, l1, l2]
      · have q1 := m_isWaiter (d := d + 39) (zMc_f (j := 5) M).2.1 hy
        have q2 := m_no (d := d + 39) (w := fRf w 5) (j := 5) (c := -5) (by decide) (by decide)
        refine pr_f A (by decide) (f_share_5 (d := d + 35) C hy h0 h1) (zKp_r _) ?_ (zKp_r _)
        by_cases l1 : k < 0
        · simp only [c_6054, e_6054_0, e_6054_1, e_6054_2, e_6054_5, e_6054_8, e_6054_9, e_6054_10, e_6054_13, e_6054_14, e_6054_15, e_6054_18, e_6054_19, e_6054_20, e_6054_23, e_6054_24, e_6054_26, e_6054_29, e_6054_30, e_6054_31, e_6054_34, e_6054_35, e_6054_36, e_6054_39, e_6054_42, e_6054_43, e_6054_44, e_6054_47, zk_int, zk_ref, zk_null, zk_none, zk_long, zisR_r, zisR_n, zcl_int, zcl_ref, zcl_null, zpush_s, zpush_n, zbs, zbn, true_or, or_true, not_false_eq_true, not_true_eq_false, ↓reduceIte, and_self, and_true, true_and, zt_50, q1, q2, ie_0_1, ie_0_2, ie_0_3, ie_0_4, ie_0_5, ie_0_6, ie_0_7, ie_1_0, ie_1_2, ie_1_3, ie_1_4, ie_1_5, ie_1_6, ie_1_7, ie_2_0, ie_2_1, ie_2_3, ie_2_4, ie_2_5, ie_2_6, ie_2_7, ie_3_0, ie_3_1, ie_3_2, ie_3_4, ie_3_5, ie_3_6, ie_3_7, ie_4_0, ie_4_1, ie_4_2, ie_4_3, ie_4_5, ie_4_6, ie_4_7, ie_5_0, ie_5_1, ie_5_2, ie_5_3, ie_5_4, ie_5_6, ie_5_7, ie_6_0, ie_6_1, ie_6_2, ie_6_3, ie_6_4, ie_6_5, ie_6_7, ie_7_0, ie_7_1, ie_7_2, ie_7_3, ie_7_4, ie_7_5, ie_7_6, l1]
        · have l2 : (k ≤ 1) = False := eq_false (by
            rw [ti_le]
            rw [ti_lt] at l1
            rw [ti_eq] at h0 h1
            rw [ti_0] at h0 l1
            rw [ti_1] at h1
            rw [ti_1]
            omega)
          simp only [c_6054, e_6054_0, e_6054_1, e_6054_2, e_6054_5, e_6054_8, e_6054_9, e_6054_10, e_6054_13, e_6054_14, e_6054_15, e_6054_18, e_6054_19, e_6054_20, e_6054_23, e_6054_24, e_6054_26, e_6054_29, e_6054_30, e_6054_31, e_6054_34, e_6054_35, e_6054_36, e_6054_39, e_6054_42, e_6054_43, e_6054_44, e_6054_47, zk_int, zk_ref, zk_null, zk_none, zk_long, zisR_r, zisR_n, zcl_int, zcl_ref, zcl_null, zpush_s, zpush_n, zbs, zbn, true_or, or_true, not_false_eq_true, not_true_eq_false, ↓reduceIte, and_self, and_true, true_and, zt_50, q1, q2, ie_0_1, ie_0_2, ie_0_3, ie_0_4, ie_0_5, ie_0_6, ie_0_7, ie_1_0, ie_1_2, ie_1_3, ie_1_4, ie_1_5, ie_1_6, ie_1_7, ie_2_0, ie_2_1, ie_2_3, ie_2_4, ie_2_5, ie_2_6, ie_2_7, ie_3_0, ie_3_1, ie_3_2, ie_3_4, ie_3_5, ie_3_6, ie_3_7, ie_4_0, ie_4_1, ie_4_2, ie_4_3, ie_4_5, ie_4_6, ie_4_7, ie_5_0, ie_5_1, ie_5_2, ie_5_3, ie_5_4, ie_5_6, ie_5_7, ie_6_0, ie_6_1, ie_6_2, ie_6_3, ie_6_4, ie_6_5, ie_6_7, ie_7_0, ie_7_1, ie_7_2, ie_7_3, ie_7_4, ie_7_5, ie_7_6, l1, l2]
theorem p_leavers (A : zRl w S L n m) : zPr d 5028 6069 [] w S L := by
  have C := rl_C A
  have M1 := zMc_kp (kp_rk (j := n)) (rl_M A)
  have q2 := m_leavers (d := d + 20) M1
  have r := q_reckon (d := d + 35) (w := w) C (rl_Hv A)
  have l := q_leaverBits (d := d + 35) (f_rkC C n)
  have e2 : (sRk w 1 n).1 (1 + 1) = w.1 2 := f_rkn _ _ (by decide)
  have e3 : (sRk w 1 n).1 (1 + 2) = w.1 3 := f_rkn _ _ (by decide)
  have e4 : (sRk w 1 n).1 (1 + 3) = w.1 4 := f_rkn _ _ (by decide)
  have e6 : (sRk w 1 n).1 (1 + 4) = zcpy (sGv (w.1 2) (w.1 3) (w.1 4)) (w.1 5) n := f_rk5 w n
  rw [e2, e3, e4, e6, sLv_g (zcpy_lt _ _ n)] at l
  have hc : cal (d + 40) 5028 [.ref 0] w = some (some (.int (sLv (w.1 2) (w.1 3) (w.1 4) n m)), sRk w 1 n) := by
    simp only [c_5028, e_5028_0, e_5028_1, e_5028_4, e_5028_7, e_5028_8, e_5028_11, e_5028_14, zk_int, zk_ref, zk_null, zk_none, zk_long, zisR_r, zisR_n, zcl_int, zcl_ref, zcl_null, zpush_s, zpush_n, zbs, zbn, true_or, or_true, not_false_eq_true, not_true_eq_false, ↓reduceIte, and_self, and_true, true_and, zt_0, zr_0_0, zt_1, r, l]
    rfl
  exact pr_k A hc kp_rk q2 (zKp_r _)
theorem zt_13' : zTag 13 = 2 := zt_13
theorem kp_O {F T V G gv : Nat → Int32} (A : zRl w S L n m) (hT : ∀ k, 40 ≤ k → T k = 0) (hV : ∀ k, 24 ≤ k → V k = 0) (hG : ∀ k, 5 ≤ k → G k = 0) (hF : F = w.1 1) : zKp w (zO w F T V G gv) :=
  zKp_O (fun H => ⟨hT, hV, hG, by rw [hF]; exact H.2.2.2⟩)
theorem p_gain {x e : Int32} (A : zRl w S L n m) : zPr d 5022 6057 [.int x, .int e] w S L := by
  have C := rl_C A
  have M := rl_M A
  have hm := rl_m A
  have hz := rl_z1 A
  rcases ix_c x (by omega : m < 1000) with hx | ⟨y, hy, rfl⟩
  · have q1 := m_isWaiter_o (d := d + 39) (zMc_f (j := 1) M).2.1 hx
    have q2 := m_noLow (d := d + 39) (w := fRf w 1) (j := 1) (c := -1) (by decide) (by decide)
    have hc := f_gain_o (d := d + 37) (y := e) C hx
    refine pr_f A (by decide) hc (zKp_r _) ?_ (zKp_r _)
    simp only [c_6057, e_6057_0, e_6057_1, e_6057_2, e_6057_5, e_6057_8, e_6057_9, e_6057_10, e_6057_13, e_6057_14, e_6057_15, e_6057_16, e_6057_19, e_6057_20, e_6057_21, e_6057_24, e_6057_25, e_6057_27, e_6057_30, e_6057_31, e_6057_32, e_6057_33, e_6057_36, e_6057_37, e_6057_38, e_6057_41, e_6057_44, e_6057_45, e_6057_46, e_6057_47, e_6057_50, zk_int, zk_ref, zk_null, zk_none, zk_long, zisR_r, zisR_n, zcl_int, zcl_ref, zcl_null, zpush_s, zpush_n, zbs, zbn, true_or, or_true, not_false_eq_true, not_true_eq_false, ↓reduceIte, and_self, and_true, true_and, zt_50, q1, q2]
    rfl
  · have a := q_hasWaiter (d := d + 39) C hy
    by_cases he : e = -1
    · subst he
      have g := q_gainWith (d := d + 34) (v := w.1 3 (6 * y + 1)) hz (rl_z14 A) (rl_Tc A) hy
      rw [upd_id] at g
      have p := q_waiterPart_1 (d := d + 38) C hy
      have hc : cal (d + 40) 5022 [.ref 0, .int (nI y), .int (-1)] w = some (some (.int (sGn (w.1 2) (w.1 3) (w.1 4) n m y)), zO w (w.1 1) (w.1 2) (w.1 3) (w.1 4) (zcpy (sGv (w.1 2) (w.1 3) (w.1 4)) (w.1 18) n)) := by
        simp only [c_5022, e_5022_0, e_5022_1, e_5022_4, e_5022_5, e_5022_8, e_5022_11, e_5022_12, e_5022_13, e_5022_16, e_5022_17, e_5022_18, e_5022_19, e_5022_22, e_5022_23, e_5022_24, e_5022_27, e_5022_30, e_5022_31, e_5022_33, e_5022_36, e_5022_37, e_5022_38, e_5022_41, e_5022_42, e_5022_45, e_5022_46, e_5022_47, e_5022_48, e_5022_51, e_5022_52, e_5022_55, e_5022_56, e_5022_57, e_5022_60, e_5022_63, e_5022_64, e_5022_67, zk_int, zk_ref, zk_null, zk_none, zk_long, zisR_r, zisR_n, zcl_int, zcl_ref, zcl_null, zpush_s, zpush_n, zbs, zbn, true_or, or_true, not_false_eq_true, not_true_eq_false, ↓reduceIte, and_self, and_true, true_and, zt_0, zr_0_0, zt_1, zr_0_3, zt_13, a, p, g, ie_0_1, ie_0_2, ie_0_3, ie_0_4, ie_0_5, ie_0_6, ie_0_7, ie_1_0, ie_1_2, ie_1_3, ie_1_4, ie_1_5, ie_1_6, ie_1_7, ie_2_0, ie_2_1, ie_2_3, ie_2_4, ie_2_5, ie_2_6, ie_2_7, ie_3_0, ie_3_1, ie_3_2, ie_3_4, ie_3_5, ie_3_6, ie_3_7, ie_4_0, ie_4_1, ie_4_2, ie_4_3, ie_4_5, ie_4_6, ie_4_7, ie_5_0, ie_5_1, ie_5_2, ie_5_3, ie_5_4, ie_5_6, ie_5_7, ie_6_0, ie_6_1, ie_6_2, ie_6_3, ie_6_4, ie_6_5, ie_6_7, ie_7_0, ie_7_1, ie_7_2, ie_7_3, ie_7_4, ie_7_5, ie_7_6]
      have k1 : zKp w (zO w (w.1 1) (w.1 2) (w.1 3) (w.1 4) (zcpy (sGv (w.1 2) (w.1 3) (w.1 4)) (w.1 18) n)) := kp_O A hz.1 hz.2.1 hz.2.2.1 rfl
      have M1 := zMc_kp k1 M
      have q1 := m_isWaiter (d := d + 39) M1.2.1 hy
      have q2 := m_gainOf (d := d + 19) M1 hy
      refine pr_k A hc k1 ?_ (zKp_r _)
      have l1 : ((-1 : Int32) < -1) = False := eq_false (by decide)
      have l2 : ((-1 : Int32) ≤ 3) = True := eq_true (by decide)
      simp only [c_6057, e_6057_0, e_6057_1, e_6057_2, e_6057_5, e_6057_8, e_6057_9, e_6057_10, e_6057_13, e_6057_14, e_6057_15, e_6057_16, e_6057_19, e_6057_20, e_6057_21, e_6057_24, e_6057_25, e_6057_27, e_6057_30, e_6057_31, e_6057_32, e_6057_33, e_6057_36, e_6057_37, e_6057_38, e_6057_41, e_6057_44, e_6057_45, e_6057_46, e_6057_47, e_6057_50, zk_int, zk_ref, zk_null, zk_none, zk_long, zisR_r, zisR_n, zcl_int, zcl_ref, zcl_null, zpush_s, zpush_n, zbs, zbn, true_or, or_true, not_false_eq_true, not_true_eq_false, ↓reduceIte, and_self, and_true, true_and, zt_50, q1, q2, ie_0_1, ie_0_2, ie_0_3, ie_0_4, ie_0_5, ie_0_6, ie_0_7, ie_1_0, ie_1_2, ie_1_3, ie_1_4, ie_1_5, ie_1_6, ie_1_7, ie_2_0, ie_2_1, ie_2_3, ie_2_4, ie_2_5, ie_2_6, ie_2_7, ie_3_0, ie_3_1, ie_3_2, ie_3_4, ie_3_5, ie_3_6, ie_3_7, ie_4_0, ie_4_1, ie_4_2, ie_4_3, ie_4_5, ie_4_6, ie_4_7, ie_5_0, ie_5_1, ie_5_2, ie_5_3, ie_5_4, ie_5_6, ie_5_7, ie_6_0, ie_6_1, ie_6_2, ie_6_3, ie_6_4, ie_6_5, ie_6_7, ie_7_0, ie_7_1, ie_7_2, ie_7_3, ie_7_4, ie_7_5, ie_7_6, l1, l2]
    · have wp := q_waiterPartMayBe_1 (d := d + 38) (w := w) (v := e)
      by_cases hb : 0 ≤ e ∧ e ≤ 3
      · rw [if_pos hb] at wp
        have g := q_gainWith (d := d + 34) (v := e) hz (rl_z14 A) (rl_Tc A) hy
        have hc : cal (d + 40) 5022 [.ref 0, .int (nI y), .int e] w = some (some (.int (sGn (w.1 2) (upd (w.1 3) (6 * y + 1) e) (w.1 4) n m y)), zO w (w.1 1) (w.1 2) (upd (w.1 3) (6 * y + 1) e) (w.1 4) (zcpy (sGv (w.1 2) (upd (w.1 3) (6 * y + 1) e) (w.1 4)) (w.1 18) n)) := by
          simp only [c_5022, e_5022_0, e_5022_1, e_5022_4, e_5022_5, e_5022_8, e_5022_11, e_5022_12, e_5022_13, e_5022_16, e_5022_17, e_5022_18, e_5022_19, e_5022_22, e_5022_23, e_5022_24, e_5022_27, e_5022_30, e_5022_31, e_5022_33, e_5022_36, e_5022_37, e_5022_38, e_5022_41, e_5022_42, e_5022_45, e_5022_46, e_5022_47, e_5022_48, e_5022_51, e_5022_52, e_5022_55, e_5022_56, e_5022_57, e_5022_60, e_5022_63, e_5022_64, e_5022_67, zk_int, zk_ref, zk_null, zk_none, zk_long, zisR_r, zisR_n, zcl_int, zcl_ref, zcl_null, zpush_s, zpush_n, zbs, zbn, true_or, or_true, not_false_eq_true, not_true_eq_false, ↓reduceIte, and_self, and_true, true_and, zt_0, zr_0_0, zt_1, zr_0_3, zt_13, a, wp, g, he, ie_0_1, ie_0_2, ie_0_3, ie_0_4, ie_0_5, ie_0_6, ie_0_7, ie_1_0, ie_1_2, ie_1_3, ie_1_4, ie_1_5, ie_1_6, ie_1_7, ie_2_0, ie_2_1, ie_2_3, ie_2_4, ie_2_5, ie_2_6, ie_2_7, ie_3_0, ie_3_1, ie_3_2, ie_3_4, ie_3_5, ie_3_6, ie_3_7, ie_4_0, ie_4_1, ie_4_2, ie_4_3, ie_4_5, ie_4_6, ie_4_7, ie_5_0, ie_5_1, ie_5_2, ie_5_3, ie_5_4, ie_5_6, ie_5_7, ie_6_0, ie_6_1, ie_6_2, ie_6_3, ie_6_4, ie_6_5, ie_6_7, ie_7_0, ie_7_1, ie_7_2, ie_7_3, ie_7_4, ie_7_5, ie_7_6]
        have k1 : zKp w (zO w (w.1 1) (w.1 2) (upd (w.1 3) (6 * y + 1) e) (w.1 4) (zcpy (sGv (w.1 2) (upd (w.1 3) (6 * y + 1) e) (w.1 4)) (w.1 18) n)) := kp_O A hz.1 (fun k hk => by rw [u_ne (by omega)]; exact hz.2.1 k hk) hz.2.2.1 rfl
        have M1 := zMc_kp k1 M
        have q1 := m_isWaiter (d := d + 39) M1.2.1 hy
        have eb : zBt e 0 3 := by
          obtain ⟨h1, h2⟩ := hb
          rw [ti_le, ti_0] at h1
          rw [ti_le] at h2
          exact ⟨h1, h2⟩
        have q2 := m_gainIf (d := d + 18) M1 hy eb
        refine pr_k A hc k1 ?_ (zKp_r _)
        have l1 : (e < -1) = False := eq_false (by
          obtain ⟨h1, h2⟩ := eb
          rw [ti_lt, show (-1 : Int32).toInt = -1 from by decide]
          omega)
        have l2 : (e ≤ 3) = True := eq_true hb.2
        simp only [c_6057, e_6057_0, e_6057_1, e_6057_2, e_6057_5, e_6057_8, e_6057_9, e_6057_10, e_6057_13, e_6057_14, e_6057_15, e_6057_16, e_6057_19, e_6057_20, e_6057_21, e_6057_24, e_6057_25, e_6057_27, e_6057_30, e_6057_31, e_6057_32, e_6057_33, e_6057_36, e_6057_37, e_6057_38, e_6057_41, e_6057_44, e_6057_45, e_6057_46, e_6057_47, e_6057_50, zk_int, zk_ref, zk_null, zk_none, zk_long, zisR_r, zisR_n, zcl_int, zcl_ref, zcl_null, zpush_s, zpush_n, zbs, zbn, true_or, or_true, not_false_eq_true, not_true_eq_false, ↓reduceIte, and_self, and_true, true_and, zt_50, q1, q2, ie_0_1, ie_0_2, ie_0_3, ie_0_4, ie_0_5, ie_0_6, ie_0_7, ie_1_0, ie_1_2, ie_1_3, ie_1_4, ie_1_5, ie_1_6, ie_1_7, ie_2_0, ie_2_1, ie_2_3, ie_2_4, ie_2_5, ie_2_6, ie_2_7, ie_3_0, ie_3_1, ie_3_2, ie_3_4, ie_3_5, ie_3_6, ie_3_7, ie_4_0, ie_4_1, ie_4_2, ie_4_3, ie_4_5, ie_4_6, ie_4_7, ie_5_0, ie_5_1, ie_5_2, ie_5_3, ie_5_4, ie_5_6, ie_5_7, ie_6_0, ie_6_1, ie_6_2, ie_6_3, ie_6_4, ie_6_5, ie_6_7, ie_7_0, ie_7_1, ie_7_2, ie_7_3, ie_7_4, ie_7_5, ie_7_6, l1, l2, he]
      · rw [if_neg hb] at wp
        have r := f_refuseFar (d := d + 37) (w := w) (c := -6) (j := 6) (by decide) (by decide)
        have hc : cal (d + 40) 5022 [.ref 0, .int (nI y), .int e] w = some (some (.int (-6 + -1000000)), fRf w 6) := by
          simp only [c_5022, e_5022_0, e_5022_1, e_5022_4, e_5022_5, e_5022_8, e_5022_11, e_5022_12, e_5022_13, e_5022_16, e_5022_17, e_5022_18, e_5022_19, e_5022_22, e_5022_23, e_5022_24, e_5022_27, e_5022_30, e_5022_31, e_5022_33, e_5022_36, e_5022_37, e_5022_38, e_5022_41, e_5022_42, e_5022_45, e_5022_46, e_5022_47, e_5022_48, e_5022_51, e_5022_52, e_5022_55, e_5022_56, e_5022_57, e_5022_60, e_5022_63, e_5022_64, e_5022_67, zk_int, zk_ref, zk_null, zk_none, zk_long, zisR_r, zisR_n, zcl_int, zcl_ref, zcl_null, zpush_s, zpush_n, zbs, zbn, true_or, or_true, not_false_eq_true, not_true_eq_false, ↓reduceIte, and_self, and_true, true_and, zt_0, zr_0_0, zt_1, a, wp, he, r, ie_0_1, ie_0_2, ie_0_3, ie_0_4, ie_0_5, ie_0_6, ie_0_7, ie_1_0, ie_1_2, ie_1_3, ie_1_4, ie_1_5, ie_1_6, ie_1_7, ie_2_0, ie_2_1, ie_2_3, ie_2_4, ie_2_5, ie_2_6, ie_2_7, ie_3_0, ie_3_1, ie_3_2, ie_3_4, ie_3_5, ie_3_6, ie_3_7, ie_4_0, ie_4_1, ie_4_2, ie_4_3, ie_4_5, ie_4_6, ie_4_7, ie_5_0, ie_5_1, ie_5_2, ie_5_3, ie_5_4, ie_5_6, ie_5_7, ie_6_0, ie_6_1, ie_6_2, ie_6_3, ie_6_4, ie_6_5, ie_6_7, ie_7_0, ie_7_1, ie_7_2, ie_7_3, ie_7_4, ie_7_5, ie_7_6]
        have q1 := m_isWaiter (d := d + 39) (zMc_f (j := 6) M).2.1 hy
        have q2 := m_noLow (d := d + 39) (w := fRf w 6) (j := 6) (c := -6) (by decide) (by decide)
        refine pr_f A (by decide) hc (zKp_r _) ?_ (zKp_r _)
        by_cases l1 : e < -1
        · simp only [c_6057, e_6057_0, e_6057_1, e_6057_2, e_6057_5, e_6057_8, e_6057_9, e_6057_10, e_6057_13, e_6057_14, e_6057_15, e_6057_16, e_6057_19, e_6057_20, e_6057_21, e_6057_24, e_6057_25, e_6057_27, e_6057_30, e_6057_31, e_6057_32, e_6057_33, e_6057_36, e_6057_37, e_6057_38, e_6057_41, e_6057_44, e_6057_45, e_6057_46, e_6057_47, e_6057_50, zk_int, zk_ref, zk_null, zk_none, zk_long, zisR_r, zisR_n, zcl_int, zcl_ref, zcl_null, zpush_s, zpush_n, zbs, zbn, true_or, or_true, not_false_eq_true, not_true_eq_false, ↓reduceIte, and_self, and_true, true_and, zt_50, q1, q2, ie_0_1, ie_0_2, ie_0_3, ie_0_4, ie_0_5, ie_0_6, ie_0_7, ie_1_0, ie_1_2, ie_1_3, ie_1_4, ie_1_5, ie_1_6, ie_1_7, ie_2_0, ie_2_1, ie_2_3, ie_2_4, ie_2_5, ie_2_6, ie_2_7, ie_3_0, ie_3_1, ie_3_2, ie_3_4, ie_3_5, ie_3_6, ie_3_7, ie_4_0, ie_4_1, ie_4_2, ie_4_3, ie_4_5, ie_4_6, ie_4_7, ie_5_0, ie_5_1, ie_5_2, ie_5_3, ie_5_4, ie_5_6, ie_5_7, ie_6_0, ie_6_1, ie_6_2, ie_6_3, ie_6_4, ie_6_5, ie_6_7, ie_7_0, ie_7_1, ie_7_2, ie_7_3, ie_7_4, ie_7_5, ie_7_6, l1]
          rfl
        · have l2 : (e ≤ 3) = False := eq_false (fun h => hb ⟨by
            rw [ti_le, ti_0]
            rw [ti_lt] at l1
            rw [ti_eq] at he
            rw [show (-1 : Int32).toInt = -1 from by decide] at he l1
            omega, h⟩)
          simp only [c_6057, e_6057_0, e_6057_1, e_6057_2, e_6057_5, e_6057_8, e_6057_9, e_6057_10, e_6057_13, e_6057_14, e_6057_15, e_6057_16, e_6057_19, e_6057_20, e_6057_21, e_6057_24, e_6057_25, e_6057_27, e_6057_30, e_6057_31, e_6057_32, e_6057_33, e_6057_36, e_6057_37, e_6057_38, e_6057_41, e_6057_44, e_6057_45, e_6057_46, e_6057_47, e_6057_50, zk_int, zk_ref, zk_null, zk_none, zk_long, zisR_r, zisR_n, zcl_int, zcl_ref, zcl_null, zpush_s, zpush_n, zbs, zbn, true_or, or_true, not_false_eq_true, not_true_eq_false, ↓reduceIte, and_self, and_true, true_and, zt_50, q1, q2, ie_0_1, ie_0_2, ie_0_3, ie_0_4, ie_0_5, ie_0_6, ie_0_7, ie_1_0, ie_1_2, ie_1_3, ie_1_4, ie_1_5, ie_1_6, ie_1_7, ie_2_0, ie_2_1, ie_2_3, ie_2_4, ie_2_5, ie_2_6, ie_2_7, ie_3_0, ie_3_1, ie_3_2, ie_3_4, ie_3_5, ie_3_6, ie_3_7, ie_4_0, ie_4_1, ie_4_2, ie_4_3, ie_4_5, ie_4_6, ie_4_7, ie_5_0, ie_5_1, ie_5_2, ie_5_3, ie_5_4, ie_5_6, ie_5_7, ie_6_0, ie_6_1, ie_6_2, ie_6_3, ie_6_4, ie_6_5, ie_6_7, ie_7_0, ie_7_1, ie_7_2, ie_7_3, ie_7_4, ie_7_5, ie_7_6, l1, l2]
          rfl
end PB
