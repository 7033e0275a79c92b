section PK
variable {d n m : Nat} {w w1 w2 : zM} {S : Nat → Int32} {L : Int32} {T V G : Nat → Int32}
theorem sSv_z {sh : Nat → Int32} (hV : ∀ k, 24 ≤ k → V k = 0) : ∀ j, j ≤ 4 → ∀ k, 24 ≤ k → sSv V sh j k = 0 := by
  intro j
  induction j with
  | zero => intro _; exact hV
  | succ j ih =>
    intro hj k hk
    show upd (sSv V sh j) (6 * j + 5) _ k = 0
    rw [u_ne (by omega)]
    exact ih (by omega) k hk
theorem sSv_R {sh : Nat → Int32} (R : zRg T V G n m) : ∀ j, zRg T (sSv V sh j) G n m := by
  intro j
  obtain ⟨rt, rv, rg⟩ := R
  refine ⟨rt, fun x hx => ?_, rg⟩
  rw [sSv_o V sh j (fun i _ => by omega), sSv_o V sh j (fun i _ => by omega), sSv_o V sh j (fun i _ => by omega)]
  exact rv x hx
theorem has_k {f : Nat → Int32} {j : Int32} : True := trivial
theorem m_ev_h (C : zMc w T V G n m) {j0 : Int32} : ∀ r j H, j + r = m → (∀ i, i < j → H i = sShr T V G (sGv T V G) n m i) → ∃ H', (∀ i, i < m → H' i = sShr T V G (sGv T V G) n m i) ∧ den (d + 20) 6083 29 [some (.ref 50), some (.int (nI j))] [] (zuA (zui w 50 5 j0) 78 H) = den (d + 20) 6083 54 [some (.ref 50), some (.int (nI m))] [] (zuA (zui w 50 5 j0) 78 H') := by
  have hm4 := C.2.1.2.2.2
  have CX : ∀ H, zMc (zuA (zui w 50 5 j0) 78 H) T V G n m := fun H =>
    ⟨zMs_k C.1 ⟨by rw [zA_n _ _ (by decide), zi_s, u_ne (by decide)], by rw [zA_n _ _ (by decide), zi_s, u_ne (by decide)]⟩ (fun a h1 h2 => by rw [zA_n _ _ (by omega), zi_n _ (by omega)]), zMn_k C.2.1 (by rw [zA_n _ _ (by decide), zi_s, u_ne (by decide)]) (by rw [zA_n _ _ (by decide), zi_s, u_ne (by decide)]), C.2.2⟩
  intro r
  induction r with
  | zero =>
    intro j H hj hH
    have e : j = m := by omega
    subst e
    have g1 := nI_le_n (Nat.le_refl j) (by omega)
    refine ⟨H, hH, ?_⟩
    rw [e_6083_29]
    simp only [e_6083_30, e_6083_31, e_6083_34, zk_int, zk_ref, zk_null, zk_none, zk_long, zisR_r, zisR_n, zcl_int, zcl_ref, zcl_null, zpush_s, zpush_n, zbs, zbn, true_or, or_true, not_false_eq_true, not_true_eq_false, ↓reduceIte, and_self, and_true, true_and, zt_50, (CX H).2.1.2.1, g1]
  | succ r ih =>
    intro j H hj hH
    have hjm : j < m := by omega
    have g1 := nI_ge_f hjm (by omega)
    have q1 := m_shareOf (d := d) (CX H) hjm
    have hz := zis_nI (j := j) (n := 4) (by omega) (by decide)
    have hc := nI_clamp (n := j) (by omega)
    obtain ⟨H', b1, b2⟩ := ih (j + 1) (upd H j (sShr T V G (sGv T V G) n m j)) (by omega) (fun i hi => by
      by_cases h : i = j
      · rw [h, u_eq]
      · rw [u_ne h]; exact hH i (by omega))
    refine ⟨H', b1, ?_⟩
    have eu : ∀ v, zui (zuA (zui w 50 5 j0) 78 H) 78 j v = zuA (zui w 50 5 j0) 78 (upd H j v) := fun v => by rw [zui_A (zuA (zui w 50 5 j0) 78 H), zA_s, zA_A]
    rw [← b2, e_6083_29]
    simp only [c_6083, e_6083_0, e_6083_1, e_6083_4, e_6083_7, e_6083_8, e_6083_10, e_6083_13, e_6083_14, e_6083_15, e_6083_16, e_6083_19, e_6083_20, e_6083_23, e_6083_24, e_6083_27, e_6083_28, e_6083_30, e_6083_31, e_6083_34, e_6083_37, e_6083_38, e_6083_41, e_6083_42, e_6083_43, e_6083_44, e_6083_47, e_6083_48, e_6083_51, e_6083_55, e_6083_56, e_6083_57, e_6083_58, e_6083_61, e_6083_64, e_6083_65, e_6083_68, e_6083_69, e_6083_70, e_6083_71, e_6083_72, e_6083_75, e_6083_76, e_6083_77, e_6083_78, e_6083_79, e_6083_80, e_6083_81, e_6083_84, e_6083_85, e_6083_88, e_6083_89, e_6083_90, e_6083_91, e_6083_94, e_6083_97, e_6083_100, e_6083_101, e_6083_102, e_6083_105, e_6083_106, e_6083_107, e_6083_110, e_6083_111, e_6083_114, zk_int, zk_ref, zk_null, zk_none, zk_long, zisR_r, zisR_n, zcl_int, zcl_ref, zcl_null, zpush_s, zpush_n, zbs, zbn, true_or, or_true, not_false_eq_true, not_true_eq_false, ↓reduceIte, and_self, and_true, true_and, zt_50, zr_50_44, zt_78, zn_78, zo_78, zl_78, zq_78, (CX H).2.1.2.1, g1, q1, hz, hc, eu, nI_1]
def evJ (j0 : Int32) (sh : Nat → Int32) : Nat → Int32
  | 0 => j0
  | j + 1 => evJ j0 sh j - sh j
theorem evJ_z (a b : Int32) (sh : Nat → Int32) : ∀ j, evJ (a + b) sh j = a + zsub b sh j := by
  intro j
  induction j with
  | zero => rfl
  | succ j ih =>
    show evJ (a + b) sh j - sh j = a + (zsub b sh j - sh j)
    rw [ih]
    grind
def eIn (w1 w2 : zM) (T V G : Nat → Int32) (jr : Int32) : Prop := zMs w2 T V G ∧ w2.1 50 5 = jr ∧ (∀ k, k ≠ 5 → w2.1 50 k = w1.1 50 k) ∧ (∀ a, a < 50 → w2.1 a = w1.1 a) ∧ zKh w1 w2 ∧ w2.1 78 = w1.1 78
theorem m_ev_s {sh : Nat → Int32} {j0 : Int32} (hm : m ≤ 4) (h1 : w1.1 50 1 = nI m) (hs : ∀ i, i < m → w1.1 78 i = sh i) : ∀ r j w2, j + r = m → eIn w1 w2 T (sSv V sh j) G (evJ j0 sh j) → ∃ w3, eIn w1 w3 T (sSv V sh m) G (evJ j0 sh m) ∧ den (d + 1) 6083 56 [some (.ref 50), some (.int (nI j))] [] w2 = den (d + 1) 6083 100 [some (.ref 50), some (.int (nI m))] [] w3 := by
  intro r
  induction r with
  | zero =>
    intro j w2 hj I
    have e : j = m := by omega
    subst e
    have g1 := nI_le_n (Nat.le_refl j) (by omega)
    have c1 : w2.1 50 1 = nI j := by rw [I.2.2.1 1 (by decide)]; exact h1
    refine ⟨w2, I, ?_⟩
    rw [e_6083_56]
    simp only [e_6083_57, e_6083_58, e_6083_61, zk_int, zk_ref, zk_null, zk_none, zk_long, zisR_r, zisR_n, zcl_int, zcl_ref, zcl_null, zpush_s, zpush_n, zbs, zbn, true_or, or_true, not_false_eq_true, not_true_eq_false, ↓reduceIte, and_self, and_true, true_and, zt_50, c1, g1]
  | succ r ih =>
    intro j w2 hj I
    have hjm : j < m := by omega
    have g1 := nI_ge_f hjm (by omega)
    obtain ⟨i1, i2, i3, i4, i5, i6⟩ := I
    have c1 : w2.1 50 1 = nI m := by rw [i3 1 (by decide)]; exact h1
    have hz := zis_nI (j := j) (n := 4) (by omega) (by decide)
    have hc := nI_clamp (n := j) (by omega)
    have v5 : w2.1 62 j = sSv V sh j (6 * j + 5) := (i1.2.1 j (by omega)).2.2.2.2.2
    have h8 : w2.1 78 j = sh j := by rw [i6]; exact hs j hjm
    have n50 : ∀ (w : zM) k v, (zui w 62 k v).1 50 = w.1 50 := fun w k v => zi_n _ (by decide)
    have n78 : ∀ (w : zM) k v, (zui w 62 k v).1 78 = w.1 78 := fun w k v => zi_n _ (by decide)
    generalize hw : zui (zui w2 62 j (sSv V sh j (6 * j + 5) + sh j)) 50 5 (evJ j0 sh j - sh j) = w3
    have I3 : eIn w1 w3 T (sSv V sh (j + 1)) G (evJ j0 sh (j + 1)) := by
      subst hw
      refine ⟨?_, ?_, fun k hk => ?_, fun a ha => ?_, ?_, ?_⟩
      · have a1 := zMs_V5 (y := j) (e := sSv V sh j (6 * j + 5) + sh j) i1 (by omega)
        rw [← zui_A] at a1
        exact zMs_k a1 ⟨by rw [zi_s, u_ne (by decide)], by rw [zi_s, u_ne (by decide)]⟩ (fun a h1 h2 => zi_n _ (by omega))
      · rw [zi_s, u_eq]; rfl
      · rw [zi_s, u_ne hk, n50]; exact i3 k hk
      · rw [zi_n _ (by omega), zi_n _ (by omega)]; exact i4 a ha
      · exact zKh_t (zKh_t i5 (zKh_i (by omega))) (zKh_50 (by omega))
      · rw [zi_n _ (by decide), n78]; exact i6
    obtain ⟨w4, b1, b2⟩ := ih (j + 1) w3 (by omega) I3
    refine ⟨w4, b1, ?_⟩
    rw [← b2, e_6083_56]
    simp only [c_6083, e_6083_0, e_6083_1, e_6083_4, e_6083_7, e_6083_8, e_6083_10, e_6083_13, e_6083_14, e_6083_15, e_6083_16, e_6083_19, e_6083_20, e_6083_23, e_6083_24, e_6083_27, e_6083_28, e_6083_29, e_6083_30, e_6083_31, e_6083_34, e_6083_37, e_6083_38, e_6083_41, e_6083_42, e_6083_43, e_6083_44, e_6083_47, e_6083_48, e_6083_51, e_6083_54, e_6083_55, e_6083_57, e_6083_58, e_6083_61, e_6083_64, e_6083_65, e_6083_68, e_6083_69, e_6083_70, e_6083_71, e_6083_72, e_6083_75, e_6083_76, e_6083_77, e_6083_78, e_6083_79, e_6083_80, e_6083_81, e_6083_84, e_6083_85, e_6083_88, e_6083_89, e_6083_90, e_6083_91, e_6083_94, e_6083_97, e_6083_101, e_6083_102, e_6083_105, e_6083_106, e_6083_107, e_6083_110, e_6083_111, e_6083_114, zk_int, zk_ref, zk_null, zk_none, zk_long, zisR_r, zisR_n, zcl_int, zcl_ref, zcl_null, zpush_s, zpush_n, zbs, zbn, true_or, or_true, not_false_eq_true, not_true_eq_false, ↓reduceIte, and_self, and_true, true_and, zt_50, zr_50_19, zt_62, zn_62, zo_62, zl_62, zq_62, zr_50_44, zt_78, zn_78, zo_78, zl_78, zq_78, c1, g1, hz, hc, v5, h8, i2, n50, n78, nI_1, hw]
theorem p_evening (A : zRl w S L n m) : zPr d 5037 6083 [] w S L := by
  have C := rl_C A
  have M := rl_M A
  have hz := rl_z1 A
  have hm4 := rl_m A
  have wc : cal (d + 39) 1003 [.ref 1] w = some (some (.int (nI m)), w) := by
    simp only [c_1003, e_1003_0, e_1003_1, e_1003_4, zk_int, zk_ref, zk_null, zk_none, zk_long, zisR_r, zisR_n, zcl_int, zcl_ref, zcl_null, zpush_s, zpush_n, zbs, zbn, true_or, or_true, not_false_eq_true, not_true_eq_false, ↓reduceIte, and_self, and_true, true_and, zt_1, C.2.2.2.1]
  rcases Nat.eq_zero_or_pos m with h0 | h0
  · subst h0
    have r := f_refuse (d := d + 38) (w := w) (c := -5) (j := 5) (by decide) (by decide)
    have g : (nI 0 = 0) = True := eq_true (by decide)
    have hc : cal (d + 40) 5037 [.ref 0] w = some (some (.int (-5)), fRf w 5) := by
      simp only [c_5037, e_5037_0, e_5037_1, e_5037_4, e_5037_7, e_5037_10, e_5037_11, e_5037_13, e_5037_16, e_5037_17, e_5037_18, e_5037_21, e_5037_24, e_5037_25, e_5037_28, e_5037_31, e_5037_32, e_5037_35, e_5037_38, zk_int, zk_ref, zk_null, zk_none, zk_long, zisR_r, zisR_n, zcl_int, zcl_ref, zcl_null, zpush_s, zpush_n, zbs, zbn, true_or, or_true, not_false_eq_true, not_true_eq_false, ↓reduceIte, and_self, and_true, true_and, zt_0, zr_0_0, zt_1, wc, g, r]
    have MF := (zMc_f (j := 5) M).2.1
    have r2 := m_no (d := d + 39) (w := fRf w 5) (j := 5) (c := -5) (by decide) (by decide)
    refine pr_f A (by decide) hc (zKp_r _) ?_ (zKp_r _)
    simp only [c_6083, e_6083_0, e_6083_1, e_6083_4, e_6083_7, e_6083_8, e_6083_10, e_6083_13, zk_int, zk_ref, zk_null, zk_none, zk_long, zisR_r, zisR_n, zcl_int, zcl_ref, zcl_null, zpush_s, zpush_n, zbs, zbn, true_or, or_true, not_false_eq_true, not_true_eq_false, ↓reduceIte, and_self, and_true, true_and, zt_50, MF.2.1, g, r2]
  · have hm0 := nI_ne0' h0 (by omega : m < 2147483648)
    have rk := q_reckon (d := d + 35) (w := w) C (rl_Hv A)
    have A1 := zRl_k A (kp_rk (w := w) (j := n))
    have e1 : (sRk w 1 n).1 1 = w.1 1 := f_rkn _ _ (by decide)
    have e2 : (sRk w 1 n).1 2 = w.1 2 := f_rkn _ _ (by decide)
    have e3 : (sRk w 1 n).1 3 = w.1 3 := f_rkn _ _ (by decide)
    have e4 : (sRk w 1 n).1 4 = w.1 4 := f_rkn _ _ (by decide)
    have e5 : (sRk w 1 n).1 5 = zcpy (sGv (w.1 2) (w.1 3) (w.1 4)) (w.1 5) n := f_rk5 w n
    have se := q_saveEvening (d := d + 35) (f_rkC C n)
    have esh : (fun j => sShr ((sRk w 1 n).1 (1 + 1)) ((sRk w 1 n).1 (1 + 2)) ((sRk w 1 n).1 (1 + 3)) ((sRk w 1 n).1 (1 + 4)) n m j) = fun j => sShr (w.1 2) (w.1 3) (w.1 4) (sGv (w.1 2) (w.1 3) (w.1 4)) n m j := by
      funext j
      show sShr ((sRk w 1 n).1 2) ((sRk w 1 n).1 3) ((sRk w 1 n).1 4) ((sRk w 1 n).1 5) n m j = _
      rw [e2, e3, e4, e5, sShr_g (zcpy_lt _ _ n)]
    have ez : zsum ((sRk w 1 n).1 (1 + 4)) n = zsum (sGv (w.1 2) (w.1 3) (w.1 4)) n := by
      show zsum ((sRk w 1 n).1 5) n = _
      rw [e5]
      exact zsum_gv (zcpy_lt _ _ n)
    generalize hsh : (fun j => sShr (w.1 2) (w.1 3) (w.1 4) (sGv (w.1 2) (w.1 3) (w.1 4)) n m j) = sh at esh
    have eX : sEvW (sRk w 1 n) 1 n m = zuA (zuA (sRk w 1 n) 3 (sSv (w.1 3) sh m)) 1 (upd (upd (w.1 1) 6 (w.1 1 6 + zsub (zsum (sGv (w.1 2) (w.1 3) (w.1 4)) n) sh m)) 5 (w.1 1 5 + 1)) := by
      unfold sEvW
      rw [esh, ez, e1]
      show zuA (zuA (sRk w 1 n) 3 (sSv ((sRk w 1 n).1 3) sh m)) 1 _ = _
      rw [e3]
    rw [eX] at se
    generalize hX : zuA (zuA (sRk w 1 n) 3 (sSv (w.1 3) sh m)) 1 (upd (upd (w.1 1) 6 (w.1 1 6 + zsub (zsum (sGv (w.1 2) (w.1 3) (w.1 4)) n) sh m)) 5 (w.1 1 5 + 1)) = X at se
    have x1 : X.1 1 = upd (upd (w.1 1) 6 (w.1 1 6 + zsub (zsum (sGv (w.1 2) (w.1 3) (w.1 4)) n) sh m)) 5 (w.1 1 5 + 1) := by rw [← hX]; exact zA_s _ _ _
    have x3 : X.1 3 = sSv (w.1 3) sh m := by rw [← hX, zA_n _ _ (by decide), zA_s]
    have xn : ∀ a, a ≠ 1 → a ≠ 3 → a ≠ 5 → X.1 a = w.1 a := fun a h1 h2 h3 => by rw [← hX, zA_n _ _ h1, zA_n _ _ h2]; exact f_rkn _ _ h3
    have kh : zKh w X := by
      rw [← hX]
      exact zKh_t (zKh_t (zKh_A (a := 5) (by omega)) (zKh_A (a := 3) (by omega))) (zKh_A (a := 1) (by omega))
    have jr : cal (d + 39) 1005 [.ref 1] X = some (some (.int (w.1 1 6 + zsub (zsum (sGv (w.1 2) (w.1 3) (w.1 4)) n) sh m)), X) := by
      have h6 : X.1 1 6 = w.1 1 6 + zsub (zsum (sGv (w.1 2) (w.1 3) (w.1 4)) n) sh m := by rw [x1, u_ne (by decide), u_eq]
      simp only [c_1005, e_1005_0, e_1005_1, e_1005_4, zk_int, zk_ref, zk_null, zk_none, zk_long, zisR_r, zisR_n, zcl_int, zcl_ref, zcl_null, zpush_s, zpush_n, zbs, zbn, true_or, or_true, not_false_eq_true, not_true_eq_false, ↓reduceIte, and_self, and_true, true_and, zt_1, h6]
    have hc : cal (d + 40) 5037 [.ref 0] w = some (some (.int (w.1 1 6 + zsub (zsum (sGv (w.1 2) (w.1 3) (w.1 4)) n) sh m)), X) := by
      simp only [c_5037, e_5037_0, e_5037_1, e_5037_4, e_5037_7, e_5037_10, e_5037_11, e_5037_13, e_5037_16, e_5037_17, e_5037_18, e_5037_21, e_5037_24, e_5037_25, e_5037_28, e_5037_31, e_5037_32, e_5037_35, e_5037_38, zk_int, zk_ref, zk_null, zk_none, zk_long, zisR_r, zisR_n, zcl_int, zcl_ref, zcl_null, zpush_s, zpush_n, zbs, zbn, true_or, or_true, not_false_eq_true, not_true_eq_false, ↓reduceIte, and_self, and_true, true_and, zt_0, zr_0_0, zt_1, wc, hm0, rk, se, jr]
    have MX : zMc X (w.1 2) (w.1 3) (w.1 4) n m := ⟨zMs_k M.1 ⟨by rw [xn _ (by decide) (by decide) (by decide)], by rw [xn _ (by decide) (by decide) (by decide)]⟩ (fun a h1 h2 => xn a (by omega) (by omega) (by omega)), zMn_k M.2.1 (by rw [xn _ (by decide) (by decide) (by decide)]) (by rw [xn _ (by decide) (by decide) (by decide)]), M.2.2⟩
    have x50 : X.1 50 = w.1 50 := xn _ (by decide) (by decide) (by decide)
    obtain ⟨-, -, a6, v4, v5, v6⟩ := A.1
    have al := m_allGiven (d := d + 21) MX
    have cm : X.1 50 1 = nI m := MX.2.1.2.1
    have c5 : X.1 50 5 = w.1 1 6 := by rw [x50]; exact v5
    obtain ⟨H', b1, b2⟩ := m_ev_h (d := d + 20) (j0 := w.1 1 6 + zsum (sGv (w.1 2) (w.1 3) (w.1 4)) n) MX m 0 ((zui X 50 5 (w.1 1 6 + zsum (sGv (w.1 2) (w.1 3) (w.1 4)) n)).1 78) (by omega) (fun i hi => by omega)
    rw [zA_id] at b2
    generalize hY : zuA (zui X 50 5 (w.1 1 6 + zsum (sGv (w.1 2) (w.1 3) (w.1 4)) n)) 78 H' = Y at b2
    have y78 : Y.1 78 = H' := by rw [← hY]; exact zA_s _ _ _
    have y50 : Y.1 50 = upd (w.1 50) 5 (w.1 1 6 + zsum (sGv (w.1 2) (w.1 3) (w.1 4)) n) := by rw [← hY, zA_n _ _ (by decide), zi_s, x50]
    have yn : ∀ a, a ≠ 50 → a ≠ 78 → Y.1 a = X.1 a := fun a h1 h2 => by rw [← hY, zA_n _ _ h2, zi_n _ h1]
    have kY : zKh X Y := by
      rw [← hY]
      refine zKh_t (zKh_50 (k := 5) (v := w.1 1 6 + zsum (sGv (w.1 2) (w.1 3) (w.1 4)) n) (by omega)) ?_
      exact ⟨fun b hb => zA_n _ _ (by omega), fun k _ => by rw [zA_n _ _ (by omega)], fun _ _ => rfl⟩
    have sY : zMs Y (w.1 2) (w.1 3) (w.1 4) := zMs_k MX.1 ⟨by rw [y50, x50, u_ne (by decide)], by rw [y50, x50, u_ne (by decide)]⟩ (fun a h1 h2 => yn a (by omega) (by omega))
    obtain ⟨w3, ⟨g1, g2, g3, g4, g5, g6⟩, g7⟩ := m_ev_s (d := d + 39) (w1 := Y) (T := w.1 2) (V := w.1 3) (G := w.1 4) (sh := sh) (j0 := w.1 1 6 + zsum (sGv (w.1 2) (w.1 3) (w.1 4)) n) hm4 (by rw [y50, u_ne (by decide)]; exact M.2.1.2.1) (fun i hi => by rw [y78, b1 i hi, ← hsh]) m 0 Y (by omega) ⟨sY, by rw [y50, u_eq]; rfl, fun _ _ => rfl, fun _ _ => rfl, zKh_r Y, rfl⟩
    rw [evJ_z] at g2
    have w34 : w3.1 50 4 = w.1 1 5 := by rw [g3 4 (by decide), y50, u_ne (by decide)]; exact v4
    have hm : cal (d + 40) 6083 [.ref 50] X = some (some (.int (w.1 1 6 + zsub (zsum (sGv (w.1 2) (w.1 3) (w.1 4)) n) sh m)), zui w3 50 4 (w.1 1 5 + 1)) := by
      rw [nI_0] at b2 g7
      have s5 : (zui w3 50 4 (w.1 1 5 + 1)).1 50 5 = w.1 1 6 + zsub (zsum (sGv (w.1 2) (w.1 3) (w.1 4)) n) sh m := by rw [zi_s, u_ne (by decide)]; exact g2
      simp only [c_6083, e_6083_0, e_6083_1, e_6083_4, e_6083_14, e_6083_15, e_6083_16, e_6083_19, e_6083_20, e_6083_23, e_6083_24, e_6083_27, e_6083_28, zk_int, zk_ref, zk_null, zk_none, zk_long, zisR_r, zisR_n, zcl_int, zcl_ref, zcl_null, zpush_s, zpush_n, zbs, zbn, true_or, or_true, not_false_eq_true, not_true_eq_false, ↓reduceIte, and_self, and_true, true_and, zt_50, cm, hm0, c5, al, b2]
      simp only [e_6083_54, e_6083_55, zk_int, zk_ref, zk_null, zk_none, zk_long, zisR_r, zisR_n, zcl_int, zcl_ref, zcl_null, zpush_s, zpush_n, zbs, zbn, true_or, or_true, not_false_eq_true, not_true_eq_false, ↓reduceIte, and_self, and_true, true_and, g7]
      simp only [e_6083_100, e_6083_101, e_6083_102, e_6083_105, e_6083_106, e_6083_107, e_6083_110, e_6083_111, e_6083_114, zk_int, zk_ref, zk_null, zk_none, zk_long, zisR_r, zisR_n, zcl_int, zcl_ref, zcl_null, zpush_s, zpush_n, zbs, zbn, true_or, or_true, not_false_eq_true, not_true_eq_false, ↓reduceIte, and_self, and_true, true_and, zt_50, w34, s5]
    refine ⟨_, _, _, n, m, hc, hm, zRl_h A (zKh_t (zKh_t (zKh_t kh kY) g5) (zKh_50 (by omega))) ?_ (Nat.le_refl _) ?_⟩
    · have f1 : (zui w3 50 4 (w.1 1 5 + 1)).1 1 = X.1 1 := by rw [zi_n _ (by decide), g4 _ (by decide), yn _ (by decide) (by decide)]
      have f2 : (zui w3 50 4 (w.1 1 5 + 1)).1 2 = w.1 2 := by rw [zi_n _ (by decide), g4 _ (by decide), yn _ (by decide) (by decide), xn _ (by decide) (by decide) (by decide)]
      have f3 : (zui w3 50 4 (w.1 1 5 + 1)).1 3 = sSv (w.1 3) sh m := by rw [zi_n _ (by decide), g4 _ (by decide), yn _ (by decide) (by decide), x3]
      have f4 : (zui w3 50 4 (w.1 1 5 + 1)).1 4 = w.1 4 := by rw [zi_n _ (by decide), g4 _ (by decide), yn _ (by decide) (by decide), xn _ (by decide) (by decide) (by decide)]
      have f50 : ∀ k, k ≠ 4 → k ≠ 5 → (zui w3 50 4 (w.1 1 5 + 1)).1 50 k = w.1 50 k := fun k h1 h2 => by rw [zi_s, u_ne h1, g3 k h2, y50, u_ne h2]
      have f5 : (zui w3 50 4 (w.1 1 5 + 1)).1 50 5 = w.1 1 6 + zsub (zsum (sGv (w.1 2) (w.1 3) (w.1 4)) n) sh m := by rw [zi_s, u_ne (by decide)]; exact g2
      have f44 : (zui w3 50 4 (w.1 1 5 + 1)).1 50 4 = w.1 1 5 + 1 := by rw [zi_s, u_eq]
      unfold rA zHc
      rw [f1, f2, f3, f4, f44, f5, f50 6 (by decide) (by decide), x1, u_ne (by decide), u_ne (by decide), u_ne (by decide), u_ne (by decide), u_eq, u_ne (by decide), u_eq, u_ne (by decide), u_ne (by decide)]
      refine ⟨C, ⟨zMs_k g1 ⟨by rw [zi_s, u_ne (by decide)], by rw [zi_s, u_ne (by decide)]⟩ (fun a h1 h2 => zi_n _ (by omega)), zMn_k M.2.1 (f50 0 (by decide) (by decide)) (f50 1 (by decide) (by decide)), sSv_R M.2.2 m⟩, fun x hx => ?_, rfl, rfl, v6⟩
      rw [sSv_o _ _ m (fun i _ => by omega)]
      exact a6 x hx
    · have f : ∀ a, a < 5 → (zui w3 50 4 (w.1 1 5 + 1)).1 a = X.1 a := fun a h => by rw [zi_n _ (by omega), g4 _ (by omega), yn _ (by omega) (by omega)]
      refine ⟨?_, ?_, ?_, fun k hk => ?_⟩
      · rw [f _ (by decide), xn _ (by decide) (by decide) (by decide)]; exact hz.1
      · rw [f _ (by decide), x3]; exact sSv_z hz.2.1 m hm4
      · rw [f _ (by decide), xn _ (by decide) (by decide) (by decide)]; exact hz.2.2.1
      · rw [f _ (by decide), x1, u_ne (by omega), u_ne (by omega)]; exact hz.2.2.2 k hk
end PK
