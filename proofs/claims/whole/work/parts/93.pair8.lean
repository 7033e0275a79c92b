section PJ
variable {d n m : Nat} {w w1 w2 : zM} {S : Nat → Int32} {L : Int32} {T V G : Nat → Int32}
theorem shr_b (u : UInt32) : zBt (u >>> ((16 : Int32).toUInt32 &&& Int32.toUInt32 31)).toInt32 0 65535 := by
  have e : ((16 : Int32).toUInt32 &&& Int32.toUInt32 31) = 16 := by decide
  rw [e]
  have h : ((u >>> 16).toInt32).toInt = (u.toNat / 65536 : Nat) := by
    have e1 : ((u >>> 16).toInt32).toInt = (u >>> 16).toBitVec.toInt := rfl
    have e2 : (u >>> 16).toBitVec.toNat = u.toNat / 65536 := by
      have : (u >>> 16).toNat = u.toNat >>> 16 := by
        rw [UInt32.toNat_shiftRight]
        rfl
      show (u >>> 16).toNat = _
      rw [this, Nat.shiftRight_eq_div_pow]
    have h3 := u.toNat_lt
    rw [e1, BitVec.toInt_eq_toNat_of_lt (by rw [e2]; omega), e2]
  have h3 := u.toNat_lt
  unfold zBt
  rw [h]
  omega
theorem sDrw_b {s k : Int32} {N : Nat} (hk : k.toInt = (N : Int)) (h0 : 0 < N) (h1 : N < 1000) : zBt (sDrw s k) 0 ((N : Int) - 1) := by
  obtain ⟨a0, a1⟩ := shr_b s.toUInt32
  unfold sDrw
  generalize (s.toUInt32 >>> ((16 : Int32).toUInt32 &&& Int32.toUInt32 31)).toInt32 = x at a0 a1
  have ed := ti_div (x := x) (y := k) a0 (by omega)
  rw [hk] at ed
  have q1 := Int.ediv_mul_le x.toInt (show (N : Int) ≠ 0 by omega)
  have q2 := Int.lt_ediv_add_one_mul_self x.toInt (show (0 : Int) < N by omega)
  have q3 : (x.toInt / (N : Int) + 1) * (N : Int) = x.toInt / (N : Int) * (N : Int) + (N : Int) := by rw [Int.add_mul, Int.one_mul]
  have q0 : 0 ≤ x.toInt / (N : Int) * (N : Int) := Int.mul_nonneg (Int.ediv_nonneg a0 (by omega)) (by omega)
  have em := ti_mul (x := x / k) (y := k) (by rw [ed, hk]; omega) (by rw [ed, hk]; omega)
  rw [ed, hk] at em
  unfold zBt
  rw [ti_sub (by rw [em]; omega) (by rw [em]; omega), em]
  omega
theorem m_draw {x : Int32} (hx0 : ¬ x = 0) : cal d 6084 [.ref 50, .int x] w = some (some (.int (sDrw (sNxt (w.1 50 6)) x)), zui w 50 6 (sNxt (w.1 50 6))) := by
  simp only [c_6084, e_6084_0, e_6084_1, e_6084_2, e_6084_5, e_6084_8, e_6084_9, e_6084_12, e_6084_13, e_6084_16, e_6084_17, e_6084_20, e_6084_22, e_6084_23, e_6084_24, e_6084_25, zk_int, zk_ref, zk_null, zk_none, zk_long, zisR_r, zisR_n, zcl_int, zcl_ref, zcl_null, zpush_s, zpush_n, zbs, zbn, true_or, or_true, not_false_eq_true, not_true_eq_false, ↓reduceIte, and_self, and_true, true_and, zt_50, zi_s, u_eq, hx0]
  rfl
theorem zMs_sd {s : Int32} (A : zMs w T V G) : zMs (zui w 50 6 s) T V G := zMs_k A ⟨by rw [zi_s, u_ne (by decide)], by rw [zi_s, u_ne (by decide)]⟩ (fun a h1 h2 => zi_n _ (by omega))
theorem zRg_Gs {t : Nat} {k b p a : Int32} (R : zRg T V G n m) (hk : zBt k 0 6) (hb : zBt b 1 999) (hp : zBt p 1 9) (ha : zBt a 0 99) : zRg (sGst T t k b p a) V G n m := by
  obtain ⟨rt, rv, rg⟩ := R
  refine ⟨fun i hi => ?_, rv, rg⟩
  obtain ⟨h0, h1, h2, h3, y2, h4, h5⟩ := rt i hi
  unfold sGst
  by_cases h : i = t
  · subst h
    refine ⟨?_, ?_, ?_, ?_, y2, h4, ?_⟩
    · rw [u_ne (by omega), u_ne (by omega), u_ne (by omega), u_eq]; exact hk
    · rw [u_ne (by omega), u_ne (by omega), u_eq]; exact hb
    · rw [u_ne (by omega), u_eq]; exact hp
    · rw [u_eq]; exact ha
    · rw [u_ne (by omega), u_ne (by omega), u_ne (by omega), u_ne (by omega)]; exact h5
  · refine ⟨?_, ?_, ?_, ?_, y2, h4, ?_⟩
    · rw [u_ne (by omega), u_ne (by omega), u_ne (by omega), u_ne (by omega)]; exact h0
    · rw [u_ne (by omega), u_ne (by omega), u_ne (by omega), u_ne (by omega)]; exact h1
    · rw [u_ne (by omega), u_ne (by omega), u_ne (by omega), u_ne (by omega)]; exact h2
    · rw [u_ne (by omega), u_ne (by omega), u_ne (by omega), u_ne (by omega)]; exact h3
    · rw [u_ne (by omega), u_ne (by omega), u_ne (by omega), u_ne (by omega)]; exact h5
theorem sDg_R {s : Int32} (R : zRg T V G n m) : ∀ j, zRg (sDg s T j).2 V G n m := by
  intro j
  induction j with
  | zero => exact R
  | succ j ih =>
    have d7 := fun s => sDrw_b (s := s) (k := 7) (N := 7) (by decide) (by decide) (by decide)
    have d99 := fun s => sDrw_b (s := s) (k := 99) (N := 99) (by decide) (by decide) (by decide)
    have d6 := fun s => sDrw_b (s := s) (k := 6) (N := 6) (by decide) (by decide) (by decide)
    have d25 := fun s => sDrw_b (s := s) (k := 25) (N := 25) (by decide) (by decide) (by decide)
    refine zRg_Gs ih ?_ ?_ ?_ ?_
    · obtain ⟨a, b⟩ := d7 (sNxt (sDg s T j).1)
      exact ⟨a, by omega⟩
    · obtain ⟨a, b⟩ := d99 (sNxt (sNxt (sDg s T j).1))
      unfold zBt
      rw [ti_add (by rw [ti_1]; omega) (by rw [ti_1]; omega), ti_1]
      omega
    · obtain ⟨a, b⟩ := d6 (sNxt (sNxt (sNxt (sDg s T j).1)))
      unfold zBt
      rw [ti_add (by rw [ti_1]; omega) (by rw [ti_1]; omega), ti_1]
      omega
    · obtain ⟨a, b⟩ := d25 (sNxt (sNxt (sNxt (sNxt (sDg s T j).1))))
      exact ⟨a, by omega⟩
theorem sDg_z {s : Int32} (hT : ∀ k, 40 ≤ k → T k = 0) : ∀ j, j ≤ 8 → ∀ k, 40 ≤ k → (sDg s T j).2 k = 0 := by
  intro j
  induction j with
  | zero => intro _; exact hT
  | succ j ih =>
    intro hj k hk
    show sGst (sDg s T j).2 j _ _ _ _ k = 0
    unfold sGst
    rw [u_ne (by omega), u_ne (by omega), u_ne (by omega), u_ne (by omega)]
    exact ih (by omega) k hk
def gIn (w1 w2 : zM) (T V G : Nat → Int32) (s : Int32) : Prop := zMs w2 T V G ∧ w2.1 50 6 = s ∧ (∀ k, k ≠ 6 → w2.1 50 k = w1.1 50 k) ∧ (∀ a, a < 50 → w2.1 a = w1.1 a) ∧ zKh w1 w2
theorem m_guests_l {s : Int32} (hn : n ≤ 8) (hm : m ≤ 4) (h0 : w1.1 50 0 = nI n) (h1 : w1.1 50 1 = nI m) : ∀ r j w2, j + r = n → gIn w1 w2 (sDg s T j).2 V G (sDg s T j).1 → ∃ w3, gIn w1 w3 (sDg s T n).2 V G (sDg s T n).1 ∧ den (d + 1) 6086 2 [some (.ref 50), some (.int (nI j))] [] w2 = some (some (.int (zsum (fun t => (sDg s T n).2 (5 * t + 1)) n)), w3) := by
  intro r
  induction r with
  | zero =>
    intro j w2 hj I
    have e : j = n := by omega
    subst e
    have g1 := nI_le_n (Nat.le_refl j) (by omega)
    have c0 : w2.1 50 0 = nI j := by rw [I.2.2.1 0 (by decide)]; exact h0
    have ab := m_allBills (d := d) (n := j) (m := m) I.1 ⟨c0, by rw [I.2.2.1 1 (by decide)]; exact h1, hn, hm⟩
    refine ⟨w2, I, ?_⟩
    rw [e_6086_2]
    simp only [e_6086_3, e_6086_4, e_6086_7, e_6086_68, e_6086_69, e_6086_72, zk_int, zk_ref, zk_null, zk_none, zk_long, zisR_r, zisR_n, zcl_int, zcl_ref, zcl_null, zpush_s, zpush_n, zbs, zbn, true_or, or_true, not_false_eq_true, not_true_eq_false, ↓reduceIte, and_self, and_true, true_and, zt_50, c0, g1, ab]
  | succ r ih =>
    intro j w2 hj I
    have hjn : j < n := by omega
    have g1 := nI_ge_f hjn (by omega)
    obtain ⟨i1, i2, i3, i4, i5⟩ := I
    have c0 : w2.1 50 0 = nI n := by rw [i3 0 (by decide)]; exact h0
    have hz := zis_nI (j := j) (n := 8) (by omega) (by decide)
    have hc := nI_clamp (n := j) (by omega)
    have d7 := fun w => m_draw (d := d) (w := w) (x := 7) (by decide)
    have d99 := fun w => m_draw (d := d) (w := w) (x := 99) (by decide)
    have d6 := fun w => m_draw (d := d) (w := w) (x := 6) (by decide)
    have d25 := fun w => m_draw (d := d) (w := w) (x := 25) (by decide)
    have s6 : ∀ (w : zM) x, (zui w 50 6 x).1 50 6 = x := fun w x => by rw [zi_s, u_eq]
    have n50 : ∀ (w : zM) a k v, 50 < a → (zui w a k v).1 50 = w.1 50 := fun w a k v h => zi_n _ (by omega)
    have f52 := fun (w : zM) k v => n50 w 52 k v (by decide)
    have f53 := fun (w : zM) k v => n50 w 53 k v (by decide)
    have f54 := fun (w : zM) k v => n50 w 54 k v (by decide)
    have f55 := fun (w : zM) k v => n50 w 55 k v (by decide)
    generalize hs : (sDg s T j).1 = sj at i2
    generalize hw : (zui (zui (zui (zui (zui (zui (zui (zui w2 50 6 (sNxt sj)) 52 j (sDrw (sNxt sj) 7)) 50 6 (sNxt (sNxt sj))) 53 j (sDrw (sNxt (sNxt sj)) 99 + 1)) 50 6 (sNxt (sNxt (sNxt sj)))) 54 j (sDrw (sNxt (sNxt (sNxt sj))) 6 + 1)) 50 6 (sNxt (sNxt (sNxt (sNxt sj))))) 55 j (sDrw (sNxt (sNxt (sNxt (sNxt sj)))) 25)) = w3
    have I3 : gIn w1 w3 (sDg s T (j + 1)).2 V G (sDg s T (j + 1)).1 := by
      subst hw
      refine ⟨?_, ?_, fun k hk => ?_, fun a ha => ?_, ?_⟩
      · have a1 := zMs_T0 (y := j) (e := sDrw (sNxt sj) 7) (zMs_sd (s := sNxt sj) i1) (by omega)
        rw [← zui_A] at a1
        have a2 := zMs_T1 (y := j) (e := sDrw (sNxt (sNxt sj)) 99 + 1) (zMs_sd (s := sNxt (sNxt sj)) a1) (by omega)
        rw [← zui_A] at a2
        have a3 := zMs_T2 (y := j) (e := sDrw (sNxt (sNxt (sNxt sj))) 6 + 1) (zMs_sd (s := sNxt (sNxt (sNxt sj))) a2) (by omega)
        rw [← zui_A] at a3
        have a4 := zMs_T3 (y := j) (e := sDrw (sNxt (sNxt (sNxt (sNxt sj)))) 25) (zMs_sd (s := sNxt (sNxt (sNxt (sNxt sj)))) a3) (by omega)
        rw [← zui_A] at a4
        rw [← hs] at a4 ⊢
        exact a4
      · rw [f55, s6, ← hs]
        rfl
      · rw [f55, zi_s, u_ne hk, f54, zi_s, u_ne hk, f53, zi_s, u_ne hk, f52, zi_s, u_ne hk]
        exact i3 k hk
      · rw [zi_n _ (by omega), zi_n _ (by omega), zi_n _ (by omega), zi_n _ (by omega), zi_n _ (by omega), zi_n _ (by omega), zi_n _ (by omega), zi_n _ (by omega)]
        exact i4 a ha
      · exact zKh_t (zKh_t (zKh_t (zKh_t (zKh_t (zKh_t (zKh_t (zKh_t i5 (zKh_50 (by omega))) (zKh_i (by omega))) (zKh_50 (by omega))) (zKh_i (by omega))) (zKh_50 (by omega))) (zKh_i (by omega))) (zKh_50 (by omega))) (zKh_i (by omega))
    obtain ⟨w4, b1, b2⟩ := ih (j + 1) w3 (by omega) I3
    refine ⟨w4, b1, ?_⟩
    rw [← b2, e_6086_2]
    simp only [c_6086, e_6086_0, e_6086_1, e_6086_3, e_6086_4, e_6086_7, e_6086_10, e_6086_11, e_6086_14, e_6086_15, e_6086_16, e_6086_18, e_6086_21, e_6086_22, e_6086_23, e_6086_26, e_6086_27, e_6086_28, e_6086_30, e_6086_33, e_6086_34, e_6086_35, e_6086_36, e_6086_37, e_6086_40, e_6086_41, e_6086_42, e_6086_44, e_6086_47, e_6086_48, e_6086_49, e_6086_50, e_6086_51, e_6086_54, e_6086_55, e_6086_56, e_6086_58, e_6086_61, e_6086_62, e_6086_65, e_6086_69, e_6086_72, zk_int, zk_ref, zk_null, zk_none, zk_long, zisR_r, zisR_n, zcl_int, zcl_ref, zcl_null, zpush_s, zpush_n, zbs, zbn, true_or, or_true, not_false_eq_true, not_true_eq_false, ↓reduceIte, and_self, and_true, true_and, zt_50, zr_50_9, zt_52, zn_52, zo_52, zl_52, zq_52, zr_50_10, zt_53, zn_53, zo_53, zl_53, zq_53, zr_50_11, zt_54, zn_54, zo_54, zl_54, zq_54, zr_50_12, zt_55, zn_55, zo_55, zl_55, zq_55, c0, g1, hz, hc, d7, d99, d6, d25, i2, s6, f52, f53, f54, f55, nI_1, hw]
theorem p_guests (A : zRl w S L n m) : zPr d 5038 6086 [] w S L := by
  have C := rl_C A
  have M := rl_M A
  have hz := rl_z1 A
  have hn8 := rl_n A
  obtain ⟨-, -, a6, e4, e5, e6⟩ := A.1
  have q := q_drawGuests (d := d + 36) C
  have dn : ∀ a, a ≠ 1 → a ≠ 2 → (sDgW w 1 (sDg (w.1 1 7) (w.1 2) n).1 (sDg (w.1 1 7) (w.1 2) n).2).1 a = w.1 a := fun a h1 h2 => by unfold sDgW; rw [zA_n _ _ h2, zA_n _ _ h1]
  have dd1 : (sDgW w 1 (sDg (w.1 1 7) (w.1 2) n).1 (sDg (w.1 1 7) (w.1 2) n).2).1 1 = upd (w.1 1) 7 (sDg (w.1 1 7) (w.1 2) n).1 := by unfold sDgW; rw [zA_n _ _ (by decide), zA_s]
  have dd2 : (sDgW w 1 (sDg (w.1 1 7) (w.1 2) n).1 (sDg (w.1 1 7) (w.1 2) n).2).1 2 = (sDg (w.1 1 7) (w.1 2) n).2 := zA_s _ _ _
  have kh1 : zKh w (sDgW w 1 (sDg (w.1 1 7) (w.1 2) n).1 (sDg (w.1 1 7) (w.1 2) n).2) := zKh_t (zKh_A (by omega)) (zKh_A (by omega))
  have q' : cal (d + 39) 1047 [.ref 1] w = some (none, sDgW w 1 (sDg (w.1 1 7) (w.1 2) n).1 (sDg (w.1 1 7) (w.1 2) n).2) := q
  generalize sDgW w 1 (sDg (w.1 1 7) (w.1 2) n).1 (sDg (w.1 1 7) (w.1 2) n).2 = X at q' dn dd1 dd2 kh1
  have CX : zHc X 1 n m := by
    refine ⟨zHs1, ?_, C.2.2.1, ?_, C.2.2.2.2⟩
    · rw [dd1, u_ne (by decide)]; exact C.2.1
    · rw [dd1, u_ne (by decide)]; exact C.2.2.2.1
  have bb := q_billsOfAll (d := d + 37) CX
  rw [show (1 + 1 : Nat) = 2 from rfl, dd2] at bb
  have hc : cal (d + 40) 5038 [.ref 0] w = some (some (.int (zsum (fun t => (sDg (w.1 1 7) (w.1 2) n).2 (5 * t + 1)) n)), X) := by
    simp only [c_5038, e_5038_0, e_5038_1, e_5038_4, e_5038_7, e_5038_8, e_5038_11, e_5038_14, zk_int, zk_ref, zk_null, zk_none, zk_long, zisR_r, zisR_n, zcl_int, zcl_ref, zcl_null, zpush_s, zpush_n, zbs, zbn, true_or, or_true, not_false_eq_true, not_true_eq_false, ↓reduceIte, and_self, and_true, true_and, zt_0, zr_0_0, zt_1, q', bb]
  have Ms : zMs X (w.1 2) (w.1 3) (w.1 4) := zMs_k M.1 ⟨by rw [dn _ (by decide) (by decide)], by rw [dn _ (by decide) (by decide)]⟩ (fun a h1 h2 => dn a (by omega) (by omega))
  obtain ⟨w3, ⟨b1, b2, b3, b4, b5⟩, b6⟩ := m_guests_l (d := d + 39) (w1 := X) (s := w.1 1 7) (T := w.1 2) (V := w.1 3) (G := w.1 4) (m := m) hn8 (rl_m A) (by rw [dn _ (by decide) (by decide)]; exact M.2.1.1) (by rw [dn _ (by decide) (by decide)]; exact M.2.1.2.1) n 0 X (by omega) ⟨Ms, by rw [dn _ (by decide) (by decide)]; exact e6, fun _ _ => rfl, fun _ _ => rfl, zKh_r X⟩
  have hm : cal (d + 40) 6086 [.ref 50] X = some (some (.int (zsum (fun t => (sDg (w.1 1 7) (w.1 2) n).2 (5 * t + 1)) n)), w3) := by
    rw [nI_0] at b6
    simp only [c_6086, e_6086_0, e_6086_1, zk_int, zk_ref, zk_null, zk_none, zk_long, zisR_r, zisR_n, zcl_int, zcl_ref, zcl_null, zpush_s, zpush_n, zbs, zbn, true_or, or_true, not_false_eq_true, not_true_eq_false, ↓reduceIte, and_self, and_true, true_and]
    exact b6
  refine ⟨_, _, _, n, m, hc, hm, zRl_h A (zKh_t kh1 b5) ?_ (Nat.le_refl _) ?_⟩
  · have f50 : ∀ k, k ≠ 6 → w3.1 50 k = w.1 50 k := fun k hk => by rw [b3 k hk, dn _ (by decide) (by decide)]
    unfold rA zHc
    rw [b4 1 (by decide), b4 2 (by decide), b4 3 (by decide), b4 4 (by decide), dd1, dd2, dn 3 (by decide) (by decide), dn 4 (by decide) (by decide), f50 4 (by decide), f50 5 (by decide), b2, u_ne (by decide), u_ne (by decide), u_ne (by decide), u_ne (by decide), u_eq]
    exact ⟨C, ⟨b1, zMn_k M.2.1 (f50 0 (by decide)) (f50 1 (by decide)), sDg_R M.2.2 n⟩, a6, e4, e5, rfl⟩
  · refine ⟨?_, ?_, ?_, fun k hk => ?_⟩
    · rw [b4 _ (by decide), dd2]; exact sDg_z hz.1 n hn8
    · rw [b4 _ (by decide), dn _ (by decide) (by decide)]; exact hz.2.1
    · rw [b4 _ (by decide), dn _ (by decide) (by decide)]; exact hz.2.2.1
    · rw [b4 _ (by decide), dd1, u_ne (by omega)]; exact hz.2.2.2 k hk
end PJ
