theorem nI_neN {y : Nat} (h : y < 1000) : ¬ nI y = -1 := fun e => by
  have e1 := nI_toInt (n := y) (by omega)
  have e2 : (-1 : Int32).toInt = -1 := by decide
  rw [e, e2] at e1
  omega
section PM
variable {d n m : Nat} {w w1 w2 : zM} {S : Nat → Int32} {L : Int32} {T V G : Nat → Int32}
theorem sHs_a (F T V G : Nat → Int32) {h a : Nat} (ha : a < h ∨ h + 3 < a) : (sHs w h F T V G).1 a = w.1 a := by
  unfold sHs
  rw [zA_n _ _ (by omega), zA_n _ _ (by omega), zA_n _ _ (by omega), zA_n _ _ (by omega)]
theorem sHs_0 (F T V G : Nat → Int32) {h : Nat} : (sHs w h F T V G).1 h = F := zA_s _ _ _
theorem sHs_1 (F T V G : Nat → Int32) {h : Nat} : (sHs w h F T V G).1 (h + 1) = T := by
  unfold sHs
  rw [zA_n _ _ (by omega), zA_n _ _ (by omega), zA_n _ _ (by omega), zA_s]
theorem sHs_t (F T V G : Nat → Int32) {h : Nat} : (sHs w h F T V G).1 (h + 2) = V := by
  unfold sHs
  rw [zA_n _ _ (by omega), zA_n _ _ (by omega), zA_s]
theorem sHs_3 (F T V G : Nat → Int32) {h : Nat} : (sHs w h F T V G).1 (h + 3) = G := by
  unfold sHs
  rw [zA_n _ _ (by omega), zA_s]
theorem p_image (A : zRl w S L n m) : zPr d 5042 6094 [] w S L := by
  have C := rl_C A
  have M := rl_M A
  have hz := rl_z1 A
  obtain ⟨a, i, s, f, t, c, o, z⟩ := A
  have hc := f_image (d := d + 38) z.1 z.2.1 C
  have x0 : ∀ k, k ≠ 7 → (zuA (sHs w 6 (w.1 1) (w.1 2) (w.1 3) (w.1 4)) 0 (upd ((sHs w 6 (w.1 1) (w.1 2) (w.1 3) (w.1 4)).1 0) 7 1)).1 0 k = w.1 0 k := fun k hk => by rw [zA_s, u_ne hk, sHs_a _ _ _ _ (by omega)]
  have x07 : (zuA (sHs w 6 (w.1 1) (w.1 2) (w.1 3) (w.1 4)) 0 (upd ((sHs w 6 (w.1 1) (w.1 2) (w.1 3) (w.1 4)).1 0) 7 1)).1 0 7 = 1 := by rw [zA_s, u_eq]
  have x6 : (zuA (sHs w 6 (w.1 1) (w.1 2) (w.1 3) (w.1 4)) 0 (upd ((sHs w 6 (w.1 1) (w.1 2) (w.1 3) (w.1 4)).1 0) 7 1)).1 6 = w.1 1 := by rw [zA_n _ _ (by decide), sHs_0]
  have x7 : (zuA (sHs w 6 (w.1 1) (w.1 2) (w.1 3) (w.1 4)) 0 (upd ((sHs w 6 (w.1 1) (w.1 2) (w.1 3) (w.1 4)).1 0) 7 1)).1 7 = w.1 2 := by rw [zA_n _ _ (by decide)]; exact sHs_1 _ _ _ _
  have x8 : (zuA (sHs w 6 (w.1 1) (w.1 2) (w.1 3) (w.1 4)) 0 (upd ((sHs w 6 (w.1 1) (w.1 2) (w.1 3) (w.1 4)).1 0) 7 1)).1 8 = w.1 3 := by rw [zA_n _ _ (by decide)]; exact sHs_t _ _ _ _
  have x9 : (zuA (sHs w 6 (w.1 1) (w.1 2) (w.1 3) (w.1 4)) 0 (upd ((sHs w 6 (w.1 1) (w.1 2) (w.1 3) (w.1 4)).1 0) 7 1)).1 9 = w.1 4 := by rw [zA_n _ _ (by decide)]; exact sHs_3 _ _ _ _
  have xn : ∀ a, a ≠ 0 → (a < 6 ∨ 9 < a) → (zuA (sHs w 6 (w.1 1) (w.1 2) (w.1 3) (w.1 4)) 0 (upd ((sHs w 6 (w.1 1) (w.1 2) (w.1 3) (w.1 4)).1 0) 7 1)).1 a = w.1 a := fun a h1 h2 => by rw [zA_n _ _ h1, sHs_a _ _ _ _ (by omega)]
  have x2 : (zuA (sHs w 6 (w.1 1) (w.1 2) (w.1 3) (w.1 4)) 0 (upd ((sHs w 6 (w.1 1) (w.1 2) (w.1 3) (w.1 4)).1 0) 7 1)).2 = w.2 := rfl
  generalize zuA (sHs w 6 (w.1 1) (w.1 2) (w.1 3) (w.1 4)) 0 (upd ((sHs w 6 (w.1 1) (w.1 2) (w.1 3) (w.1 4)).1 0) 7 1) = X at hc x0 x07 x6 x7 x8 x9 xn x2
  have y50 : ∀ k, k ≠ 47 → (zui X 50 47 1).1 50 k = w.1 50 k := fun k hk => by rw [zi_s, u_ne hk, xn _ (by decide) (by decide)]
  have y47 : (zui X 50 47 1).1 50 47 = 1 := by rw [zi_s, u_eq]
  have yn : ∀ a, a ≠ 50 → (zui X 50 47 1).1 a = X.1 a := fun a h => zi_n _ h
  have z1 : (1 : Int32) = 0 ∨ (1 : Int32) = 1 := Or.inr rfl
  have cf := m_carF (d := d + 38) (w := zui X 50 47 1) (a := 73) zt_73 zn_73 (by decide)
  have t0 : (zuA (zui X 50 47 1) 73 (mKf (zui X 50 47 1) ((zui X 50 47 1).1 73))).1 50 0 = nI n := by rw [zA_n _ _ (by decide), y50 0 (by decide)]; exact M.2.1.1
  have hm : cal (d + 40) 6094 [.ref 50] X = some (some (.int (nI n)), zuA (zui X 50 47 1) 73 (mKf (zui X 50 47 1) ((zui X 50 47 1).1 73))) := by
    simp only [c_6094, e_6094_0, e_6094_1, e_6094_2, e_6094_5, e_6094_6, e_6094_7, e_6094_10, e_6094_11, e_6094_14, e_6094_15, e_6094_18, zk_int, zk_ref, zk_null, zk_none, zk_long, zisR_r, zisR_n, zcl_int, zcl_ref, zcl_null, zpush_s, zpush_n, zbs, zbn, true_or, or_true, not_false_eq_true, not_true_eq_false, ↓reduceIte, and_self, and_true, true_and, zt_50, zr_50_35, z1, cf, t0]
  have sY : zMs (zui X 50 47 1) (w.1 2) (w.1 3) (w.1 4) := zMs_k M.1 ⟨y50 2 (by decide), y50 3 (by decide)⟩ (fun a h1 h2 => by rw [yn a (by omega), xn a (by omega) (by omega)])
  have nY : zMn (zui X 50 47 1) n m := zMn_k M.2.1 (y50 0 (by decide)) (y50 1 (by decide))
  obtain ⟨-, -, a6, e4, e5, e6⟩ := a
  have kt := zKt_f (K := (zui X 50 47 1).1 73) sY nY M.2.2 a6 ((y50 4 (by decide)).trans e4) ((y50 5 (by decide)).trans e5) ((y50 6 (by decide)).trans e6) C.2.1 C.2.2.2.1
  generalize hK : mKf (zui X 50 47 1) ((zui X 50 47 1).1 73) = K at hm kt t0
  have w50 : ∀ k, k ≠ 47 → (zuA (zui X 50 47 1) 73 K).1 50 k = w.1 50 k := fun k hk => by rw [zA_n _ _ (by decide), y50 k hk]
  have wn : ∀ a, a ≠ 50 → a ≠ 73 → (zuA (zui X 50 47 1) 73 K).1 a = X.1 a := fun a h1 h2 => by rw [zA_n _ _ h2, yn a h1]
  have wo : ∀ a, a ≠ 50 → a ≠ 73 → a ≠ 0 → (a < 6 ∨ 9 < a) → (zuA (zui X 50 47 1) 73 K).1 a = w.1 a := fun a h1 h2 h3 h4 => by rw [wn a h1 h2, xn a h3 h4]
  have w2' : (zuA (zui X 50 47 1) 73 K).2 = w.2 := x2
  refine ⟨_, _, _, n, m, hc, hm, rA_k ⟨C, M, a6, e4, e5, e6⟩ (wo 1 (by decide) (by decide) (by decide) (by decide)) (wo 2 (by decide) (by decide) (by decide) (by decide)) (wo 3 (by decide) (by decide) (by decide) (by decide)) (wo 4 (by decide) (by decide) (by decide) (by decide)) (fun k hk => w50 k (by omega)) (fun b h1 h2 => wo b (by omega) (by omega) (by omega) (by omega)), ?_, fun j hj => rSj_k (s j hj) (by rw [wo _ (by decide) (by decide) (by decide) (by decide)]) (by rw [wo _ (by decide) (by decide) (by decide) (by decide)]) (by rw [wo _ (by decide) (by decide) (by decide) (by decide)]) (by rw [wo _ (by decide) (by decide) (by decide) (by decide)]) (wo _ (by omega) (by omega) (by omega) (by omega)) (fun _ => by rw [w2']) (by rw [w2']), ?_, ?_, rC_k c (wo _ (by decide) (by decide) (by decide) (by decide)) (wo _ (by decide) (by decide) (by decide) (by decide)) (w50 46 (by decide)) (wo _ (by decide) (by decide) (by decide) (by decide)), rW_k o (wo _ (by decide) (by decide) (by decide) (by decide)) (wo _ (by decide) (by decide) (by decide) (by decide)) (wo _ (by decide) (by decide) (by decide) (by decide)), ?_, ?_, ?_, ?_⟩
  · unfold rI
    rw [wn 0 (by decide) (by decide), wn 6 (by decide) (by decide), wn 7 (by decide) (by decide), wn 8 (by decide) (by decide), wn 9 (by decide) (by decide), x07, x6, x7, x8, x9, zA_s, zA_n _ _ (by decide), y47]
    exact ⟨rfl, Or.inr ⟨rfl, n, m, kt⟩⟩
  · unfold rF
    rw [wo 33 (by decide) (by decide) (by decide) (by decide), wo 51 (by decide) (by decide) (by decide) (by decide)]
    exact f
  · rw [wo 25 (by decide) (by decide) (by decide) (by decide), w50 7 (by decide)]; exact t
  · exact zHz_k (fun b h1 h2 => wo b (by omega) (by omega) (by omega) (by omega)) z.1
  · unfold zHz
    rw [wn 6 (by decide) (by decide), wn (6 + 1) (by decide) (by decide), wn (6 + 2) (by decide) (by decide), wn (6 + 3) (by decide) (by decide), x6, x7, x8, x9]
    exact hz
  · exact zHz_k (fun b h1 h2 => wo b (by omega) (by omega) (by omega) (by omega)) z.2.2.1
  · exact zHz_k (fun b h1 h2 => wo b (by omega) (by omega) (by omega) (by omega)) z.2.2.2
def badT (w : zM) (n i : Nat) : Prop := ∃ t, t < 8 ∧ n ≤ t ∧ w.1 (34 + 2 * i) 1 = nI t
def cIn (w0 w2 : zM) (n j : Nat) : Prop := (∀ a, (a < 34 ∨ 49 ≤ a) → w2.1 a = w0.1 a) ∧ w2.2 = w0.2 ∧ (∀ i, i < 8 → i < j → badT w0 n i → w2.1 (34 + 2 * i) 1 = -1) ∧ ∀ i, i < 8 → (j ≤ i ∨ ¬ badT w0 n i) → w2.1 (34 + 2 * i) = w0.1 (34 + 2 * i)
def okS (w : zM) (j : Nat) : Prop := w.1 (34 + 2 * j) 1 = -1 ∨ (∃ s, s < 4 ∧ w.1 (34 + 2 * j) 1 = nI (100 + s)) ∨ ∃ t, t < 8 ∧ w.1 (34 + 2 * j) 1 = nI t
theorem f_rest_l {w0 : zM} (C : zHc w0 1 n m) (hs : ∀ j, j < 8 → okS w0 j) : ∀ r j o2 w2, j + r = 8 → cIn w0 w2 n j → ∃ w3, cIn w0 w3 n 8 ∧ den (d + 4) 5043 27 [some (.ref 0), some (.int (nI j)), o2] [] w2 = some (some (.int (nI n)), w3) := by
  intro r
  induction r with
  | zero =>
    intro j o2 w2 hj I
    have e : j = 8 := by omega
    subst e
    have g1 : ((8 : Int32) ≤ nI 8) = True := eq_true (by decide)
    have tc : cal (d + 3) 1002 [.ref 1] w2 = some (some (.int (nI n)), w2) := by
      have h : w2.1 1 3 = nI n := by rw [I.1 1 (by omega)]; exact C.2.1
      simp only [c_1002, e_1002_0, e_1002_1, e_1002_4, zk_int, zk_ref, zk_null, zk_none, zk_long, zisR_r, zisR_n, zcl_int, zcl_ref, zcl_null, zpush_s, zpush_n, zbs, zbn, true_or, or_true, not_false_eq_true, not_true_eq_false, ↓reduceIte, and_self, and_true, true_and, zt_1, h]
    refine ⟨w2, I, ?_⟩
    rw [e_5043_27]
    simp only [e_5043_28, e_5043_30, e_5043_74, e_5043_75, e_5043_78, e_5043_81, zk_int, zk_ref, zk_null, zk_none, zk_long, zisR_r, zisR_n, zcl_int, zcl_ref, zcl_null, zpush_s, zpush_n, zbs, zbn, true_or, or_true, not_false_eq_true, not_true_eq_false, ↓reduceIte, and_self, and_true, true_and, zt_0, zr_0_0, zt_1, g1, tc]
  | succ r ih =>
    intro j o2 w2 hj I
    have hj8 : j < 8 := by omega
    have g1 : ((8 : Int32) ≤ nI j) = False := nI_ge_f (b := 8) hj8 (by decide)
    obtain ⟨i1, i2, i3, i4⟩ := I
    have hw : w2.1 (34 + 2 * j) = w0.1 (34 + 2 * j) := i4 j hj8 (Or.inl (Nat.le_refl _))
    have C2 : zHc w2 1 n m := zHc_k (i1 1 (by omega)) C
    have sa := f_shelfAt (d := d + 3) (w := w2) hj8
    have th := (zSs_f (zSs_j hj8)).1
    have hg := q_hasGuests (d := d + 3) (w := w2) (zSs_j hj8)
    have keep : ¬ badT w0 n j → cIn w0 w2 n (j + 1) := fun hb => ⟨i1, i2, fun i a b c => by
      by_cases e : i = j
      · subst e; exact absurd c hb
      · exact i3 i a (by omega) c, fun i a b => i4 i a (by
      rcases b with b | b
      · exact Or.inl (by omega)
      · exact Or.inr b)⟩
    have step : ∀ {w3 : zM}, cIn w0 w3 n (j + 1) → den (d + 4) 5043 27 [some (.ref 0), some (.int (nI j)), o2] [] w2 = den (d + 4) 5043 27 [some (.ref 0), some (.int (nI (j + 1))), some (.ref (34 + 2 * j))] [] w3 → ∃ w3, cIn w0 w3 n 8 ∧ den (d + 4) 5043 27 [some (.ref 0), some (.int (nI j)), o2] [] w2 = some (some (.int (nI n)), w3) := fun hI he => by
      obtain ⟨w4, b1, b2⟩ := ih (j + 1) (some (.ref (34 + 2 * j))) _ (by omega) hI
      exact ⟨w4, b1, he.trans b2⟩
    have noG : (if ¬ w2.1 (34 + 2 * j) 1 = -1 ∧ ¬ 100 ≤ w2.1 (34 + 2 * j) 1 then (1 : Int32) else 0) = 0 → den (d + 4) 5043 27 [some (.ref 0), some (.int (nI j)), o2] [] w2 = den (d + 4) 5043 27 [some (.ref 0), some (.int (nI (j + 1))), some (.ref (34 + 2 * j))] [] w2 := fun h0 => by
      rw [h0] at hg
      rw [e_5043_27]
      simp only [e_5043_28, e_5043_30, e_5043_33, e_5043_34, e_5043_35, e_5043_38, e_5043_39, e_5043_40r, e_5043_43, e_5043_44, e_5043_47, e_5043_68, e_5043_71, zk_int, zk_ref, zk_null, zk_none, zk_long, zisR_r, zisR_n, zcl_int, zcl_ref, zcl_null, zpush_s, zpush_n, zbs, zbn, true_or, or_true, not_false_eq_true, not_true_eq_false, ↓reduceIte, and_self, and_true, true_and, zt_0, g1, sa, th, hg, nI_1]
    rcases hs j hj8 with h | ⟨s, hs4, h⟩ | ⟨t, ht8, h⟩
    · refine step (keep (fun ⟨t, a, b, c⟩ => ?_)) (noG (if_neg (fun c => c.1 (by rw [hw, h]))))
      rw [h] at c
      exact nI_neN (by omega) c.symm
    · refine step (keep (fun ⟨t, a, b, c⟩ => ?_)) (noG (if_neg (fun c => c.2 (by rw [hw, h]; exact nI_le (a := 100) (by omega) (by omega)))))
      rw [h] at c
      have := (nI_eq (by omega) (by omega)).mp c
      omega
    · have ne1 : ¬ w2.1 (34 + 2 * j) 1 = -1 := by
        rw [hw, h]
        exact nI_neN (by omega)
      have ne2 : ¬ 100 ≤ w2.1 (34 + 2 * j) 1 := by
        rw [hw, h]
        exact nI_ge (b := 100) (by omega) (by decide)
      rw [if_pos ⟨ne1, ne2⟩] at hg
      have hh := q_held (d := d + 3) (w := w2) (zSs_j hj8)
      rw [hw, h] at hh
      by_cases hb : n ≤ t
      · have bad : badT w0 n j := ⟨t, ht8, hb, h⟩
        have ht := q_hasTable_o (d := d + 3) C2 (x := nI t) (Or.inr (nI_le hb (by omega)))
        have hn := q_holdNothing (d := d + 3) (w := w2) (zSs_j hj8)
        refine step (w3 := zuA w2 (34 + 2 * j) (upd (upd (w2.1 (34 + 2 * j)) 1 (-1)) 2 0)) ⟨fun a ha => by rw [zA_n _ _ (by omega)]; exact i1 a ha, i2, fun i a b c => ?_, fun i a b => ?_⟩ ?_
        · by_cases e : i = j
          · subst e; rw [zA_s, u_ne (by decide), u_eq]
          · rw [zA_n _ _ (by omega)]; exact i3 i a (by omega) c
        · by_cases e : i = j
          · subst e
            rcases b with b | b
            · omega
            · exact absurd bad b
          · rw [zA_n _ _ (by omega)]
            exact i4 i a (by
              rcases b with b | b
              · exact Or.inl (by omega)
              · exact Or.inr b)
        · rw [e_5043_27]
          simp only [e_5043_28, e_5043_30, e_5043_33, e_5043_34, e_5043_35, e_5043_38, e_5043_39, e_5043_40r, e_5043_43, e_5043_44, e_5043_47, e_5043_50, e_5043_51, e_5043_54, e_5043_55, e_5043_58, e_5043_61, e_5043_64, e_5043_65, e_5043_68, e_5043_71, zk_int, zk_ref, zk_null, zk_none, zk_long, zisR_r, zisR_n, zcl_int, zcl_ref, zcl_null, zpush_s, zpush_n, zbs, zbn, true_or, or_true, not_false_eq_true, not_true_eq_false, ↓reduceIte, and_self, and_true, true_and, ie_0_1, ie_0_2, ie_0_3, ie_0_4, ie_0_5, ie_0_6, ie_0_7, ie_1_0, ie_1_2, ie_1_3, ie_1_4, ie_1_5, ie_1_6, ie_1_7, ie_2_0, ie_2_1, ie_2_3, ie_2_4, ie_2_5, ie_2_6, ie_2_7, ie_3_0, ie_3_1, ie_3_2, ie_3_4, ie_3_5, ie_3_6, ie_3_7, ie_4_0, ie_4_1, ie_4_2, ie_4_3, ie_4_5, ie_4_6, ie_4_7, ie_5_0, ie_5_1, ie_5_2, ie_5_3, ie_5_4, ie_5_6, ie_5_7, ie_6_0, ie_6_1, ie_6_2, ie_6_3, ie_6_4, ie_6_5, ie_6_7, ie_7_0, ie_7_1, ie_7_2, ie_7_3, ie_7_4, ie_7_5, ie_7_6, zt_0, zr_0_0, zt_1, g1, sa, th, hg, hh, ht, hn, nI_1]
      · have ht := q_hasTable (d := d + 3) C2 (t := t) (by omega)
        refine step (keep (fun ⟨t', a, b, c⟩ => ?_)) ?_
        · rw [h] at c
          have := (nI_eq (by omega) (by omega)).mp c
          omega
        · rw [e_5043_27]
          simp only [e_5043_28, e_5043_30, e_5043_33, e_5043_34, e_5043_35, e_5043_38, e_5043_39, e_5043_40r, e_5043_43, e_5043_44, e_5043_47, e_5043_50, e_5043_51, e_5043_54, e_5043_55, e_5043_58, e_5043_61, e_5043_64, e_5043_65, e_5043_68, e_5043_71, zk_int, zk_ref, zk_null, zk_none, zk_long, zisR_r, zisR_n, zcl_int, zcl_ref, zcl_null, zpush_s, zpush_n, zbs, zbn, true_or, or_true, not_false_eq_true, not_true_eq_false, ↓reduceIte, and_self, and_true, true_and, ie_0_1, ie_0_2, ie_0_3, ie_0_4, ie_0_5, ie_0_6, ie_0_7, ie_1_0, ie_1_2, ie_1_3, ie_1_4, ie_1_5, ie_1_6, ie_1_7, ie_2_0, ie_2_1, ie_2_3, ie_2_4, ie_2_5, ie_2_6, ie_2_7, ie_3_0, ie_3_1, ie_3_2, ie_3_4, ie_3_5, ie_3_6, ie_3_7, ie_4_0, ie_4_1, ie_4_2, ie_4_3, ie_4_5, ie_4_6, ie_4_7, ie_5_0, ie_5_1, ie_5_2, ie_5_3, ie_5_4, ie_5_6, ie_5_7, ie_6_0, ie_6_1, ie_6_2, ie_6_3, ie_6_4, ie_6_5, ie_6_7, ie_7_0, ie_7_1, ie_7_2, ie_7_3, ie_7_4, ie_7_5, ie_7_6, zt_0, zr_0_0, zt_1, g1, sa, th, hg, hh, ht, nI_1]
noncomputable def mHd (w : zM) (n : Nat) (j : Nat) : Nat → Int32 := fun i => @ite _ (i < j ∧ w.1 64 i = 2 ∧ nI n ≤ w.1 67 i) (Classical.propDecidable _) 0 (w.1 64 i)
theorem m_rest_l2 (h0 : w.1 50 0 = nI n) : ∀ r j, j + r = 8 → den (d + 1) 6095 25 [some (.ref 50), some (.int (nI j))] [] (zuA w 64 (mHd w n j)) = some (some (.int (nI n)), zuA w 64 (mHd w n 8)) := by
  have n50 : ∀ F, (zuA w 64 F).1 50 = w.1 50 := fun F => zA_n _ _ (by decide)
  have n67 : ∀ F, (zuA w 64 F).1 67 = w.1 67 := fun F => zA_n _ _ (by decide)
  intro r
  induction r with
  | zero =>
    intro j hj
    have e : j = 8 := by omega
    subst e
    have g1 : ((8 : Int32) ≤ nI 8) = True := eq_true (by decide)
    rw [e_6095_25]
    simp only [e_6095_26, e_6095_28, e_6095_67, e_6095_68, e_6095_71, zk_int, zk_ref, zk_null, zk_none, zk_long, zisR_r, zisR_n, zcl_int, zcl_ref, zcl_null, zpush_s, zpush_n, zbs, zbn, true_or, or_true, not_false_eq_true, not_true_eq_false, ↓reduceIte, and_self, and_true, true_and, zt_50, g1, n50, h0]
  | succ r ih =>
    intro j hj
    have hj8 : j < 8 := by omega
    have g1 : ((8 : Int32) ≤ nI j) = False := nI_ge_f (b := 8) hj8 (by decide)
    have hz := zis_nI hj8 (by decide)
    have hc := nI_clamp (n := j) (by omega)
    have ev : mHd w n j j = w.1 64 j := if_neg (fun c => Nat.lt_irrefl _ c.1)
    have i1 := ih (j + 1) (by omega)
    rw [e_6095_25]
    by_cases h2 : w.1 64 j = 2
    · by_cases h3 : nI n ≤ w.1 67 j
      · have em : mHd w n (j + 1) = upd (mHd w n j) j 0 := by
          funext i
          by_cases e : i = j
          · subst e
            rw [u_eq]
            exact if_pos ⟨Nat.lt_succ_self _, h2, h3⟩
          · rw [u_ne e]
            by_cases c : i < j ∧ w.1 64 i = 2 ∧ nI n ≤ w.1 67 i
            · exact (if_pos ⟨by omega, c.2⟩).trans (if_pos c).symm
            · exact (if_neg (fun c2 => c ⟨by omega, c2.2⟩)).trans (if_neg c).symm
        have h3' : (w.1 67 j < nI n) = False := eq_false (Int32.not_lt.mpr h3)
        rw [em] at i1
        simp only [c_6095, e_6095_0, e_6095_1, e_6095_4, e_6095_7, e_6095_8, e_6095_10, e_6095_13, e_6095_14, e_6095_15, e_6095_16, e_6095_19, e_6095_20, e_6095_23, e_6095_24, e_6095_26, e_6095_28, e_6095_31, e_6095_32, e_6095_35, e_6095_36, e_6095_37, e_6095_38, e_6095_41, e_6095_42, e_6095_45, e_6095_46, e_6095_47, e_6095_48, e_6095_51, e_6095_54, e_6095_55, e_6095_58, e_6095_59, e_6095_60, e_6095_61, e_6095_64, e_6095_68, e_6095_71, zk_int, zk_ref, zk_null, zk_none, zk_long, zisR_r, zisR_n, zcl_int, zcl_ref, zcl_null, zpush_s, zpush_n, zbs, zbn, true_or, or_true, not_false_eq_true, not_true_eq_false, ↓reduceIte, and_self, and_true, true_and, ie_0_1, ie_0_2, ie_0_3, ie_0_4, ie_0_5, ie_0_6, ie_0_7, ie_1_0, ie_1_2, ie_1_3, ie_1_4, ie_1_5, ie_1_6, ie_1_7, ie_2_0, ie_2_1, ie_2_3, ie_2_4, ie_2_5, ie_2_6, ie_2_7, ie_3_0, ie_3_1, ie_3_2, ie_3_4, ie_3_5, ie_3_6, ie_3_7, ie_4_0, ie_4_1, ie_4_2, ie_4_3, ie_4_5, ie_4_6, ie_4_7, ie_5_0, ie_5_1, ie_5_2, ie_5_3, ie_5_4, ie_5_6, ie_5_7, ie_6_0, ie_6_1, ie_6_2, ie_6_3, ie_6_4, ie_6_5, ie_6_7, ie_7_0, ie_7_1, ie_7_2, ie_7_3, ie_7_4, ie_7_5, ie_7_6, zt_50, zr_50_21, zt_64, zn_64, zo_64, zl_64, zq_64, zr_50_24, zt_67, zn_67, zo_67, zl_67, zq_67, g1, hz, hc, zA_s, n67, n50, ev, h2, h0, h3', zui_A, zA_A, nI_1]
        exact i1
      · have em : mHd w n (j + 1) = mHd w n j := by
          funext i
          by_cases e : i = j
          · subst e
            exact (if_neg (fun c => h3 c.2.2)).trans ev.symm
          · by_cases c : i < j ∧ w.1 64 i = 2 ∧ nI n ≤ w.1 67 i
            · exact (if_pos ⟨by omega, c.2⟩).trans (if_pos c).symm
            · exact (if_neg (fun c2 => c ⟨by omega, c2.2⟩)).trans (if_neg c).symm
        have h3' : (w.1 67 j < nI n) = True := eq_true (Int32.not_le.mp h3)
        rw [em] at i1
        simp only [c_6095, e_6095_0, e_6095_1, e_6095_4, e_6095_7, e_6095_8, e_6095_10, e_6095_13, e_6095_14, e_6095_15, e_6095_16, e_6095_19, e_6095_20, e_6095_23, e_6095_24, e_6095_26, e_6095_28, e_6095_31, e_6095_32, e_6095_35, e_6095_36, e_6095_37, e_6095_38, e_6095_41, e_6095_42, e_6095_45, e_6095_46, e_6095_47, e_6095_48, e_6095_51, e_6095_54, e_6095_55, e_6095_58, e_6095_59, e_6095_60, e_6095_61, e_6095_64, e_6095_68, e_6095_71, zk_int, zk_ref, zk_null, zk_none, zk_long, zisR_r, zisR_n, zcl_int, zcl_ref, zcl_null, zpush_s, zpush_n, zbs, zbn, true_or, or_true, not_false_eq_true, not_true_eq_false, ↓reduceIte, and_self, and_true, true_and, ie_0_1, ie_0_2, ie_0_3, ie_0_4, ie_0_5, ie_0_6, ie_0_7, ie_1_0, ie_1_2, ie_1_3, ie_1_4, ie_1_5, ie_1_6, ie_1_7, ie_2_0, ie_2_1, ie_2_3, ie_2_4, ie_2_5, ie_2_6, ie_2_7, ie_3_0, ie_3_1, ie_3_2, ie_3_4, ie_3_5, ie_3_6, ie_3_7, ie_4_0, ie_4_1, ie_4_2, ie_4_3, ie_4_5, ie_4_6, ie_4_7, ie_5_0, ie_5_1, ie_5_2, ie_5_3, ie_5_4, ie_5_6, ie_5_7, ie_6_0, ie_6_1, ie_6_2, ie_6_3, ie_6_4, ie_6_5, ie_6_7, ie_7_0, ie_7_1, ie_7_2, ie_7_3, ie_7_4, ie_7_5, ie_7_6, zt_50, zr_50_21, zt_64, zn_64, zo_64, zl_64, zq_64, zr_50_24, zt_67, zn_67, zo_67, zl_67, zq_67, g1, hz, hc, zA_s, n67, n50, ev, h2, h0, h3', nI_1]
        exact i1
    · have em : mHd w n (j + 1) = mHd w n j := by
        funext i
        by_cases e : i = j
        · subst e
          exact (if_neg (fun c => h2 c.2.1)).trans ev.symm
        · by_cases c : i < j ∧ w.1 64 i = 2 ∧ nI n ≤ w.1 67 i
          · exact (if_pos ⟨by omega, c.2⟩).trans (if_pos c).symm
          · exact (if_neg (fun c2 => c ⟨by omega, c2.2⟩)).trans (if_neg c).symm
      rw [em] at i1
      simp only [c_6095, e_6095_0, e_6095_1, e_6095_4, e_6095_7, e_6095_8, e_6095_10, e_6095_13, e_6095_14, e_6095_15, e_6095_16, e_6095_19, e_6095_20, e_6095_23, e_6095_24, e_6095_26, e_6095_28, e_6095_31, e_6095_32, e_6095_35, e_6095_36, e_6095_37, e_6095_38, e_6095_41, e_6095_42, e_6095_45, e_6095_46, e_6095_47, e_6095_48, e_6095_51, e_6095_54, e_6095_55, e_6095_58, e_6095_59, e_6095_60, e_6095_61, e_6095_64, e_6095_68, e_6095_71, zk_int, zk_ref, zk_null, zk_none, zk_long, zisR_r, zisR_n, zcl_int, zcl_ref, zcl_null, zpush_s, zpush_n, zbs, zbn, true_or, or_true, not_false_eq_true, not_true_eq_false, ↓reduceIte, and_self, and_true, true_and, ie_0_1, ie_0_2, ie_0_3, ie_0_4, ie_0_5, ie_0_6, ie_0_7, ie_1_0, ie_1_2, ie_1_3, ie_1_4, ie_1_5, ie_1_6, ie_1_7, ie_2_0, ie_2_1, ie_2_3, ie_2_4, ie_2_5, ie_2_6, ie_2_7, ie_3_0, ie_3_1, ie_3_2, ie_3_4, ie_3_5, ie_3_6, ie_3_7, ie_4_0, ie_4_1, ie_4_2, ie_4_3, ie_4_5, ie_4_6, ie_4_7, ie_5_0, ie_5_1, ie_5_2, ie_5_3, ie_5_4, ie_5_6, ie_5_7, ie_6_0, ie_6_1, ie_6_2, ie_6_3, ie_6_4, ie_6_5, ie_6_7, ie_7_0, ie_7_1, ie_7_2, ie_7_3, ie_7_4, ie_7_5, ie_7_6, zt_50, zr_50_21, zt_64, zn_64, zo_64, zl_64, zq_64, zr_50_24, zt_67, zn_67, zo_67, zl_67, zq_67, g1, hz, hc, zA_s, n67, n50, ev, h2, nI_1]
      exact i1
end PM
