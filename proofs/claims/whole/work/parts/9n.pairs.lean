section QG
variable {d n m n2 m2 j z p p0 : Nat} {w w1 w2 X X0 : zM} {S : Nat → Int32} {L : Int32} {T V G : Nat → Int32}
theorem zRl_hs (A : zRl w S L n m) (kk : ∀ a, (a = 0 ∨ (6 ≤ a ∧ a ≤ 9) ∨ a = 11 ∨ a = 12 ∨ (14 ≤ a ∧ a ≤ 17) ∨ (34 ≤ a ∧ a < 50) ∨ (64 ≤ a ∧ a ≤ 68) ∨ a = 70 ∨ a = 73 ∨ a = 79 ∨ a = 998 ∨ a = 999) → w2.1 a = w.1 a) (k2 : ∀ k, (k = 46 ∨ k = 47) → w2.1 50 k = w.1 50 k) (k4 : w2.2 = w.2) (a : rA w2 n2 m2) (hn : n ≤ n2) (f : rF w2) (t : w2.1 25 3 = w2.1 50 7) (z1 : zHz w2 1) (z26 : zHz w2 26) : zRl w2 S L n2 m2 := by
  obtain ⟨_, i, s, _, _, c, o, z⟩ := A
  exact ⟨a, rI_k i (kk 0 (by omega)) (kk 6 (by omega)) (kk 7 (by omega)) (kk 8 (by omega)) (kk 9 (by omega)) (k2 47 (by omega)) (kk 73 (by omega)), fun j hj => rSj_n (rSj_k (s j hj) (by rw [kk 64 (by omega)]) (by rw [kk 65 (by omega)]) (by rw [kk 66 (by omega)]) (by rw [kk 67 (by omega)]) (kk _ (by omega)) (fun i => by rw [k4]) (by rw [k4])) hn, f, t, rC_k c (kk 11 (by omega)) (kk 12 (by omega)) (k2 46 (by omega)) (kk 79 (by omega)), rW_k o (kk 70 (by omega)) (kk 998 (by omega)) (kk 999 (by omega)), z1, zHz_k (fun b h1 h2 => kk b (by omega)) z.2.1, zHz_k (fun b h1 h2 => kk b (by omega)) z.2.2.1, z26⟩
theorem rRd_k {L : Nat → Int32} : ∀ r k p H N, k ≤ p → p ≤ z → H.1 ≤ 8 → H.2.1 ≤ 4 → (rRd L z r k p H N).2.1 ≤ z + 1 := by
  intro r
  induction r with
  | zero => intro k p H N h1 h2 _ _; show k ≤ z + 1; omega
  | succ r ih =>
    intro k p H N h1 h2 h3 h4
    rw [rRd_s]
    by_cases c1 : (rItm L H.1 H.2.1 p N).1 = true
    · have b := rItm_ok h3 h4 c1
      rw [if_pos c1]
      by_cases c2 : (rItm L H.1 H.2.1 p N).2.1 < z
      · rw [if_pos c2]
        by_cases c3 : L (rItm L H.1 H.2.1 p N).2.1 = 59
        · rw [if_pos c3]
          exact ih _ _ _ _ (by omega) (by omega) (b.2.2 _).1 (b.2.2 _).2
        · rw [if_neg c3]
          show k + 1 ≤ z + 1
          omega
      · rw [if_neg c2]
        show k + 1 ≤ z + 1
        omega
    · rw [if_neg c1]
      show k ≤ z + 1
      omega
def hX0 (W : zM) (j z : Nat) : zM := zui (zui (zui (zui (zuA W 72 (mKf W (W.1 72))) 50 29 (nI (160 * j))) 50 30 (nI 0)) 50 31 (nI z)) 50 7 (-1)
theorem hX0_n {W : zM} {a : Nat} (h : a ≠ 50) (h2 : a ≠ 72) : (hX0 W j z).1 a = W.1 a := by
  unfold hX0
  rw [zi_n _ h, zi_n _ h, zi_n _ h, zi_n _ h, zA_n _ _ h2]
theorem hX0_72 {W : zM} : (hX0 W j z).1 72 = mKf W (W.1 72) := by
  unfold hX0
  rw [zi_n _ (by decide), zi_n _ (by decide), zi_n _ (by decide), zi_n _ (by decide), zA_s]
theorem hX0_50 {W : zM} {k : Nat} : (hX0 W j z).1 50 k = upd (upd (upd (upd (W.1 50) 29 (nI (160 * j))) 30 (nI 0)) 31 (nI z)) 7 (-1) k := by
  unfold hX0
  rw [zi_s, zi_s, zi_s, zi_s, zA_n _ _ (by decide)]
theorem hX0_I {W : zM} (A : zMs W T V G) (B : zMn W n m) : mI (hX0 W j z) (hX0 W j z) n m T V G :=
  ⟨mFr_r, zMs_k A ⟨by rw [hX0_50, u_ne (by decide), u_ne (by decide), u_ne (by decide), u_ne (by decide)], by rw [hX0_50, u_ne (by decide), u_ne (by decide), u_ne (by decide), u_ne (by decide)]⟩ (fun a h1 h2 => hX0_n (by omega) (by omega)), zMn_k B (by rw [hX0_50, u_ne (by decide), u_ne (by decide), u_ne (by decide), u_ne (by decide)]) (by rw [hX0_50, u_ne (by decide), u_ne (by decide), u_ne (by decide), u_ne (by decide)])⟩
theorem hX0_E {W : zM} {L : Nat → Int32} (hL : ∀ i, i < z → (W.2 68 (160 * j + i)).toInt32 = L i) (hL0 : ∀ i, z ≤ i → L i = 0) (hz : z ≤ 160) (hj : j < 8) (hw : ∀ i, i < 40 → W.1 70 i = zWd i) : mE (hX0 W j z) j z 0 L :=
  ⟨by rw [hX0_50, u_ne (by decide), u_ne (by decide), u_ne (by decide), u_eq], by rw [hX0_50, u_ne (by decide), u_ne (by decide), u_eq], by rw [hX0_50, u_ne (by decide), u_eq], hL, hL0, hz, hj, by rw [hX0_n (by decide) (by decide)]; exact hw⟩
theorem m_h_go {W : zM} (hj : j < 8) (h1 : W.1 64 j = 1) (h6 : W.1 66 j = nI z) : cal (d + 40) 6040 [.ref 50, .int (nI j)] W = den (d + 40) 6040 56 [some (.ref 50), some (.int (nI j)), some (.int 0), some (.int (nI 1)), none] [] (hX0 W j z) := by
  have q := m_wants_1 (d := d + 38) hj h1
  have cf := m_carF (d := d + 38) (w := W) (a := 72) zt_72 zn_72 (by decide)
  have hz := zis_nI (j := j) (n := 8) hj (by decide)
  have hc := nI_clamp (n := j) (by omega)
  have e160 : 160 * nI j = nI (160 * j) := pk_mul 160 j
  have n66 : ∀ F v u, (zui (zui (zuA W 72 F) 50 29 v) 50 30 u).1 66 = W.1 66 := fun F v u => by rw [zi_n _ (by decide), zi_n _ (by decide), zA_n _ _ (by decide)]
  unfold hX0
  rw [nI_0, show nI 1 = (1 : Int32) from rfl]
  simp only [c_6040, e_6040_0, e_6040_1, e_6040_2, e_6040_5, e_6040_6, e_6040_7, e_6040_16, e_6040_17, e_6040_18, e_6040_21, e_6040_22, e_6040_25, e_6040_26, e_6040_29, e_6040_30, e_6040_31, e_6040_34, e_6040_35, e_6040_36, e_6040_39, e_6040_40, e_6040_41, e_6040_44, e_6040_45, e_6040_46, e_6040_49, e_6040_50, e_6040_51, e_6040_54, e_6040_55, zk_int, zk_ref, zk_null, zk_none, zk_long, zisR_r, zisR_n, zcl_int, zcl_ref, zcl_null, zpush_s, zpush_n, zbs, zbn, true_or, or_true, not_false_eq_true, not_true_eq_false, ↓reduceIte, and_self, and_true, true_and, zt_50, zr_50_34, zt_72, zn_72, zo_72, zl_72, zq_72, zr_50_23, zt_66, zn_66, zo_66, zl_66, zq_66, q, cf, hz, hc, e160, n66, h6]
theorem p_house_r {s0 : Nat} (A : zRl w S L n m) (hj : j < 8) (h1 : w.1 64 j = 1) (g1 : s0 < 4) (g2 : z ≤ 160) (g4 : w.1 (34 + 2 * j) 1 = nI (100 + s0)) (g5 : w.1 (34 + 2 * j) 2 = nI z) (g6 : w.1 66 j = nI z) (g7 : ∀ i, i < z → w.2 68 (160 * j + i) = w.2 (34 + 2 * j + 1) i ∧ sLow (nI s0) (w.2 (34 + 2 * j + 1) i) = w.2 (34 + 2 * j + 1) i) : zPr d 5016 6040 [.int (nI j)] w S L := by
  have C := rl_C A
  have M := rl_M A
  have z1 := rl_z1 A
  have z26 := rl_z26 A
  have hm4 := rl_m A
  have hn8 := rl_n A
  have a := f_shelfAt (d := d + 39) (w := w) hj
  have th := (zSs_f (zSs_j hj)).1
  have t := f_rowRef (d := d + 38) (w := w) (zSs_j hj)
  have h100 : 100 ≤ w.1 (34 + 2 * j) 1 := by rw [g4]; exact nI_le (a := 100) (by omega) (by omega)
  rw [if_pos h100] at t
  have E := rTL_X hj g5 g2
  obtain ⟨R, Z, hR, hZ, q⟩ := q_read (d := d + 32) C z1 z26 E
  have iv0 : rIh (n, m, w.1 2, w.1 3, w.1 4) := ⟨M.2.2, A.1.2.2.1, z1.1, z1.2.1, z1.2.2.1⟩
  have iv : rIh R.2.2.2.2.1 := by rw [hR]; exact rRd_iv 200 0 0 _ _ iv0
  have le : n ≤ R.2.2.2.2.1.1 := by rw [hR]; exact rRd_le 200 0 0 (n, m, w.1 2, w.1 3, w.1 4) _
  have kb : R.2.1 ≤ z + 1 := by rw [hR]; exact rRd_k 200 0 0 (n, m, w.1 2, w.1 3, w.1 4) _ (Nat.le_refl _) (Nat.zero_le _) hn8 hm4
  have LL := fun (W : zM) (e : W.2 = w.2) (i : Nat) (hi : i < z) => (show (W.2 68 (160 * j + i)).toInt32 = rTL w j z i from by rw [e, (g7 i hi).1]; exact (if_pos hi).symm)
  have L0 : ∀ i, z ≤ i → rTL w j z i = 0 := fun i hi => if_neg (by omega)
  have wds := A.2.2.2.2.2.2.1.1
  have zn : ∀ a, (a < 26 ∨ 29 < a) → Z.1 a = w.1 a := fun a h => by rw [hZ]; exact sHs_n _ _ _ _ _ h
  have z26' : Z.1 26 = w.1 1 := by rw [hZ]; unfold sHs; rw [zA_s]
  have z2 : Z.2 = w.2 := by rw [hZ]; rfl
  have dn : ∀ a, (a < 26 ∨ 29 < a) → (wD Z R.2.2.2.2.1).1 a = w.1 a := fun a h => by
    unfold wD
    rw [zA_n _ _ (by omega), zA_n _ _ (by omega), zA_n _ _ (by omega), zA_n _ _ (by omega)]
    exact zn a h
  have d26 : (wD Z R.2.2.2.2.1).1 26 = upd (upd (w.1 1) 3 (nI R.2.2.2.2.1.1)) 4 (nI R.2.2.2.2.1.2.1) := by rw [wD_26, z26']
  have d27 := wD_27 Z R.2.2.2.2.1
  have d28 := wD_28 Z R.2.2.2.2.1
  have d29 := wD_29 Z R.2.2.2.2.1
  have d2 : (wD Z R.2.2.2.2.1).2 = w.2 := z2
  generalize hH : R.2.2.2.2.1 = H at *
  obtain ⟨n2, m2, T2, V2, G2⟩ := H
  dsimp only at d26 d27 d28 d29 le
  obtain ⟨R2, s6, tT, tV, tG⟩ := iv
  dsimp only at R2 s6 tT tV tG
  have n28 : n2 ≤ 8 := R2.2.2.2.2.2.2.2.1
  have m24 : m2 ≤ 4 := R2.2.2.2.2.2.2.2.2
  generalize wD Z (n2, m2, T2, V2, G2) = D at *
  have F0 : ∀ k, k < 3 ∨ 8 ≤ k → upd (upd (w.1 1) 3 (nI n2)) 4 (nI m2) k = 0 := fun k hk => by
    rw [u_ne (by omega), u_ne (by omega)]
    exact z1.2.2.2 k hk
  by_cases ho : R.1 = true
  · rw [if_pos ho] at q
    have s25 : (sR D R.2.2.2.2.2 R.2.2.1 (-1)).1 25 3 = -1 := sR_f _ _ _ _
    have sn : ∀ a, a ≠ 25 ∧ a ≠ 31 → (sR D R.2.2.2.2.2 R.2.2.1 (-1)).1 a = D.1 a := fun a h => sR_n _ _ _ _ h
    have s2 : (sR D R.2.2.2.2.2 R.2.2.1 (-1)).2 = D.2 := rfl
    generalize sR D R.2.2.2.2.2 R.2.2.1 (-1) = W0 at q s25 sn s2
    have dr := f_draft (d := d + 39) (w := W0)
    have b := q_becomeAs (d := d + 38) (w := W0) (h := 1) (k := 26) zHs1 (Or.inr (Or.inr (Or.inr rfl))) (by decide)
    have zz1 : zHz W0 1 := zHz_k (fun a h1 h2 => by rw [sn a (by omega), dn a (by omega)]) z1
    have zz26 : zHz W0 26 := by
      unfold zHz
      rw [sn _ (by decide), sn _ (by decide), sn _ (by decide), sn _ (by decide), d26, show (26 + 1 : Nat) = 27 from rfl, show (26 + 2 : Nat) = 28 from rfl, show (26 + 3 : Nat) = 29 from rfl, d27, d28, d29]
      exact ⟨tT, tV, tG, F0⟩
    rw [sBec_z zz1 zz26] at b
    have x1 : (sHs W0 1 (W0.1 26) (W0.1 (26 + 1)) (W0.1 (26 + 2)) (W0.1 (26 + 3))).1 1 = upd (upd (w.1 1) 3 (nI n2)) 4 (nI m2) := by rw [sHs_0, sn _ (by decide), d26]
    have x2 : (sHs W0 1 (W0.1 26) (W0.1 (26 + 1)) (W0.1 (26 + 2)) (W0.1 (26 + 3))).1 2 = T2 := (sHs_1 _ _ _ _).trans ((sn 27 (by decide)).trans d27)
    have x3 : (sHs W0 1 (W0.1 26) (W0.1 (26 + 1)) (W0.1 (26 + 2)) (W0.1 (26 + 3))).1 3 = V2 := (sHs_t _ _ _ _).trans ((sn 28 (by decide)).trans d28)
    have x4 : (sHs W0 1 (W0.1 26) (W0.1 (26 + 1)) (W0.1 (26 + 2)) (W0.1 (26 + 3))).1 4 = G2 := (sHs_3 _ _ _ _).trans ((sn 29 (by decide)).trans d29)
    have xn : ∀ a, (a < 1 ∨ 4 < a) → (sHs W0 1 (W0.1 26) (W0.1 (26 + 1)) (W0.1 (26 + 2)) (W0.1 (26 + 3))).1 a = W0.1 a := fun a h => sHs_a _ _ _ _ (by omega)
    have xl : (sHs W0 1 (W0.1 26) (W0.1 (26 + 1)) (W0.1 (26 + 2)) (W0.1 (26 + 3))).2 = w.2 := by
      show W0.2 = w.2
      rw [s2, d2]
    generalize sHs W0 1 (W0.1 26) (W0.1 (26 + 1)) (W0.1 (26 + 2)) (W0.1 (26 + 3)) = W at b x1 x2 x3 x4 xn xl
    have nk : (nI R.2.1 = -1) = False := eq_false (nI_neN (by omega))
    have hc : cal (d + 40) 5016 [.ref 0, .int (nI j)] w = some (some (.int (nI R.2.1)), W) := by
      simp only [c_5016, e_5016_0, e_5016_1, e_5016_2, e_5016_5, e_5016_6, e_5016_7, e_5016_10, e_5016_11, e_5016_12n, e_5016_12r, e_5016_15, e_5016_16, e_5016_19, e_5016_20, e_5016_21, e_5016_24, e_5016_25, e_5016_26, e_5016_29, e_5016_30, e_5016_31, e_5016_34, e_5016_37, e_5016_39, e_5016_41, e_5016_42, e_5016_45, e_5016_46, e_5016_48, e_5016_51, e_5016_52, e_5016_53, e_5016_56, e_5016_57, e_5016_60, e_5016_63, e_5016_66, e_5016_68, zk_int, zk_ref, zk_null, zk_none, zk_long, zisR_r, zisR_n, zcl_int, zcl_ref, zcl_null, zpush_s, zpush_n, zbs, zbn, true_or, or_true, not_false_eq_true, not_true_eq_false, ↓reduceIte, and_self, and_true, true_and, zt_0, zr_0_0, zr_0_4, zt_1, zt_25, th, a, t, q, nk, dr, b]
    have xo : ∀ a, (a < 1 ∨ 4 < a) → a ≠ 25 → a ≠ 31 → (a < 26 ∨ 29 < a) → W.1 a = w.1 a := fun a g1 g2 g3 g4 => by rw [xn a g1, sn a ⟨g2, g3⟩, dn a g4]
    have MsW : zMs W (w.1 2) (w.1 3) (w.1 4) := zMs_k M.1 ⟨by rw [xo 50 (by omega) (by omega) (by omega) (by omega)], by rw [xo 50 (by omega) (by omega) (by omega) (by omega)]⟩ (fun a h1 h2 => xo a (by omega) (by omega) (by omega) (by omega))
    have MnW : zMn W n m := zMn_k M.2.1 (by rw [xo 50 (by omega) (by omega) (by omega) (by omega)]) (by rw [xo 50 (by omega) (by omega) (by omega) (by omega)])
    have go := m_h_go (d := d) (W := W) (z := z) hj (by rw [xo 64 (by omega) (by omega) (by omega) (by omega)]; exact h1) (by rw [xo 66 (by omega) (by omega) (by omega) (by omega)]; exact g6)
    have E0 := hX0_E (W := W) (j := j) (LL W xl) L0 g2 hj (by rw [xo 70 (by omega) (by omega) (by omega) (by omega)]; exact wds)
    obtain ⟨X', t1, -⟩ := m_h_l (d := d + 37) (s := nI j) (b := 0) E0 200 0 0 (n, m, w.1 2, w.1 3, w.1 4) (w.1 31) _ none (by omega) (Nat.zero_le _) (hX0_I MsW MnW) (by rw [hX0_50, u_ne (by decide), u_ne (by decide), u_eq])
    rw [← hR, hH] at t1
    obtain ⟨r1, F', I1, I2⟩ := t1 ho
    dsimp only at F' I1 I2
    have hm := go.trans r1
    have fo : ∀ a, a ≠ 50 → a ≠ 71 → a ≠ 72 → (a < 52 ∨ 63 < a) → (a < 1 ∨ 4 < a) → a ≠ 25 → a ≠ 31 → (a < 26 ∨ 29 < a) → X'.1 a = w.1 a := fun a h1 h2 h3 h4 h5 h6 h7 h8 => by
      rw [F'.1 a h1 h2 h4, hX0_n h1 h3, xo a h5 h6 h7 h8]
    have fw : ∀ a, a ≠ 50 → a ≠ 71 → a ≠ 72 → (a < 52 ∨ 63 < a) → X'.1 a = W.1 a := fun a h1 h2 h3 h4 => by
      rw [F'.1 a h1 h2 h4, hX0_n h1 h3]
    have f50 : ∀ k, 4 ≤ k → k ≠ 30 → k ≠ 32 → k ≠ 33 → k ≠ 7 → k ≠ 29 → k ≠ 31 → X'.1 50 k = w.1 50 k := fun k a1 a2 a3 a4 a5 a6 a7 => by
      rw [F'.2.1 k a1 a2 a3 a4, hX0_50, u_ne a5, u_ne a7, u_ne a2, u_ne a6, xo 50 (by omega) (by omega) (by omega) (by omega)]
    have y1 : X'.1 1 = upd (upd (w.1 1) 3 (nI n2)) 4 (nI m2) := by rw [fw 1 (by decide) (by decide) (by decide) (by omega), x1]
    have y2 : X'.1 2 = T2 := by rw [fw 2 (by decide) (by decide) (by decide) (by omega), x2]
    have y3 : X'.1 3 = V2 := by rw [fw 3 (by decide) (by decide) (by decide) (by omega), x3]
    have y4 : X'.1 4 = G2 := by rw [fw 4 (by decide) (by decide) (by decide) (by omega), x4]
    have y26 : ∀ a, 26 ≤ a → a ≤ 29 → X'.1 a = D.1 a := fun a h1 h2 => by rw [fw a (by omega) (by omega) (by omega) (by omega), xn a (by omega), sn a (by omega)]
    refine ⟨_, _, _, n2, m2, hc, hm, zRl_hs A (fun a ha => fo a (by omega) (by omega) (by omega) (by omega) (by omega) (by omega) (by omega) (by omega)) (fun k hk => f50 k (by omega) (by omega) (by omega) (by omega) (by omega) (by omega) (by omega)) ?_ ?_ le ?_ ?_ ?_ ?_⟩
    · rw [F'.2.2]
      exact xl
    · unfold rA zHc
      rw [y1, y2, y3, y4, u_eq, u_ne (by decide), u_eq, u_ne (by decide), u_ne (by decide), u_ne (by decide), u_ne (by decide), u_ne (by decide), u_ne (by decide), f50 4 (by decide) (by decide) (by decide) (by decide) (by decide) (by decide) (by decide), f50 5 (by decide) (by decide) (by decide) (by decide) (by decide) (by decide) (by decide), f50 6 (by decide) (by decide) (by decide) (by decide) (by decide) (by decide) (by decide)]
      exact ⟨⟨zHs1, rfl, n28, rfl, m24⟩, ⟨I1, I2, R2⟩, s6, A.1.2.2.2⟩
    · unfold rF
      rw [fo 33 (by omega) (by omega) (by omega) (by omega) (by omega) (by omega) (by omega) (by omega), fo 51 (by omega) (by omega) (by omega) (by omega) (by omega) (by omega) (by omega) (by omega)]
      exact A.2.2.2.1
    · rw [fw 25 (by omega) (by omega) (by omega) (by omega), xn 25 (by omega), s25, F'.2.1 7 (by decide) (by decide) (by decide) (by decide), hX0_50, u_eq]
    · unfold zHz
      rw [y1, show (1 + 1 : Nat) = 2 from rfl, show (1 + 2 : Nat) = 3 from rfl, show (1 + 3 : Nat) = 4 from rfl, y2, y3, y4]
      exact ⟨tT, tV, tG, F0⟩
    · unfold zHz
      rw [y26 _ (by omega) (by omega), y26 _ (by omega) (by omega), y26 _ (by omega) (by omega), y26 _ (by omega) (by omega), d26, show (26 + 1 : Nat) = 27 from rfl, show (26 + 2 : Nat) = 28 from rfl, show (26 + 3 : Nat) = 29 from rfl, d27, d28, d29]
      exact ⟨tT, tV, tG, F0⟩
  · rw [if_neg ho] at q
    have ho' : R.1 = false := by cases h : R.1 with
      | true => exact absurd h ho
      | false => rfl
    have s25 : (sR D R.2.2.2.2.2 R.2.2.1 (nI R.2.2.2.1)).1 25 3 = nI R.2.2.2.1 := sR_f _ _ _ _
    have sn : ∀ a, a ≠ 25 ∧ a ≠ 31 → (sR D R.2.2.2.2.2 R.2.2.1 (nI R.2.2.2.1)).1 a = D.1 a := fun a h => sR_n _ _ _ _ h
    have s2 : (sR D R.2.2.2.2.2 R.2.2.1 (nI R.2.2.2.1)).2 = D.2 := rfl
    generalize sR D R.2.2.2.2.2 R.2.2.1 (nI R.2.2.2.1) = W0 at q s25 sn s2
    have em : ((-1 : Int32) = -1) = True := eq_true rfl
    have f := f_refuse (d := d + 38) (w := W0) (c := -6) (j := 6) (by decide) (by decide)
    have hc : cal (d + 40) 5016 [.ref 0, .int (nI j)] w = some (some (.int (-6)), fRf W0 6) := by
      simp only [c_5016, e_5016_0, e_5016_1, e_5016_2, e_5016_5, e_5016_6, e_5016_7, e_5016_10, e_5016_11, e_5016_12n, e_5016_12r, e_5016_15, e_5016_16, e_5016_19, e_5016_20, e_5016_21, e_5016_24, e_5016_25, e_5016_26, e_5016_29, e_5016_30, e_5016_31, e_5016_34, e_5016_37, e_5016_39, e_5016_41, e_5016_42, e_5016_45, e_5016_46, e_5016_48, e_5016_51, e_5016_52, e_5016_53, e_5016_56, e_5016_57, e_5016_60, e_5016_63, e_5016_66, e_5016_68, zk_int, zk_ref, zk_null, zk_none, zk_long, zisR_r, zisR_n, zcl_int, zcl_ref, zcl_null, zpush_s, zpush_n, zbs, zbn, true_or, or_true, not_false_eq_true, not_true_eq_false, ↓reduceIte, and_self, and_true, true_and, zt_0, zr_0_0, zr_0_4, zt_1, zt_25, th, a, t, q, em, f]
    have w33 : W0.1 33 = w.1 33 := by rw [sn 33 (by decide), dn 33 (by omega)]
    have x33 : (fRf W0 6).1 33 = upd (w.1 33) 6 (w.1 33 6 + 1) := by
      unfold fRf
      rw [zA_s, w33]
    have xn : ∀ a, a ≠ 33 → (fRf W0 6).1 a = W0.1 a := fun a h => fRf_n h
    have xl : (fRf W0 6).2 = w.2 := by
      show W0.2 = w.2
      rw [s2, d2]
    generalize fRf W0 6 = W at hc x33 xn xl
    have xo : ∀ a, a ≠ 33 → a ≠ 25 → a ≠ 31 → (a < 26 ∨ 29 < a) → W.1 a = w.1 a := fun a g1 g2 g3 g4 => by rw [xn a g1, sn a ⟨g2, g3⟩, dn a g4]
    have MsW : zMs W (w.1 2) (w.1 3) (w.1 4) := zMs_k M.1 ⟨by rw [xo 50 (by omega) (by omega) (by omega) (by omega)], by rw [xo 50 (by omega) (by omega) (by omega) (by omega)]⟩ (fun a h1 h2 => xo a (by omega) (by omega) (by omega) (by omega))
    have MnW : zMn W n m := zMn_k M.2.1 (by rw [xo 50 (by omega) (by omega) (by omega) (by omega)]) (by rw [xo 50 (by omega) (by omega) (by omega) (by omega)])
    have go := m_h_go (d := d) (W := W) (z := z) hj (by rw [xo 64 (by omega) (by omega) (by omega) (by omega)]; exact h1) (by rw [xo 66 (by omega) (by omega) (by omega) (by omega)]; exact g6)
    have E0 := hX0_E (W := W) (j := j) (LL W xl) L0 g2 hj (by rw [xo 70 (by omega) (by omega) (by omega) (by omega)]; exact wds)
    obtain ⟨X', -, t2⟩ := m_h_l (d := d + 37) (s := nI j) (b := 0) E0 200 0 0 (n, m, w.1 2, w.1 3, w.1 4) (w.1 31) _ none (by omega) (Nat.zero_le _) (hX0_I MsW MnW) (by rw [hX0_50, u_ne (by decide), u_ne (by decide), u_eq])
    rw [← hR] at t2
    obtain ⟨c, r1, r33, F'⟩ := t2 ho'
    have k72 : X'.1 72 = mKf W (W.1 72) := by rw [F'.1 72 (by decide) (by decide) (by omega), hX0_72]
    have ct := m_carT (d := d + 38) (w := X') (a := 72) zt_72 zn_72 (by decide)
    rw [k72] at ct
    have w50 : W.1 50 = w.1 50 := xo 50 (by omega) (by omega) (by omega) (by omega)
    have kt : zKt (mKf W (W.1 72)) (w.1 2) (w.1 3) (w.1 4) (w.1 1) n m := zKt_f MsW MnW M.2.2 A.1.2.2.1 (by rw [w50]; exact A.1.2.2.2.1) (by rw [w50]; exact A.1.2.2.2.2.1) (by rw [w50]; exact A.1.2.2.2.2.2) C.2.1 C.2.2.2.1
    obtain ⟨b1, b2, b3, b4, b5⟩ := zKt_b (w := X') kt
    have bn : ∀ a, a ≠ 50 → (a < 52 ∨ 63 < a) → (cB X' (mKf W (W.1 72))).1 a = X'.1 a := fun a h1 h2 => cB_n h1 h2
    have b7 : ∀ k, 7 ≤ k → (cB X' (mKf W (W.1 72))).1 50 k = X'.1 50 k := fun k hk => by
      rw [cB_50, u_ne (by omega), u_ne (by omega), u_ne (by omega), u_ne (by omega), u_ne (by omega), u_ne (by omega), u_ne (by omega)]
    have bl : (cB X' (mKf W (W.1 72))).2 = w.2 := by
      show X'.2 = w.2
      rw [F'.2.2]
      exact xl
    generalize cB X' (mKf W (W.1 72)) = Y at ct b1 b2 b3 b4 b5 bn b7 bl
    have y33 : Y.1 50 33 = nI R.2.2.2.1 := by rw [b7 33 (by decide)]; exact r33
    have r := m_no (d := d + 39) (w := zui Y 50 7 (nI R.2.2.2.1)) (j := 6) (c := -6) (by decide) (by decide)
    have hm : cal (d + 40) 6040 [.ref 50, .int (nI j)] W = some (some (.int (-6)), mRf (zui Y 50 7 (nI R.2.2.2.1)) 6) := by
      refine go.trans (r1.trans ?_)
      simp only [e_6040_140, e_6040_141, e_6040_142, e_6040_145, e_6040_146, e_6040_149, e_6040_150, e_6040_151, e_6040_154, e_6040_157, e_6040_158, e_6040_160, e_6040_163, zk_int, zk_ref, zk_null, zk_none, zk_long, zisR_r, zisR_n, zcl_int, zcl_ref, zcl_null, zpush_s, zpush_n, zbs, zbn, true_or, or_true, not_false_eq_true, not_true_eq_false, ↓reduceIte, and_self, and_true, true_and, zt_50, zr_50_34, zt_72, zn_72, zo_72, zl_72, zq_72, ct, y33, r]
    have vn : ∀ a, a ≠ 51 → a ≠ 50 → (mRf (zui Y 50 7 (nI R.2.2.2.1)) 6).1 a = Y.1 a := fun a h1 h2 => by
      unfold mRf
      rw [zA_n _ _ h1, zi_n _ h2]
    have v50 : ∀ k, (mRf (zui Y 50 7 (nI R.2.2.2.1)) 6).1 50 k = upd (Y.1 50) 7 (nI R.2.2.2.1) k := fun k => by
      unfold mRf
      rw [zA_n _ _ (by decide), zi_s]
    have v51 : (mRf (zui Y 50 7 (nI R.2.2.2.1)) 6).1 51 = upd (Y.1 51) 6 (Y.1 51 6 + 1) := by
      unfold mRf
      rw [zA_s, zi_n _ (by decide)]
    have v2 : (mRf (zui Y 50 7 (nI R.2.2.2.1)) 6).2 = w.2 := bl
    generalize mRf (zui Y 50 7 (nI R.2.2.2.1)) 6 = Q at hm vn v50 v51 v2
    have yw : ∀ a, a ≠ 50 → a ≠ 71 → a ≠ 72 → (a < 52 ∨ 63 < a) → Y.1 a = W.1 a := fun a h1 h2 h3 h4 => by
      rw [bn a h1 h4, F'.1 a h1 h2 h4, hX0_n h1 h3]
    have fw : ∀ a, a ≠ 50 → a ≠ 51 → a ≠ 71 → a ≠ 72 → (a < 52 ∨ 63 < a) → Q.1 a = W.1 a := fun a h1 h1' h2 h3 h4 => by
      rw [vn a h1' h1, yw a h1 h2 h3 h4]
    have fo : ∀ a, a ≠ 50 → a ≠ 51 → a ≠ 71 → a ≠ 72 → (a < 52 ∨ 63 < a) → a ≠ 33 → a ≠ 25 → a ≠ 31 → (a < 26 ∨ 29 < a) → Q.1 a = w.1 a := fun a h1 h1' h2 h3 h4 h5 h6 h7 h8 => by
      rw [fw a h1 h1' h2 h3 h4, xo a h5 h6 h7 h8]
    have q50 : ∀ k, 8 ≤ k → k ≠ 30 → k ≠ 32 → k ≠ 33 → k ≠ 29 → k ≠ 31 → Q.1 50 k = w.1 50 k := fun k a1 a2 a3 a4 a6 a7 => by
      rw [v50, u_ne (by omega), b7 k (by omega), F'.2.1 k (by omega) a2 a3 a4, hX0_50, u_ne (by omega), u_ne a7, u_ne a2, u_ne a6, w50]
    have q6 : ∀ k, k ≤ 6 → Q.1 50 k = Y.1 50 k := fun k hk => by rw [v50, u_ne (by omega)]
    have y1 : Q.1 1 = w.1 1 := fo 1 (by omega) (by omega) (by omega) (by omega) (by omega) (by omega) (by omega) (by omega) (by omega)
    have y2 : Q.1 2 = w.1 2 := fo 2 (by omega) (by omega) (by omega) (by omega) (by omega) (by omega) (by omega) (by omega) (by omega)
    have y3 : Q.1 3 = w.1 3 := fo 3 (by omega) (by omega) (by omega) (by omega) (by omega) (by omega) (by omega) (by omega) (by omega)
    have y4 : Q.1 4 = w.1 4 := fo 4 (by omega) (by omega) (by omega) (by omega) (by omega) (by omega) (by omega) (by omega) (by omega)
    have y26 : ∀ a, 26 ≤ a → a ≤ 29 → Q.1 a = D.1 a := fun a h1 h2 => by rw [fw a (by omega) (by omega) (by omega) (by omega) (by omega), xn a (by omega), sn a (by omega)]
    refine ⟨_, _, _, n, m, hc, hm, zRl_hs A (fun a ha => fo a (by omega) (by omega) (by omega) (by omega) (by omega) (by omega) (by omega) (by omega) (by omega)) (fun k hk => q50 k (by omega) (by omega) (by omega) (by omega) (by omega) (by omega)) v2 ?_ (Nat.le_refl _) ?_ ?_ ?_ ?_⟩
    · unfold rA zHc
      rw [y1, y2, y3, y4, q6 4 (by decide), q6 5 (by decide), q6 6 (by decide)]
      exact ⟨C, ⟨zMs_k b1 ⟨q6 2 (by decide), q6 3 (by decide)⟩ (fun a h1 h2 => vn a (by omega) (by omega)), zMn_k b2 (q6 0 (by decide)) (q6 1 (by decide)), M.2.2⟩, A.1.2.2.1, b3, b4, b5⟩
    · intro k hk
      have e51 : Y.1 51 = w.1 51 := by rw [yw 51 (by omega) (by omega) (by omega) (by omega), xo 51 (by omega) (by omega) (by omega) (by omega)]
      rw [fw 33 (by omega) (by omega) (by omega) (by omega) (by omega), x33, v51, e51]
      by_cases h : k = 6
      · subst h
        rw [u_eq, u_eq, A.2.2.2.1 6 (by decide)]
      · rw [u_ne h, u_ne h]
        exact A.2.2.2.1 k hk
    · rw [fw 25 (by omega) (by omega) (by omega) (by omega) (by omega), xn 25 (by omega), s25, v50, u_eq]
    · exact zHz_k (fun b h1 h2 => fo b (by omega) (by omega) (by omega) (by omega) (by omega) (by omega) (by omega) (by omega) (by omega)) z1
    · unfold zHz
      rw [y26 _ (by omega) (by omega), y26 _ (by omega) (by omega), y26 _ (by omega) (by omega), y26 _ (by omega) (by omega), d26, show (26 + 1 : Nat) = 27 from rfl, show (26 + 2 : Nat) = 28 from rfl, show (26 + 3 : Nat) = 29 from rfl, d27, d28, d29]
      exact ⟨tT, tV, tG, F0⟩
theorem p_house {x : Int32} (A : zRl w S L n m) : zPr d 5016 6040 [.int x] w S L := by
  rcases ix_c x (by decide : 8 < 1000) with hx | ⟨j, hj, rfl⟩
  · have a := f_shelfAt_o (d := d + 39) (w := w) hx
    have t := f_rowRef_n (d := d + 38) (w := w)
    have f := f_refuse (d := d + 38) (w := w) (c := -1) (j := 1) (by decide) (by decide)
    have hc : cal (d + 40) 5016 [.ref 0, .int x] w = some (some (.int (-1)), fRf w 1) := by
      simp only [c_5016, e_5016_0, e_5016_1, e_5016_2, e_5016_5, e_5016_6, e_5016_7, e_5016_10, e_5016_11, e_5016_12n, e_5016_12r, e_5016_15, e_5016_16, e_5016_19, e_5016_20, e_5016_21, e_5016_24, e_5016_25, e_5016_26, e_5016_29, e_5016_30, e_5016_31, e_5016_34, e_5016_37, e_5016_39, e_5016_41, e_5016_42, e_5016_45, e_5016_46, e_5016_48, e_5016_51, e_5016_52, e_5016_53, e_5016_56, e_5016_57, e_5016_60, e_5016_63, e_5016_66, e_5016_68, zk_int, zk_ref, zk_null, zk_none, zk_long, zisR_r, zisR_n, zcl_int, zcl_ref, zcl_null, zpush_s, zpush_n, zbs, zbn, true_or, or_true, not_false_eq_true, not_true_eq_false, ↓reduceIte, and_self, and_true, true_and, zt_0, a, t, f]
    have q := m_wants_o (d := d + 38) (w := fRf w 1) hx
    have r := m_no (d := d + 39) (w := fRf w 1) (j := 1) (c := -1) (by decide) (by decide)
    have n0 : ((-1 : Int32) = 0) = False := eq_false (by decide)
    refine pr_f A (by decide) hc (zKp_r _) ?_ (zKp_r _)
    simp only [c_6040, e_6040_0, e_6040_1, e_6040_2, e_6040_5, e_6040_6, e_6040_7, e_6040_10, e_6040_11, e_6040_12, e_6040_15, e_6040_16, e_6040_17, e_6040_18, e_6040_21, e_6040_22, e_6040_25, e_6040_26, e_6040_29, e_6040_30, e_6040_31, e_6040_34, e_6040_35, e_6040_36, e_6040_39, e_6040_40, e_6040_41, e_6040_44, e_6040_45, e_6040_46, e_6040_49, e_6040_50, e_6040_51, e_6040_54, e_6040_55, e_6040_56, e_6040_57, e_6040_60, e_6040_64, e_6040_67, e_6040_68, e_6040_71, e_6040_72, e_6040_75, e_6040_78, e_6040_79, e_6040_82, e_6040_83, e_6040_86, e_6040_87, e_6040_90, e_6040_91, e_6040_92, e_6040_93, e_6040_95, e_6040_98, e_6040_99, e_6040_100, e_6040_103, e_6040_106, e_6040_108, e_6040_111, e_6040_112, e_6040_113, e_6040_116, e_6040_117, e_6040_118, e_6040_121, e_6040_124, e_6040_125, e_6040_128, e_6040_130, e_6040_133, e_6040_135, e_6040_138, e_6040_139, e_6040_140, e_6040_141, e_6040_142, e_6040_145, e_6040_146, e_6040_149, e_6040_150, e_6040_151, e_6040_154, e_6040_157, e_6040_158, e_6040_160, e_6040_163, zk_int, zk_ref, zk_null, zk_none, zk_long, zisR_r, zisR_n, zcl_int, zcl_ref, zcl_null, zpush_s, zpush_n, zbs, zbn, true_or, or_true, not_false_eq_true, not_true_eq_false, ↓reduceIte, and_self, and_true, true_and, zt_50, q, r, n0]
  · have a := f_shelfAt (d := d + 39) (w := w) hj
    have th := (zSs_f (zSs_j hj)).1
    have t := f_rowRef (d := d + 38) (w := w) (zSs_j hj)
    have hn8 := rl_n A
    rcases A.2.2.1 j hj with ⟨h1, h2⟩ | ⟨h1, s', z', g1, g2, g3, g4, g5, g6, g7⟩ | ⟨h1, t', g1, g2, g3⟩
    · rw [if_neg (by rw [h2]; decide), if_pos h2] at t
      have f := f_refuse (d := d + 38) (w := w) (c := -3) (j := 3) (by decide) (by decide)
      have n0 : ((-3 : Int32) = 0) = False := eq_false (by decide)
      have hc : cal (d + 40) 5016 [.ref 0, .int (nI j)] w = some (some (.int (-3)), fRf w 3) := by
        simp only [c_5016, e_5016_0, e_5016_1, e_5016_2, e_5016_5, e_5016_6, e_5016_7, e_5016_10, e_5016_11, e_5016_12n, e_5016_12r, e_5016_15, e_5016_16, e_5016_19, e_5016_20, e_5016_21, e_5016_24, e_5016_25, e_5016_26, e_5016_29, e_5016_30, e_5016_31, e_5016_34, e_5016_37, e_5016_39, e_5016_41, e_5016_42, e_5016_45, e_5016_46, e_5016_48, e_5016_51, e_5016_52, e_5016_53, e_5016_56, e_5016_57, e_5016_60, e_5016_63, e_5016_66, e_5016_68, zk_int, zk_ref, zk_null, zk_none, zk_long, zisR_r, zisR_n, zcl_int, zcl_ref, zcl_null, zpush_s, zpush_n, zbs, zbn, true_or, or_true, not_false_eq_true, not_true_eq_false, ↓reduceIte, and_self, and_true, true_and, zt_0, th, a, t, f, n0]
      have q := m_wants_0 (d := d + 38) (w := fRf w 3) hj (by rw [fRf_n (by decide)]; exact h1)
      have r := m_no (d := d + 39) (w := fRf w 3) (j := 3) (c := -3) (by decide) (by decide)
      refine pr_f A (by decide) hc (zKp_r _) ?_ (zKp_r _)
      simp only [c_6040, e_6040_0, e_6040_1, e_6040_2, e_6040_5, e_6040_6, e_6040_7, e_6040_10, e_6040_11, e_6040_12, e_6040_15, e_6040_16, e_6040_17, e_6040_18, e_6040_21, e_6040_22, e_6040_25, e_6040_26, e_6040_29, e_6040_30, e_6040_31, e_6040_34, e_6040_35, e_6040_36, e_6040_39, e_6040_40, e_6040_41, e_6040_44, e_6040_45, e_6040_46, e_6040_49, e_6040_50, e_6040_51, e_6040_54, e_6040_55, e_6040_56, e_6040_57, e_6040_60, e_6040_64, e_6040_67, e_6040_68, e_6040_71, e_6040_72, e_6040_75, e_6040_78, e_6040_79, e_6040_82, e_6040_83, e_6040_86, e_6040_87, e_6040_90, e_6040_91, e_6040_92, e_6040_93, e_6040_95, e_6040_98, e_6040_99, e_6040_100, e_6040_103, e_6040_106, e_6040_108, e_6040_111, e_6040_112, e_6040_113, e_6040_116, e_6040_117, e_6040_118, e_6040_121, e_6040_124, e_6040_125, e_6040_128, e_6040_130, e_6040_133, e_6040_135, e_6040_138, e_6040_139, e_6040_140, e_6040_141, e_6040_142, e_6040_145, e_6040_146, e_6040_149, e_6040_150, e_6040_151, e_6040_154, e_6040_157, e_6040_158, e_6040_160, e_6040_163, zk_int, zk_ref, zk_null, zk_none, zk_long, zisR_r, zisR_n, zcl_int, zcl_ref, zcl_null, zpush_s, zpush_n, zbs, zbn, true_or, or_true, not_false_eq_true, not_true_eq_false, ↓reduceIte, and_self, and_true, true_and, zt_50, q, r, n0]
    · exact p_house_r A hj h1 g1 g2 g4 g5 g6 g7
    · have hne : ¬ w.1 (34 + 2 * j) 1 = -1 := by rw [g3]; exact nI_neN (by omega)
      rw [if_neg (by rw [g3]; exact nI_ge (b := 100) (by omega) (by decide)), if_neg hne] at t
      have f := f_refuse (d := d + 38) (w := w) (c := -2) (j := 2) (by decide) (by decide)
      have n0 : ((-2 : Int32) = 0) = False := eq_false (by decide)
      have hc : cal (d + 40) 5016 [.ref 0, .int (nI j)] w = some (some (.int (-2)), fRf w 2) := by
        simp only [c_5016, e_5016_0, e_5016_1, e_5016_2, e_5016_5, e_5016_6, e_5016_7, e_5016_10, e_5016_11, e_5016_12n, e_5016_12r, e_5016_15, e_5016_16, e_5016_19, e_5016_20, e_5016_21, e_5016_24, e_5016_25, e_5016_26, e_5016_29, e_5016_30, e_5016_31, e_5016_34, e_5016_37, e_5016_39, e_5016_41, e_5016_42, e_5016_45, e_5016_46, e_5016_48, e_5016_51, e_5016_52, e_5016_53, e_5016_56, e_5016_57, e_5016_60, e_5016_63, e_5016_66, e_5016_68, zk_int, zk_ref, zk_null, zk_none, zk_long, zisR_r, zisR_n, zcl_int, zcl_ref, zcl_null, zpush_s, zpush_n, zbs, zbn, true_or, or_true, not_false_eq_true, not_true_eq_false, ↓reduceIte, and_self, and_true, true_and, zt_0, th, a, t, f, n0]
      have q := m_wants_2 (d := d + 38) (w := fRf w 2) hj (by rw [fRf_n (by decide)]; exact h1)
      have r := m_no (d := d + 39) (w := fRf w 2) (j := 2) (c := -2) (by decide) (by decide)
      refine pr_f A (by decide) hc (zKp_r _) ?_ (zKp_r _)
      simp only [c_6040, e_6040_0, e_6040_1, e_6040_2, e_6040_5, e_6040_6, e_6040_7, e_6040_10, e_6040_11, e_6040_12, e_6040_15, e_6040_16, e_6040_17, e_6040_18, e_6040_21, e_6040_22, e_6040_25, e_6040_26, e_6040_29, e_6040_30, e_6040_31, e_6040_34, e_6040_35, e_6040_36, e_6040_39, e_6040_40, e_6040_41, e_6040_44, e_6040_45, e_6040_46, e_6040_49, e_6040_50, e_6040_51, e_6040_54, e_6040_55, e_6040_56, e_6040_57, e_6040_60, e_6040_64, e_6040_67, e_6040_68, e_6040_71, e_6040_72, e_6040_75, e_6040_78, e_6040_79, e_6040_82, e_6040_83, e_6040_86, e_6040_87, e_6040_90, e_6040_91, e_6040_92, e_6040_93, e_6040_95, e_6040_98, e_6040_99, e_6040_100, e_6040_103, e_6040_106, e_6040_108, e_6040_111, e_6040_112, e_6040_113, e_6040_116, e_6040_117, e_6040_118, e_6040_121, e_6040_124, e_6040_125, e_6040_128, e_6040_130, e_6040_133, e_6040_135, e_6040_138, e_6040_139, e_6040_140, e_6040_141, e_6040_142, e_6040_145, e_6040_146, e_6040_149, e_6040_150, e_6040_151, e_6040_154, e_6040_157, e_6040_158, e_6040_160, e_6040_163, zk_int, zk_ref, zk_null, zk_none, zk_long, zisR_r, zisR_n, zcl_int, zcl_ref, zcl_null, zpush_s, zpush_n, zbs, zbn, true_or, or_true, not_false_eq_true, not_true_eq_false, ↓reduceIte, and_self, and_true, true_and, zt_50, q, r, n0]
end QG
