theorem zui_c (w : zM) {a b k : Nat} {f : Nat → Int32} {v : Int32} (h : b ≠ a) : zui (zuA w a f) b k v = zuA (zui w b k v) a f := by
  rw [zui_A, zui_A, zA_n _ _ h, zA_c _ _ _ (fun e => h e.symm)]
def gB (e : Nat → Int32) (m n p : Nat) : Bool := decide (n < 8 ∧ (0 ≤ e p ∧ e p ≤ 6) ∧ (0 ≤ e (p + 4) ∧ ¬ nI m ≤ e (p + 4)) ∧ (1 ≤ e (p + 1) ∧ e (p + 1) ≤ 999) ∧ (1 ≤ e (p + 2) ∧ e (p + 2) ≤ 9) ∧ (0 ≤ e (p + 3) ∧ e (p + 3) ≤ 99))
def tN (e : Nat → Int32) (m : Nat) : Nat → Nat → Nat → Nat
  | 0, _, _ => 0
  | r + 1, p, n => if gB e m n p = true then tN e m r (p + 5) (n + 1) + 1 else 0
def tC (e : Nat → Int32) (m : Nat) : Nat → Nat → Nat → zM → zM
  | 0, _, _, W => W
  | r + 1, p, n, W => if gB e m n p = true then tC e m r (p + 5) (n + 1) (sAdT W 1 n (e p) (e (p + 1)) (e (p + 2)) (e (p + 3)) (e (p + 4))) else W
def tM (e : Nat → Int32) (m : Nat) : Nat → Nat → Nat → zM → zM
  | 0, _, _, W => W
  | r + 1, p, n, W => if gB e m n p = true then tM e m r (p + 5) (n + 1) (mAdT W n (e p) (e (p + 1)) (e (p + 2)) (e (p + 3)) (e (p + 4))) else W
section PX
variable {d n m : Nat} {w w1 w2 X : zM} {S : Nat → Int32} {L : Int32} {T V G e : Nat → Int32}
theorem gB_t {p : Nat} (h : gB e m n p = true) (hm : m ≤ 4) : n < 8 ∧ (0 ≤ e p ∧ e p ≤ 6) ∧ (∃ y, y < m ∧ e (p + 4) = nI y) ∧ sOkT (e (p + 1)) (e (p + 2)) (e (p + 3)) := by
  obtain ⟨h1, h2, h3, h4⟩ := of_decide_eq_true h
  exact ⟨h1, h2, nI_of4 h3.1 h3.2 hm, h4⟩
theorem gB_f {p : Nat} (h : gB e m n p = false) (hm : m ≤ 4) : ¬ n < 8 ∨ ¬ (0 ≤ e p ∧ e p ≤ 6) ∨ (e (p + 4) < 0 ∨ nI m ≤ e (p + 4)) ∨ ¬ sOkT (e (p + 1)) (e (p + 2)) (e (p + 3)) := by
  have h' := of_decide_eq_false h
  by_cases h1 : n < 8
  · by_cases h2 : 0 ≤ e p ∧ e p ≤ 6
    · by_cases h3 : e (p + 4) < 0 ∨ nI m ≤ e (p + 4)
      · exact Or.inr (Or.inr (Or.inl h3))
      · exact Or.inr (Or.inr (Or.inr (fun h4 => h' ⟨h1, h2, ⟨Int32.not_lt.mp (fun x => h3 (Or.inl x)), fun x => h3 (Or.inr x)⟩, h4⟩)))
    · exact Or.inr (Or.inl h2)
  · exact Or.inl h1
theorem mAdT_u {a : Nat} {F : Nat → Int32} {k b p q y : Int32} (ha : a < 50) : mAdT (zuA w a F) n k b p q y = zuA (mAdT w n k b p q y) a F := by
  unfold mAdT
  rw [zui_c _ (by omega), zui_c _ (by omega), zui_c _ (by omega), zui_c _ (by omega), zui_c _ (by omega), zui_c _ (by omega)]
theorem mAdT_sAdT {n2 : Nat} {k b p q y k2 b2 p2 q2 y2 : Int32} : sAdT (mAdT w n k b p q y) 1 n2 k2 b2 p2 q2 y2 = mAdT (sAdT w 1 n2 k2 b2 p2 q2 y2) n k b p q y := by
  unfold sAdT
  rw [mAdT_n (by decide), mAdT_n (by decide), mAdT_u (by decide), mAdT_u (by decide)]
theorem tC_m {n2 : Nat} {k b p2 q y : Int32} : ∀ r p n w, tC e m r p n (mAdT w n2 k b p2 q y) = mAdT (tC e m r p n w) n2 k b p2 q y := by
  intro r
  induction r with
  | zero => intro p n w; rfl
  | succ r ih =>
    intro p n w
    unfold tC
    by_cases h : gB e m n p = true
    · rw [if_pos h, if_pos h, mAdT_sAdT, ih]
    · rw [if_neg h, if_neg h]
theorem tCM_R : ∀ r p n w, zRl w S L n m → ∃ n', zRl (tM e m r p n (tC e m r p n w)) S L n' m := by
  intro r
  induction r with
  | zero => intro p n w A; exact ⟨n, A⟩
  | succ r ih =>
    intro p n w A
    by_cases h : gB e m n p = true
    · obtain ⟨h1, h2, ⟨y, hy, h3⟩, h4⟩ := gB_t h (rl_m A)
      obtain ⟨n', R⟩ := ih (p + 5) (n + 1) _ (zRl_adT A h1 h2 h4 hy)
      refine ⟨n', ?_⟩
      have e1 : tC e m (r + 1) p n w = tC e m r (p + 5) (n + 1) (sAdT w 1 n (e p) (e (p + 1)) (e (p + 2)) (e (p + 3)) (e (p + 4))) := if_pos h
      have e2 : ∀ W, tM e m (r + 1) p n W = tM e m r (p + 5) (n + 1) (mAdT W n (e p) (e (p + 1)) (e (p + 2)) (e (p + 3)) (e (p + 4))) := fun W => if_pos h
      rw [e1, e2, ← tC_m, h3]
      exact R
    · have e1 : tC e m (r + 1) p n w = w := if_neg h
      have e2 : ∀ W, tM e m (r + 1) p n W = W := fun W => if_neg h
      rw [e1, e2]
      exact ⟨n, A⟩
theorem c_addB {p : Nat} (C : zHc w 1 n m) (h : gB e m n p = false) : ∃ c : Int32, c < 0 ∧ cal (d + 4) 1016 [.ref 1, .int (e p), .int (e (p + 1)), .int (e (p + 2)), .int (e (p + 3)), .int (e (p + 4))] w = some (some (.int c), w) := by
  have hm := C.2.2.2.2
  by_cases h2 : 0 ≤ e p ∧ e p ≤ 6
  · rcases ix_c (e (p + 4)) (by omega : m < 1000) with h3 | ⟨y, hy, h3⟩
    · exact ⟨-1, by decide, q_addTable_1w C h3⟩
    · rw [h3]
      by_cases h4 : sOkT (e (p + 1)) (e (p + 2)) (e (p + 3))
      · have h1 : ¬ n < 8 := fun h1 => by
          rcases gB_f h hm with g | g | g | g
          · exact g h1
          · exact g h2
          · rw [h3] at g
            rcases g with g | g
            · exact nI_pos (by omega) g
            · exact absurd g (nI_ge hy (by omega))
          · exact g h4
        exact ⟨-7, by decide, q_addTable_7 C h2 hy h4 h1⟩
      · exact ⟨-6, by decide, q_addTable_6 C h2 hy h4⟩
  · exact ⟨-1, by decide, q_addTable_1k C h2⟩
theorem sAdT_C {k b p a y : Int32} (C : zHc w 1 n m) (hn : n < 8) : zHc (sAdT w 1 n k b p a y) 1 (n + 1) m := by
  unfold zHc
  rw [sAdT_1, u_eq, u_ne (by decide)]
  exact ⟨C.1, rfl, by omega, C.2.2.2.1, C.2.2.2.2⟩
theorem sAdT_X {h z : Nat} {k b p a y : Int32} (E : rTx w h z e) : rTx (sAdT w 1 n k b p a y) h z e := rTx_u (rTx_u E (by decide)) (by decide)
theorem nI_a (p : Nat) : nI p + 0 = nI p ∧ nI p + 2 = nI (p + 2) ∧ nI p + 3 = nI (p + 3) ∧ nI p + 4 = nI (p + 4) ∧ nI p + 5 = nI (p + 5) :=
  ⟨nI_add p 0, nI_add p 2, nI_add p 3, nI_add p 4, nI_add p 5⟩
theorem c_tb_l {j z i0 N : Nat} (hj : j < 8) (hz : z ≤ 160) (hN : i0 + N ≤ z) : ∀ r p n c W o9 o10 o11, p + 5 * r = i0 + N → zHc W 1 n m → rTx W (34 + 2 * j) z e → den (d + 40) 5010 81 [some (.ref 0), some (.int (nI j)), some (.int (nI i0)), some (.int (nI N)), some (.ref (34 + 2 * j)), some (.int 0), some (.int (nI c)), some (.int 1), some (.int (nI p)), o9, o10, o11] [] W = some (some (.int (nI (c + tN e m r p n))), tC e m r p n W) := by
  have th := (zSs_f (zSs_j hj)).1
  intro r
  induction r with
  | zero =>
    intro p n c W o9 o10 o11 hp C E
    have e0 : p = i0 + N := by omega
    subst e0
    have g1 := nI_le_n (Nat.le_refl (i0 + N)) (by omega)
    rw [e_5010_81]
    simp only [e_5010_83, e_5010_84, e_5010_85, e_5010_86, e_5010_189, e_5010_191, zk_int, zk_ref, zk_null, zk_none, zk_long, zisR_r, zisR_n, zcl_int, zcl_ref, zcl_null, zpush_s, zpush_n, zbs, zbn, true_or, or_true, not_false_eq_true, not_true_eq_false, ↓reduceIte, and_self, and_true, true_and, nI_add, g1]
    rfl
  | succ r ih =>
    intro p n c W o9 o10 o11 hp C E
    have g1 := nI_ge_f (a := p) (b := i0 + N) (by omega) (by omega)
    obtain ⟨a0, a2, a3, a4, a5⟩ := nI_a p
    have r0 := r_int (d := d + 38) (p := p) E (by omega)
    have r1 := r_int (d := d + 38) (p := p + 1) E (by omega)
    have r2 := r_int (d := d + 38) (p := p + 2) E (by omega)
    have r3 := r_int (d := d + 38) (p := p + 3) E (by omega)
    have r4 := r_int (d := d + 38) (p := p + 4) E (by omega)
    have hr : (([.int (e (p + 3)), .int (e (p + 2)), .int (e (p + 1)), .int (e p), .ref 1] : List Value).map fun v => v.category).sum ≤ 8 := Nat.le_of_ble_eq_true rfl
    by_cases h : gB e m n p = true
    · obtain ⟨h1, h2, ⟨y, hy, h3⟩, h4⟩ := gB_t h C.2.2.2.2
      have q := q_addTable (d := d + 35) C h2 hy h4 h1
      rw [← h3] at q
      have e1 : tC e m (r + 1) p n W = tC e m r (p + 5) (n + 1) (sAdT W 1 n (e p) (e (p + 1)) (e (p + 2)) (e (p + 3)) (e (p + 4))) := if_pos h
      have e2 : tN e m (r + 1) p n = tN e m r (p + 5) (n + 1) + 1 := if_pos h
      have nn := nI_lt0 (a := n) (by omega)
      have k := ih (p + 5) (n + 1) (c + 1) (sAdT W 1 n (e p) (e (p + 1)) (e (p + 2)) (e (p + 3)) (e (p + 4))) (some (.int (e (p + 1)))) (some (.int (e (p + 2)))) (some (.int (e (p + 3)))) (by omega) (sAdT_C C h1) (sAdT_X E)
      have e3 : c + 1 + tN e m r (p + 5) (n + 1) = c + (tN e m r (p + 5) (n + 1) + 1) := by omega
      rw [e3] at k
      rw [e1, e2, ← k, e_5010_81]
      simp only [c_5010, e_5010_0, e_5010_1, e_5010_2, e_5010_5, e_5010_7, e_5010_9, e_5010_12, e_5010_14, e_5010_16n, e_5010_16r, e_5010_19, e_5010_21, e_5010_24, e_5010_25, e_5010_27, e_5010_30, e_5010_31, e_5010_32, e_5010_35, e_5010_36, e_5010_38, e_5010_41, e_5010_42, e_5010_44, e_5010_45, e_5010_46, e_5010_49, e_5010_52, e_5010_53, e_5010_55, e_5010_58, e_5010_59, e_5010_60, e_5010_61, e_5010_62, e_5010_65, e_5010_66, e_5010_68, e_5010_71, e_5010_72, e_5010_73, e_5010_75, e_5010_76, e_5010_78, e_5010_79, e_5010_83, e_5010_84, e_5010_85, e_5010_86, e_5010_89, e_5010_91, e_5010_94, e_5010_96, e_5010_98, e_5010_99, e_5010_100, e_5010_103, e_5010_105, e_5010_107, e_5010_109, e_5010_110, e_5010_111, e_5010_114, e_5010_116, e_5010_118, e_5010_120, e_5010_121, e_5010_122, e_5010_125, e_5010_127, e_5010_128, e_5010_131, e_5010_133, e_5010_135, e_5010_136, e_5010_137, e_5010_140, e_5010_142, e_5010_144, e_5010_146, e_5010_148, e_5010_150, e_5010_151, e_5010_152, e_5010_155, e_5010_158, e_5010_161, e_5010_162, e_5010_165, e_5010_166, e_5010_168, e_5010_170, e_5010_172, e_5010_175, e_5010_176, e_5010_179, e_5010_180, e_5010_181, e_5010_183, e_5010_186, e_5010_189, e_5010_191, zk_int, zk_ref, zk_null, zk_none, zk_long, zisR_r, zisR_n, zcl_int, zcl_ref, zcl_null, zpush_s, zpush_n, zbs, zbn, true_or, or_true, not_false_eq_true, not_true_eq_false, ↓reduceIte, and_self, and_true, true_and, ie_0_1, ie_0_2, ie_0_3, ie_0_4, ie_0_5, ie_0_6, ie_0_7, ie_1_0, ie_1_2, ie_1_3, ie_1_4, ie_1_5, ie_1_6, ie_1_7, ie_2_0, ie_2_1, ie_2_3, ie_2_4, ie_2_5, ie_2_6, ie_2_7, ie_3_0, ie_3_1, ie_3_2, ie_3_4, ie_3_5, ie_3_6, ie_3_7, ie_4_0, ie_4_1, ie_4_2, ie_4_3, ie_4_5, ie_4_6, ie_4_7, ie_5_0, ie_5_1, ie_5_2, ie_5_3, ie_5_4, ie_5_6, ie_5_7, ie_6_0, ie_6_1, ie_6_2, ie_6_3, ie_6_4, ie_6_5, ie_6_7, ie_7_0, ie_7_1, ie_7_2, ie_7_3, ie_7_4, ie_7_5, ie_7_6, zt_0, zr_0_0, zt_1, th, nI_add, g1, nI_1, a0, a2, a3, a4, a5, r0, r1, r2, r3, r4, hr, q, nn]
    · have h' : gB e m n p = false := by cases hg : gB e m n p with
        | true => exact absurd hg h
        | false => rfl
      obtain ⟨cc, hcc, q⟩ := c_addB (d := d + 35) C h'
      have e1 : tC e m (r + 1) p n W = W := if_neg h
      have e2 : tN e m (r + 1) p n = 0 := if_neg h
      rw [e1, e2, Nat.add_zero]
      have step : den (d + 40) 5010 81 [some (.ref 0), some (.int (nI j)), some (.int (nI i0)), some (.int (nI N)), some (.ref (34 + 2 * j)), some (.int 0), some (.int (nI c)), some (.int 1), some (.int (nI p)), o9, o10, o11] [] W = den (d + 40) 5010 81 [some (.ref 0), some (.int (nI j)), some (.int (nI i0)), some (.int (nI N)), some (.ref (34 + 2 * j)), some (.int 0), some (.int (nI c)), some (.int 0), some (.int (nI (p + 5))), some (.int (e (p + 1))), some (.int (e (p + 2))), some (.int (e (p + 3)))] [] W := by
        obtain ⟨c0, -⟩ := nI_a c
        rw [e_5010_81]
        simp only [c_5010, e_5010_0, e_5010_1, e_5010_2, e_5010_5, e_5010_7, e_5010_9, e_5010_12, e_5010_14, e_5010_16n, e_5010_16r, e_5010_19, e_5010_21, e_5010_24, e_5010_25, e_5010_27, e_5010_30, e_5010_31, e_5010_32, e_5010_35, e_5010_36, e_5010_38, e_5010_41, e_5010_42, e_5010_44, e_5010_45, e_5010_46, e_5010_49, e_5010_52, e_5010_53, e_5010_55, e_5010_58, e_5010_59, e_5010_60, e_5010_61, e_5010_62, e_5010_65, e_5010_66, e_5010_68, e_5010_71, e_5010_72, e_5010_73, e_5010_75, e_5010_76, e_5010_78, e_5010_79, e_5010_83, e_5010_84, e_5010_85, e_5010_86, e_5010_89, e_5010_91, e_5010_94, e_5010_96, e_5010_98, e_5010_99, e_5010_100, e_5010_103, e_5010_105, e_5010_107, e_5010_109, e_5010_110, e_5010_111, e_5010_114, e_5010_116, e_5010_118, e_5010_120, e_5010_121, e_5010_122, e_5010_125, e_5010_127, e_5010_128, e_5010_131, e_5010_133, e_5010_135, e_5010_136, e_5010_137, e_5010_140, e_5010_142, e_5010_144, e_5010_146, e_5010_148, e_5010_150, e_5010_151, e_5010_152, e_5010_155, e_5010_158, e_5010_161, e_5010_162, e_5010_165, e_5010_166, e_5010_168, e_5010_170, e_5010_172, e_5010_175, e_5010_176, e_5010_179, e_5010_180, e_5010_181, e_5010_183, e_5010_186, e_5010_189, e_5010_191, zk_int, zk_ref, zk_null, zk_none, zk_long, zisR_r, zisR_n, zcl_int, zcl_ref, zcl_null, zpush_s, zpush_n, zbs, zbn, true_or, or_true, not_false_eq_true, not_true_eq_false, ↓reduceIte, and_self, and_true, true_and, ie_0_1, ie_0_2, ie_0_3, ie_0_4, ie_0_5, ie_0_6, ie_0_7, ie_1_0, ie_1_2, ie_1_3, ie_1_4, ie_1_5, ie_1_6, ie_1_7, ie_2_0, ie_2_1, ie_2_3, ie_2_4, ie_2_5, ie_2_6, ie_2_7, ie_3_0, ie_3_1, ie_3_2, ie_3_4, ie_3_5, ie_3_6, ie_3_7, ie_4_0, ie_4_1, ie_4_2, ie_4_3, ie_4_5, ie_4_6, ie_4_7, ie_5_0, ie_5_1, ie_5_2, ie_5_3, ie_5_4, ie_5_6, ie_5_7, ie_6_0, ie_6_1, ie_6_2, ie_6_3, ie_6_4, ie_6_5, ie_6_7, ie_7_0, ie_7_1, ie_7_2, ie_7_3, ie_7_4, ie_7_5, ie_7_6, zt_0, zr_0_0, zt_1, th, nI_add, g1, nI_1, a0, a2, a3, a4, a5, r0, r1, r2, r3, r4, hr, q, hcc, c0]
      rw [step, e_5010_81]
      by_cases g2 : nI (i0 + N) ≤ nI (p + 5)
      · simp only [e_5010_83, e_5010_84, e_5010_85, e_5010_86, e_5010_89, e_5010_91, e_5010_189, e_5010_191, zk_int, zk_ref, zk_null, zk_none, zk_long, zisR_r, zisR_n, zcl_int, zcl_ref, zcl_null, zpush_s, zpush_n, zbs, zbn, true_or, or_true, not_false_eq_true, not_true_eq_false, ↓reduceIte, and_self, and_true, true_and, nI_add, g2, Nat.add_zero]
      · simp only [e_5010_83, e_5010_84, e_5010_85, e_5010_86, e_5010_89, e_5010_91, e_5010_189, e_5010_191, zk_int, zk_ref, zk_null, zk_none, zk_long, zisR_r, zisR_n, zcl_int, zcl_ref, zcl_null, zpush_s, zpush_n, zbs, zbn, true_or, or_true, not_false_eq_true, not_true_eq_false, ↓reduceIte, and_self, and_true, true_and, nI_add, g2, Nat.add_zero]
theorem m_tb_l {j z i0 N : Nat} (hj : j < 8) (hz : z ≤ 160) (hN : i0 + N ≤ z) (hm : m ≤ 4) : ∀ r p n c X o7 o8, p + 5 * r = i0 + N → n ≤ 8 → X.1 50 0 = nI n → X.1 50 1 = nI m → (∀ i, i < z → (X.2 68 (160 * j + i)).toInt32 = e i) → den (d + 40) 6022 72 [some (.ref 50), some (.int (nI j)), some (.int (nI i0)), some (.int (nI N)), some (.int 0), some (.int (nI c)), some (.int (nI p)), o7, o8] [] X = some (some (.int (nI (c + tN e m r p n))), tM e m r p n X) := by
  intro r
  induction r with
  | zero =>
    intro p n c X o7 o8 hp hn x0 x1 hL
    have e0 : p = i0 + N := by omega
    subst e0
    have g1 := nI_le_n (Nat.le_refl (i0 + N)) (by omega)
    rw [e_6022_72]
    simp only [e_6022_74, e_6022_75, e_6022_76, e_6022_77, e_6022_212, e_6022_214, zk_int, zk_ref, zk_null, zk_none, zk_long, zisR_r, zisR_n, zcl_int, zcl_ref, zcl_null, zpush_s, zpush_n, zbs, zbn, true_or, or_true, not_false_eq_true, not_true_eq_false, ↓reduceIte, and_self, and_true, true_and, nI_add, g1]
    rfl
  | succ r ih =>
    intro p n c X o7 o8 hp hn x0 x1 hL
    have g1 := nI_ge_f (a := p) (b := i0 + N) (by omega) (by omega)
    obtain ⟨a0, a2, a3, a4, a5⟩ := nI_a p
    have r0 := m_intAt (d := d + 39) (w := X) (i := p) hj (by omega)
    have r1 := m_intAt (d := d + 39) (w := X) (i := p + 1) hj (by omega)
    have r2 := m_intAt (d := d + 39) (w := X) (i := p + 2) hj (by omega)
    have r3 := m_intAt (d := d + 39) (w := X) (i := p + 3) hj (by omega)
    have r4 := m_intAt (d := d + 39) (w := X) (i := p + 4) hj (by omega)
    rw [hL _ (by omega)] at r0 r1 r2 r3 r4
    have Mn : zMn X n m := ⟨x0, x1, hn, hm⟩
    by_cases h : gB e m n p = true
    · obtain ⟨h1, h2, ⟨y, hy, h3⟩, h4⟩ := gB_t h hm
      have e1 : tM e m (r + 1) p n X = tM e m r (p + 5) (n + 1) (mAdT X n (e p) (e (p + 1)) (e (p + 2)) (e (p + 3)) (e (p + 4))) := if_pos h
      have e2 : tN e m (r + 1) p n = tN e m r (p + 5) (n + 1) + 1 := if_pos h
      have k1 := Int32.not_lt.mpr h2.1
      have k2 := Int32.not_lt.mpr h2.2
      have q1 := m_isWaiter (d := d + 39) Mn hy
      rw [← h3] at q1
      have q2 := m_isSo (d := d + 39) (w := X) h4
      have q3 := m_adds (d := d + 39) (w := X) (k := e p) (b := e (p + 1)) (p := e (p + 2)) (a := e (p + 3)) (y := e (p + 4)) x0 h1
      have g4 : (nI n = 8) = False := eq_false (fun h => by have := (nI_eq (a := n) (b := 8) (by omega) (by omega)).mp h; omega)
      have k := ih (p + 5) (n + 1) (c + 1) (mAdT X n (e p) (e (p + 1)) (e (p + 2)) (e (p + 3)) (e (p + 4))) (some (.int (e p))) (some (.int (e (p + 4)))) (by omega) (by omega) (by rw [mAdT_50, u_eq]) (by rw [mAdT_50, u_ne (by decide)]; exact x1) hL
      have e3 : c + 1 + tN e m r (p + 5) (n + 1) = c + (tN e m r (p + 5) (n + 1) + 1) := by omega
      rw [e3] at k
      rw [e1, e2, ← k, e_6022_72]
      simp only [c_6022, e_6022_0, e_6022_1, e_6022_2, e_6022_5, e_6022_7, e_6022_9, e_6022_12, e_6022_13, e_6022_15, e_6022_18, e_6022_19, e_6022_20, e_6022_23, e_6022_24, e_6022_26, e_6022_29, e_6022_30, e_6022_31, e_6022_34, e_6022_35, e_6022_36, e_6022_39, e_6022_40, e_6022_41, e_6022_42, e_6022_43, e_6022_46, e_6022_47, e_6022_49, e_6022_52, e_6022_53, e_6022_54, e_6022_55, e_6022_56, e_6022_59, e_6022_60, e_6022_62, e_6022_65, e_6022_66, e_6022_67, e_6022_69, e_6022_70, e_6022_74, e_6022_75, e_6022_76, e_6022_77, e_6022_80, e_6022_81, e_6022_82, e_6022_84, e_6022_87, e_6022_89, e_6022_90, e_6022_91, e_6022_93, e_6022_94, e_6022_95, e_6022_98, e_6022_100, e_6022_101, e_6022_104, e_6022_106, e_6022_109, e_6022_111, e_6022_114, e_6022_116, e_6022_118, e_6022_121, e_6022_122, e_6022_124, e_6022_127, e_6022_130, e_6022_131, e_6022_132, e_6022_133, e_6022_135, e_6022_136, e_6022_137, e_6022_140, e_6022_141, e_6022_142, e_6022_144, e_6022_145, e_6022_146, e_6022_149, e_6022_150, e_6022_151, e_6022_153, e_6022_154, e_6022_155, e_6022_158, e_6022_161, e_6022_164, e_6022_166, e_6022_167, e_6022_168, e_6022_170, e_6022_171, e_6022_172, e_6022_174, e_6022_175, e_6022_176, e_6022_179, e_6022_180, e_6022_181, e_6022_183, e_6022_184, e_6022_185, e_6022_188, e_6022_189, e_6022_190, e_6022_192, e_6022_193, e_6022_194, e_6022_197, e_6022_199, e_6022_202, e_6022_203, e_6022_206, e_6022_209, e_6022_212, e_6022_214, zk_int, zk_ref, zk_null, zk_none, zk_long, zisR_r, zisR_n, zcl_int, zcl_ref, zcl_null, zpush_s, zpush_n, zbs, zbn, true_or, or_true, not_false_eq_true, not_true_eq_false, ↓reduceIte, and_self, and_true, true_and, ie_0_1, ie_0_2, ie_0_3, ie_0_4, ie_0_5, ie_0_6, ie_0_7, ie_1_0, ie_1_2, ie_1_3, ie_1_4, ie_1_5, ie_1_6, ie_1_7, ie_2_0, ie_2_1, ie_2_3, ie_2_4, ie_2_5, ie_2_6, ie_2_7, ie_3_0, ie_3_1, ie_3_2, ie_3_4, ie_3_5, ie_3_6, ie_3_7, ie_4_0, ie_4_1, ie_4_2, ie_4_3, ie_4_5, ie_4_6, ie_4_7, ie_5_0, ie_5_1, ie_5_2, ie_5_3, ie_5_4, ie_5_6, ie_5_7, ie_6_0, ie_6_1, ie_6_2, ie_6_3, ie_6_4, ie_6_5, ie_6_7, ie_7_0, ie_7_1, ie_7_2, ie_7_3, ie_7_4, ie_7_5, ie_7_6, zt_50, nI_add, g1, nI_1, a0, a2, a3, a4, a5, r0, r1, r2, r3, r4, x0, k1, k2, q1, q2, q3, g4]
    · have h' : gB e m n p = false := by cases hg : gB e m n p with
        | true => exact absurd hg h
        | false => rfl
      have e1 : tM e m (r + 1) p n X = X := if_neg h
      have e2 : tN e m (r + 1) p n = 0 := if_neg h
      rw [e1, e2, Nat.add_zero, e_6022_72]
      by_cases h1 : n < 8
      · have g4 : (nI n = 8) = False := eq_false (fun h => by have := (nI_eq (a := n) (b := 8) (by omega) (by omega)).mp h; omega)
        by_cases k1 : e p < 0
        · simp only [c_6022, e_6022_0, e_6022_1, e_6022_2, e_6022_5, e_6022_7, e_6022_9, e_6022_12, e_6022_13, e_6022_15, e_6022_18, e_6022_19, e_6022_20, e_6022_23, e_6022_24, e_6022_26, e_6022_29, e_6022_30, e_6022_31, e_6022_34, e_6022_35, e_6022_36, e_6022_39, e_6022_40, e_6022_41, e_6022_42, e_6022_43, e_6022_46, e_6022_47, e_6022_49, e_6022_52, e_6022_53, e_6022_54, e_6022_55, e_6022_56, e_6022_59, e_6022_60, e_6022_62, e_6022_65, e_6022_66, e_6022_67, e_6022_69, e_6022_70, e_6022_74, e_6022_75, e_6022_76, e_6022_77, e_6022_80, e_6022_81, e_6022_82, e_6022_84, e_6022_87, e_6022_89, e_6022_90, e_6022_91, e_6022_93, e_6022_94, e_6022_95, e_6022_98, e_6022_100, e_6022_101, e_6022_104, e_6022_106, e_6022_109, e_6022_111, e_6022_114, e_6022_116, e_6022_118, e_6022_121, e_6022_122, e_6022_124, e_6022_127, e_6022_130, e_6022_131, e_6022_132, e_6022_133, e_6022_135, e_6022_136, e_6022_137, e_6022_140, e_6022_141, e_6022_142, e_6022_144, e_6022_145, e_6022_146, e_6022_149, e_6022_150, e_6022_151, e_6022_153, e_6022_154, e_6022_155, e_6022_158, e_6022_161, e_6022_164, e_6022_166, e_6022_167, e_6022_168, e_6022_170, e_6022_171, e_6022_172, e_6022_174, e_6022_175, e_6022_176, e_6022_179, e_6022_180, e_6022_181, e_6022_183, e_6022_184, e_6022_185, e_6022_188, e_6022_189, e_6022_190, e_6022_192, e_6022_193, e_6022_194, e_6022_197, e_6022_199, e_6022_202, e_6022_203, e_6022_206, e_6022_209, e_6022_212, e_6022_214, zk_int, zk_ref, zk_null, zk_none, zk_long, zisR_r, zisR_n, zcl_int, zcl_ref, zcl_null, zpush_s, zpush_n, zbs, zbn, true_or, or_true, not_false_eq_true, not_true_eq_false, ↓reduceIte, and_self, and_true, true_and, ie_0_1, ie_0_2, ie_0_3, ie_0_4, ie_0_5, ie_0_6, ie_0_7, ie_1_0, ie_1_2, ie_1_3, ie_1_4, ie_1_5, ie_1_6, ie_1_7, ie_2_0, ie_2_1, ie_2_3, ie_2_4, ie_2_5, ie_2_6, ie_2_7, ie_3_0, ie_3_1, ie_3_2, ie_3_4, ie_3_5, ie_3_6, ie_3_7, ie_4_0, ie_4_1, ie_4_2, ie_4_3, ie_4_5, ie_4_6, ie_4_7, ie_5_0, ie_5_1, ie_5_2, ie_5_3, ie_5_4, ie_5_6, ie_5_7, ie_6_0, ie_6_1, ie_6_2, ie_6_3, ie_6_4, ie_6_5, ie_6_7, ie_7_0, ie_7_1, ie_7_2, ie_7_3, ie_7_4, ie_7_5, ie_7_6, zt_50, nI_add, g1, nI_1, a0, a2, a3, a4, a5, r0, r1, r2, r3, r4, x0, g4, k1, Nat.add_zero]
        · by_cases k2' : e p ≤ 6
          · have k2 := Int32.not_lt.mpr k2'
            rcases ix_c (e (p + 4)) (by omega : m < 1000) with h3 | ⟨y, hy, h3⟩
            · have q1 := m_isWaiter_o (d := d + 39) Mn h3
              simp only [c_6022, e_6022_0, e_6022_1, e_6022_2, e_6022_5, e_6022_7, e_6022_9, e_6022_12, e_6022_13, e_6022_15, e_6022_18, e_6022_19, e_6022_20, e_6022_23, e_6022_24, e_6022_26, e_6022_29, e_6022_30, e_6022_31, e_6022_34, e_6022_35, e_6022_36, e_6022_39, e_6022_40, e_6022_41, e_6022_42, e_6022_43, e_6022_46, e_6022_47, e_6022_49, e_6022_52, e_6022_53, e_6022_54, e_6022_55, e_6022_56, e_6022_59, e_6022_60, e_6022_62, e_6022_65, e_6022_66, e_6022_67, e_6022_69, e_6022_70, e_6022_74, e_6022_75, e_6022_76, e_6022_77, e_6022_80, e_6022_81, e_6022_82, e_6022_84, e_6022_87, e_6022_89, e_6022_90, e_6022_91, e_6022_93, e_6022_94, e_6022_95, e_6022_98, e_6022_100, e_6022_101, e_6022_104, e_6022_106, e_6022_109, e_6022_111, e_6022_114, e_6022_116, e_6022_118, e_6022_121, e_6022_122, e_6022_124, e_6022_127, e_6022_130, e_6022_131, e_6022_132, e_6022_133, e_6022_135, e_6022_136, e_6022_137, e_6022_140, e_6022_141, e_6022_142, e_6022_144, e_6022_145, e_6022_146, e_6022_149, e_6022_150, e_6022_151, e_6022_153, e_6022_154, e_6022_155, e_6022_158, e_6022_161, e_6022_164, e_6022_166, e_6022_167, e_6022_168, e_6022_170, e_6022_171, e_6022_172, e_6022_174, e_6022_175, e_6022_176, e_6022_179, e_6022_180, e_6022_181, e_6022_183, e_6022_184, e_6022_185, e_6022_188, e_6022_189, e_6022_190, e_6022_192, e_6022_193, e_6022_194, e_6022_197, e_6022_199, e_6022_202, e_6022_203, e_6022_206, e_6022_209, e_6022_212, e_6022_214, zk_int, zk_ref, zk_null, zk_none, zk_long, zisR_r, zisR_n, zcl_int, zcl_ref, zcl_null, zpush_s, zpush_n, zbs, zbn, true_or, or_true, not_false_eq_true, not_true_eq_false, ↓reduceIte, and_self, and_true, true_and, ie_0_1, ie_0_2, ie_0_3, ie_0_4, ie_0_5, ie_0_6, ie_0_7, ie_1_0, ie_1_2, ie_1_3, ie_1_4, ie_1_5, ie_1_6, ie_1_7, ie_2_0, ie_2_1, ie_2_3, ie_2_4, ie_2_5, ie_2_6, ie_2_7, ie_3_0, ie_3_1, ie_3_2, ie_3_4, ie_3_5, ie_3_6, ie_3_7, ie_4_0, ie_4_1, ie_4_2, ie_4_3, ie_4_5, ie_4_6, ie_4_7, ie_5_0, ie_5_1, ie_5_2, ie_5_3, ie_5_4, ie_5_6, ie_5_7, ie_6_0, ie_6_1, ie_6_2, ie_6_3, ie_6_4, ie_6_5, ie_6_7, ie_7_0, ie_7_1, ie_7_2, ie_7_3, ie_7_4, ie_7_5, ie_7_6, zt_50, nI_add, g1, nI_1, a0, a2, a3, a4, a5, r0, r1, r2, r3, r4, x0, g4, k1, k2, q1, Nat.add_zero]
            · have q1 := m_isWaiter (d := d + 39) Mn hy
              rw [← h3] at q1
              have h4 : ¬ sOkT (e (p + 1)) (e (p + 2)) (e (p + 3)) := fun h4 => by
                rcases gB_f h' hm with g | g | g | g
                · exact g h1
                · exact g ⟨Int32.not_lt.mp k1, k2'⟩
                · rw [h3] at g
                  rcases g with g | g
                  · exact nI_pos (by omega) g
                  · exact absurd g (nI_ge hy (by omega))
                · exact g h4
              have q2 := m_isSo_o (d := d + 39) (w := X) h4
              simp only [c_6022, e_6022_0, e_6022_1, e_6022_2, e_6022_5, e_6022_7, e_6022_9, e_6022_12, e_6022_13, e_6022_15, e_6022_18, e_6022_19, e_6022_20, e_6022_23, e_6022_24, e_6022_26, e_6022_29, e_6022_30, e_6022_31, e_6022_34, e_6022_35, e_6022_36, e_6022_39, e_6022_40, e_6022_41, e_6022_42, e_6022_43, e_6022_46, e_6022_47, e_6022_49, e_6022_52, e_6022_53, e_6022_54, e_6022_55, e_6022_56, e_6022_59, e_6022_60, e_6022_62, e_6022_65, e_6022_66, e_6022_67, e_6022_69, e_6022_70, e_6022_74, e_6022_75, e_6022_76, e_6022_77, e_6022_80, e_6022_81, e_6022_82, e_6022_84, e_6022_87, e_6022_89, e_6022_90, e_6022_91, e_6022_93, e_6022_94, e_6022_95, e_6022_98, e_6022_100, e_6022_101, e_6022_104, e_6022_106, e_6022_109, e_6022_111, e_6022_114, e_6022_116, e_6022_118, e_6022_121, e_6022_122, e_6022_124, e_6022_127, e_6022_130, e_6022_131, e_6022_132, e_6022_133, e_6022_135, e_6022_136, e_6022_137, e_6022_140, e_6022_141, e_6022_142, e_6022_144, e_6022_145, e_6022_146, e_6022_149, e_6022_150, e_6022_151, e_6022_153, e_6022_154, e_6022_155, e_6022_158, e_6022_161, e_6022_164, e_6022_166, e_6022_167, e_6022_168, e_6022_170, e_6022_171, e_6022_172, e_6022_174, e_6022_175, e_6022_176, e_6022_179, e_6022_180, e_6022_181, e_6022_183, e_6022_184, e_6022_185, e_6022_188, e_6022_189, e_6022_190, e_6022_192, e_6022_193, e_6022_194, e_6022_197, e_6022_199, e_6022_202, e_6022_203, e_6022_206, e_6022_209, e_6022_212, e_6022_214, zk_int, zk_ref, zk_null, zk_none, zk_long, zisR_r, zisR_n, zcl_int, zcl_ref, zcl_null, zpush_s, zpush_n, zbs, zbn, true_or, or_true, not_false_eq_true, not_true_eq_false, ↓reduceIte, and_self, and_true, true_and, ie_0_1, ie_0_2, ie_0_3, ie_0_4, ie_0_5, ie_0_6, ie_0_7, ie_1_0, ie_1_2, ie_1_3, ie_1_4, ie_1_5, ie_1_6, ie_1_7, ie_2_0, ie_2_1, ie_2_3, ie_2_4, ie_2_5, ie_2_6, ie_2_7, ie_3_0, ie_3_1, ie_3_2, ie_3_4, ie_3_5, ie_3_6, ie_3_7, ie_4_0, ie_4_1, ie_4_2, ie_4_3, ie_4_5, ie_4_6, ie_4_7, ie_5_0, ie_5_1, ie_5_2, ie_5_3, ie_5_4, ie_5_6, ie_5_7, ie_6_0, ie_6_1, ie_6_2, ie_6_3, ie_6_4, ie_6_5, ie_6_7, ie_7_0, ie_7_1, ie_7_2, ie_7_3, ie_7_4, ie_7_5, ie_7_6, zt_50, nI_add, g1, nI_1, a0, a2, a3, a4, a5, r0, r1, r2, r3, r4, x0, g4, k1, k2, q1, q2, Nat.add_zero]
          · have k2 := Int32.not_le.mp k2'
            simp only [c_6022, e_6022_0, e_6022_1, e_6022_2, e_6022_5, e_6022_7, e_6022_9, e_6022_12, e_6022_13, e_6022_15, e_6022_18, e_6022_19, e_6022_20, e_6022_23, e_6022_24, e_6022_26, e_6022_29, e_6022_30, e_6022_31, e_6022_34, e_6022_35, e_6022_36, e_6022_39, e_6022_40, e_6022_41, e_6022_42, e_6022_43, e_6022_46, e_6022_47, e_6022_49, e_6022_52, e_6022_53, e_6022_54, e_6022_55, e_6022_56, e_6022_59, e_6022_60, e_6022_62, e_6022_65, e_6022_66, e_6022_67, e_6022_69, e_6022_70, e_6022_74, e_6022_75, e_6022_76, e_6022_77, e_6022_80, e_6022_81, e_6022_82, e_6022_84, e_6022_87, e_6022_89, e_6022_90, e_6022_91, e_6022_93, e_6022_94, e_6022_95, e_6022_98, e_6022_100, e_6022_101, e_6022_104, e_6022_106, e_6022_109, e_6022_111, e_6022_114, e_6022_116, e_6022_118, e_6022_121, e_6022_122, e_6022_124, e_6022_127, e_6022_130, e_6022_131, e_6022_132, e_6022_133, e_6022_135, e_6022_136, e_6022_137, e_6022_140, e_6022_141, e_6022_142, e_6022_144, e_6022_145, e_6022_146, e_6022_149, e_6022_150, e_6022_151, e_6022_153, e_6022_154, e_6022_155, e_6022_158, e_6022_161, e_6022_164, e_6022_166, e_6022_167, e_6022_168, e_6022_170, e_6022_171, e_6022_172, e_6022_174, e_6022_175, e_6022_176, e_6022_179, e_6022_180, e_6022_181, e_6022_183, e_6022_184, e_6022_185, e_6022_188, e_6022_189, e_6022_190, e_6022_192, e_6022_193, e_6022_194, e_6022_197, e_6022_199, e_6022_202, e_6022_203, e_6022_206, e_6022_209, e_6022_212, e_6022_214, zk_int, zk_ref, zk_null, zk_none, zk_long, zisR_r, zisR_n, zcl_int, zcl_ref, zcl_null, zpush_s, zpush_n, zbs, zbn, true_or, or_true, not_false_eq_true, not_true_eq_false, ↓reduceIte, and_self, and_true, true_and, ie_0_1, ie_0_2, ie_0_3, ie_0_4, ie_0_5, ie_0_6, ie_0_7, ie_1_0, ie_1_2, ie_1_3, ie_1_4, ie_1_5, ie_1_6, ie_1_7, ie_2_0, ie_2_1, ie_2_3, ie_2_4, ie_2_5, ie_2_6, ie_2_7, ie_3_0, ie_3_1, ie_3_2, ie_3_4, ie_3_5, ie_3_6, ie_3_7, ie_4_0, ie_4_1, ie_4_2, ie_4_3, ie_4_5, ie_4_6, ie_4_7, ie_5_0, ie_5_1, ie_5_2, ie_5_3, ie_5_4, ie_5_6, ie_5_7, ie_6_0, ie_6_1, ie_6_2, ie_6_3, ie_6_4, ie_6_5, ie_6_7, ie_7_0, ie_7_1, ie_7_2, ie_7_3, ie_7_4, ie_7_5, ie_7_6, zt_50, nI_add, g1, nI_1, a0, a2, a3, a4, a5, r0, r1, r2, r3, r4, x0, g4, k1, k2, Nat.add_zero]
      · have e8 : n = 8 := by omega
        subst e8
        have g4 : (nI 8 = 8) = True := eq_true rfl
        simp only [c_6022, e_6022_0, e_6022_1, e_6022_2, e_6022_5, e_6022_7, e_6022_9, e_6022_12, e_6022_13, e_6022_15, e_6022_18, e_6022_19, e_6022_20, e_6022_23, e_6022_24, e_6022_26, e_6022_29, e_6022_30, e_6022_31, e_6022_34, e_6022_35, e_6022_36, e_6022_39, e_6022_40, e_6022_41, e_6022_42, e_6022_43, e_6022_46, e_6022_47, e_6022_49, e_6022_52, e_6022_53, e_6022_54, e_6022_55, e_6022_56, e_6022_59, e_6022_60, e_6022_62, e_6022_65, e_6022_66, e_6022_67, e_6022_69, e_6022_70, e_6022_74, e_6022_75, e_6022_76, e_6022_77, e_6022_80, e_6022_81, e_6022_82, e_6022_84, e_6022_87, e_6022_89, e_6022_90, e_6022_91, e_6022_93, e_6022_94, e_6022_95, e_6022_98, e_6022_100, e_6022_101, e_6022_104, e_6022_106, e_6022_109, e_6022_111, e_6022_114, e_6022_116, e_6022_118, e_6022_121, e_6022_122, e_6022_124, e_6022_127, e_6022_130, e_6022_131, e_6022_132, e_6022_133, e_6022_135, e_6022_136, e_6022_137, e_6022_140, e_6022_141, e_6022_142, e_6022_144, e_6022_145, e_6022_146, e_6022_149, e_6022_150, e_6022_151, e_6022_153, e_6022_154, e_6022_155, e_6022_158, e_6022_161, e_6022_164, e_6022_166, e_6022_167, e_6022_168, e_6022_170, e_6022_171, e_6022_172, e_6022_174, e_6022_175, e_6022_176, e_6022_179, e_6022_180, e_6022_181, e_6022_183, e_6022_184, e_6022_185, e_6022_188, e_6022_189, e_6022_190, e_6022_192, e_6022_193, e_6022_194, e_6022_197, e_6022_199, e_6022_202, e_6022_203, e_6022_206, e_6022_209, e_6022_212, e_6022_214, zk_int, zk_ref, zk_null, zk_none, zk_long, zisR_r, zisR_n, zcl_int, zcl_ref, zcl_null, zpush_s, zpush_n, zbs, zbn, true_or, or_true, not_false_eq_true, not_true_eq_false, ↓reduceIte, and_self, and_true, true_and, ie_0_1, ie_0_2, ie_0_3, ie_0_4, ie_0_5, ie_0_6, ie_0_7, ie_1_0, ie_1_2, ie_1_3, ie_1_4, ie_1_5, ie_1_6, ie_1_7, ie_2_0, ie_2_1, ie_2_3, ie_2_4, ie_2_5, ie_2_6, ie_2_7, ie_3_0, ie_3_1, ie_3_2, ie_3_4, ie_3_5, ie_3_6, ie_3_7, ie_4_0, ie_4_1, ie_4_2, ie_4_3, ie_4_5, ie_4_6, ie_4_7, ie_5_0, ie_5_1, ie_5_2, ie_5_3, ie_5_4, ie_5_6, ie_5_7, ie_6_0, ie_6_1, ie_6_2, ie_6_3, ie_6_4, ie_6_5, ie_6_7, ie_7_0, ie_7_1, ie_7_2, ie_7_3, ie_7_4, ie_7_5, ie_7_6, zt_50, nI_add, g1, nI_1, a0, a2, a3, a4, a5, r0, r1, r2, r3, r4, x0, g4, Nat.add_zero]
end PX
