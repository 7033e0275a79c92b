theorem nI_d3 {a : Nat} (h : a < 1000) : nI a / 3 = nI (a / 3) := by
  have e4 : (3 : Int32).toInt = 3 := by decide
  have e1 := nI_toInt (n := a) (by omega)
  have e2 := nI_toInt (n := a / 3) (by omega)
  rw [ti_eq, ti_div (by rw [e1]; omega) (by decide), e1, e4, e2]
  omega
theorem nI_r3 {a : Nat} (h : a < 1000) : nI a - nI a / 3 * 3 = nI (a % 3) := by
  have e4 : (3 : Int32).toInt = 3 := by decide
  have e1 := nI_toInt (n := a) (by omega)
  have e2 := nI_toInt (n := a / 3) (by omega)
  have e3 := nI_toInt (n := a % 3) (by omega)
  rw [nI_d3 h]
  have e5 := ti_mul (x := nI (a / 3)) (y := 3) (by rw [e2, e4]; omega) (by rw [e2, e4]; omega)
  rw [e2, e4] at e5
  rw [ti_eq, ti_sub (by rw [e1, e5]; omega) (by rw [e1, e5]; omega), e1, e5, e3]
  omega
theorem i32_3 : ((3 : Int32) = 0) = False := eq_false (by decide)
theorem sTs_sTe (T : Nat → Int32) (m e n : Nat) : sTs T (fun t => nI ((sSrv T t + e) % m)) n = sTe T m e n T := rfl
def MT (w : zM) (K S : Nat → Int32) : zM := zuA (zuA w 76 K) 56 S
section ML
variable {d n m : Nat} {w : zM} {T V G : Nat → Int32}
theorem MT_56 (K S : Nat → Int32) : (MT w K S).1 56 = S := zA_s _ _ _
theorem MT_76 (K S : Nat → Int32) : (MT w K S).1 76 = K := by unfold MT; rw [zA_n _ _ (by decide), zA_s]
theorem MT_50 (K S : Nat → Int32) : (MT w K S).1 50 = w.1 50 := by unfold MT; rw [zA_n _ _ (by decide), zA_n _ _ (by decide)]
theorem MT_u (K S S' : Nat → Int32) : zuA (MT w K S) 56 S' = MT w K S' := zA_A _ _ _ _
theorem MT_0 (K : Nat → Int32) : MT w K (w.1 56) = zuA w 76 K := by
  have e2 : (zuA w 76 K).1 56 = w.1 56 := zA_n _ _ (by decide)
  unfold MT
  rw [← e2, zA_id]
theorem MT_C0 (K : Nat → Int32) (C : zMc w T V G n m) : zMc (zuA w 76 K) T V G n m :=
  ⟨zMs_k C.1 ⟨by rw [zA_n _ _ (by decide)], by rw [zA_n _ _ (by decide)]⟩ (fun a h1 h2 => by rw [zA_n _ _ (by omega)]), zMn_k C.2.1 (by rw [zA_n _ _ (by decide)]) (by rw [zA_n _ _ (by decide)]), C.2.2⟩
theorem MT_C {K : Nat → Int32} {e : Nat} (C : zMc w T V G n m) (hm : 0 < m) : zMc (MT w K (zcpy (fun t => nI ((sSrv T t + e) % m)) (w.1 56) n)) (sTe T m e n T) V G n m := by
  have C0 := MT_C0 K C
  have n56 : (zuA w 76 K).1 56 = w.1 56 := zA_n _ _ (by decide)
  have s := zMs_s (e := fun t => nI ((sSrv T t + e) % m)) C0.1 C0.2.1.2.2.1
  rw [n56] at s
  unfold MT
  rw [← sTs_sTe]
  exact ⟨s, zMn_k C0.2.1 (by rw [zA_n _ _ (by decide)]) (by rw [zA_n _ _ (by decide)]), zRg_s C0.2.2 (fun t _ => ⟨(sSrv T t + e) % m, Nat.mod_lt _ hm, rfl⟩)⟩
theorem m_tu_h {y N : Int32} : den d 6075 5 [some (.ref 50), some (.int y), some (.int N), some (.int 0), some (.int 0), none] [] w = den d 6075 32 [some (.ref 50), some (.int y), some (.int N), some (.int 0), some (.int 8), none] [] (zuA w 76 (zcpy (w.1 56) (w.1 76) 8)) := by
  have n56 : ∀ F, (zuA w 76 F).1 56 = w.1 56 := fun F => zA_n _ _ (by decide)
  have key : ∀ r j, j + r = 8 → den d 6075 5 [some (.ref 50), some (.int y), some (.int N), some (.int 0), some (.int (nI j)), none] [] (zuA w 76 (zcpy (w.1 56) (w.1 76) j)) = den d 6075 32 [some (.ref 50), some (.int y), some (.int N), some (.int 0), some (.int 8), none] [] (zuA w 76 (zcpy (w.1 56) (w.1 76) 8)) := by
    intro r
    induction r with
    | zero =>
      intro j hj
      have e : j = 8 := by omega
      subst e
      have g1 : ((8 : Int32) ≤ nI 8) = True := eq_true (by decide)
      rw [e_6075_5]
      simp only [e_6075_7, e_6075_9, zk_int, zk_ref, zk_null, zk_none, zk_long, zisR_r, zisR_n, zcl_int, zcl_ref, zcl_null, zpush_s, zpush_n, zbs, zbn, true_or, or_true, not_false_eq_true, not_true_eq_false, ↓reduceIte, and_self, and_true, true_and, g1]
      rfl
    | succ r ih =>
      intro j hj
      have hj8 : j < 8 := by omega
      have g1 : ((8 : Int32) ≤ nI j) = False := nI_ge_f (b := 8) hj8 (by decide)
      have hz := zis_nI hj8 (by decide)
      have hc := nI_clamp (n := j) (by omega)
      rw [e_6075_5]
      simp only [c_6075, e_6075_0, e_6075_1, e_6075_2, e_6075_3, e_6075_7, e_6075_9, e_6075_12, e_6075_13, e_6075_16, e_6075_18, e_6075_19, e_6075_22, e_6075_24, e_6075_25, e_6075_26, e_6075_29, e_6075_33, e_6075_35, e_6075_37, e_6075_38, e_6075_41, e_6075_42, e_6075_44, e_6075_46, e_6075_47, e_6075_50, e_6075_53, e_6075_54, e_6075_57, e_6075_59, e_6075_60, e_6075_63, e_6075_65, e_6075_66, e_6075_68, e_6075_69, e_6075_70, e_6075_73, e_6075_74, e_6075_75, e_6075_78, e_6075_81, e_6075_82, e_6075_83, e_6075_84, e_6075_87, e_6075_88, e_6075_89, e_6075_92, e_6075_95, e_6075_96, e_6075_98, e_6075_100, e_6075_102, e_6075_105, e_6075_106, e_6075_109, e_6075_111, e_6075_112, e_6075_115, e_6075_117, e_6075_118, e_6075_119, e_6075_122, e_6075_125, e_6075_126, zk_int, zk_ref, zk_null, zk_none, zk_long, zisR_r, zisR_n, zcl_int, zcl_ref, zcl_null, zpush_s, zpush_n, zbs, zbn, true_or, or_true, not_false_eq_true, not_true_eq_false, ↓reduceIte, and_self, and_true, true_and, zt_50, zr_50_13, zt_56, zn_56, zo_56, zl_56, zq_56, zr_50_38, zt_76, zn_76, zo_76, zl_76, zq_76, g1, hz, hc, zui_A, zA_s, zA_A, n56, zcpy_s, nI_1]
      exact ih (j + 1) (by omega)
  have k0 := key 8 0 (by omega)
  rw [zcpy_0, zA_id, nI_0] at k0
  exact k0
theorem m_tu_b {y N s : Int32} {K S : Nat → Int32} {o5 : Option Value} : den d 6075 98 [some (.ref 50), some (.int y), some (.int N), some (.int s), some (.int 0), o5] [] (MT w K S) = some (some (.int s), MT w K (zcpy K S 8)) := by
  have key : ∀ r j, j + r = 8 → den d 6075 98 [some (.ref 50), some (.int y), some (.int N), some (.int s), some (.int (nI j)), o5] [] (MT w K (zcpy K S j)) = some (some (.int s), MT w K (zcpy K S 8)) := by
    intro r
    induction r with
    | zero =>
      intro j hj
      have e : j = 8 := by omega
      subst e
      have g1 : ((8 : Int32) ≤ nI 8) = True := eq_true (by decide)
      rw [e_6075_98]
      simp only [e_6075_100, e_6075_102, e_6075_125, e_6075_126, zk_int, zk_ref, zk_null, zk_none, zk_long, zisR_r, zisR_n, zcl_int, zcl_ref, zcl_null, zpush_s, zpush_n, zbs, zbn, true_or, or_true, not_false_eq_true, not_true_eq_false, ↓reduceIte, and_self, and_true, true_and, g1]
    | succ r ih =>
      intro j hj
      have hj8 : j < 8 := by omega
      have g1 : ((8 : Int32) ≤ nI j) = False := nI_ge_f (b := 8) hj8 (by decide)
      have hz := zis_nI hj8 (by decide)
      have hc := nI_clamp (n := j) (by omega)
      rw [e_6075_98]
      simp only [c_6075, e_6075_0, e_6075_1, e_6075_2, e_6075_3, e_6075_5, e_6075_7, e_6075_9, e_6075_12, e_6075_13, e_6075_16, e_6075_18, e_6075_19, e_6075_22, e_6075_24, e_6075_25, e_6075_26, e_6075_29, e_6075_32, e_6075_33, e_6075_35, e_6075_37, e_6075_38, e_6075_41, e_6075_42, e_6075_44, e_6075_46, e_6075_47, e_6075_50, e_6075_53, e_6075_54, e_6075_57, e_6075_59, e_6075_60, e_6075_63, e_6075_65, e_6075_66, e_6075_68, e_6075_69, e_6075_70, e_6075_73, e_6075_74, e_6075_75, e_6075_78, e_6075_81, e_6075_82, e_6075_83, e_6075_84, e_6075_87, e_6075_88, e_6075_89, e_6075_92, e_6075_95, e_6075_96, e_6075_100, e_6075_102, e_6075_105, e_6075_106, e_6075_109, e_6075_111, e_6075_112, e_6075_115, e_6075_117, e_6075_118, e_6075_119, e_6075_122, e_6075_126, zk_int, zk_ref, zk_null, zk_none, zk_long, zisR_r, zisR_n, zcl_int, zcl_ref, zcl_null, zpush_s, zpush_n, zbs, zbn, true_or, or_true, not_false_eq_true, not_true_eq_false, ↓reduceIte, and_self, and_true, true_and, zt_50, zr_50_13, zt_56, zn_56, zo_56, zl_56, zq_56, zr_50_38, zt_76, zn_76, zo_76, zl_76, zq_76, g1, hz, hc, zui_A, MT_56, MT_76, MT_u, zcpy_s, nI_1]
      exact ih (j + 1) (by omega)
  have k0 := key 8 0 (by omega)
  rw [zcpy_0, nI_0] at k0
  exact k0
theorem m_tu_i {K S : Nat → Int32} {y N s : Int32} {e : Nat} (C : zMc w T V G n m) (hm : 0 < m) (he : e < 100) (hK : ∀ t, t < 8 → K t = w.1 56 t) : den (d + 19) 6075 44 [some (.ref 50), some (.int y), some (.int N), some (.int s), some (.int (nI e)), some (.int 0)] [] (MT w K S) = den (d + 19) 6075 81 [some (.ref 50), some (.int y), some (.int N), some (.int s), some (.int (nI e)), some (.int (nI n))] [] (MT w K (zcpy (fun t => nI ((sSrv T t + e) % m)) S n)) := by
  have hn8 := C.2.1.2.2.1
  have hm4 := C.2.1.2.2.2
  have key : ∀ r j, j + r = n → den (d + 19) 6075 44 [some (.ref 50), some (.int y), some (.int N), some (.int s), some (.int (nI e)), some (.int (nI j))] [] (MT w K (zcpy (fun t => nI ((sSrv T t + e) % m)) S j)) = den (d + 19) 6075 81 [some (.ref 50), some (.int y), some (.int N), some (.int s), some (.int (nI e)), some (.int (nI n))] [] (MT w K (zcpy (fun t => nI ((sSrv T t + e) % m)) S n)) := by
    intro r
    induction r with
    | zero =>
      intro j hj
      have e : j = n := by omega
      subst e
      have g1 := nI_le_n (Nat.le_refl j) (by omega)
      rw [e_6075_44]
      simp only [e_6075_46, e_6075_47, e_6075_50, zk_int, zk_ref, zk_null, zk_none, zk_long, zisR_r, zisR_n, zcl_int, zcl_ref, zcl_null, zpush_s, zpush_n, zbs, zbn, true_or, or_true, not_false_eq_true, not_true_eq_false, ↓reduceIte, and_self, and_true, true_and, zt_50, MT_50, C.2.1.1, g1]
    | succ r ih =>
      intro j hj
      have hjn : j < n := by omega
      have g1 := nI_ge_f hjn (by omega)
      have hz := zis_nI (j := j) (n := 8) (by omega) (by decide)
      have hc := nI_clamp (n := j) (by omega)
      have hm0 : (nI m = 0) = False := nI_ne0' hm (by omega)
      obtain ⟨s1, s2⟩ := sSrv_b C.2.2 hjn
      have hk : K j = nI (sSrv T j) := by rw [hK j (by omega), (C.1.1 j (by omega)).2.2.2.2, s2]
      have q4 := nI_smod (a := sSrv T j) (b := e) hm hm4 (by omega)
      have eu := zcpy_s (fun t => nI ((sSrv T t + e) % m)) S j
      rw [e_6075_44]
      simp only [c_6075, e_6075_0, e_6075_1, e_6075_2, e_6075_3, e_6075_5, e_6075_7, e_6075_9, e_6075_12, e_6075_13, e_6075_16, e_6075_18, e_6075_19, e_6075_22, e_6075_24, e_6075_25, e_6075_26, e_6075_29, e_6075_32, e_6075_33, e_6075_35, e_6075_37, e_6075_38, e_6075_41, e_6075_42, e_6075_46, e_6075_47, e_6075_50, e_6075_53, e_6075_54, e_6075_57, e_6075_59, e_6075_60, e_6075_63, e_6075_65, e_6075_66, e_6075_68, e_6075_69, e_6075_70, e_6075_73, e_6075_74, e_6075_75, e_6075_78, e_6075_82, e_6075_83, e_6075_84, e_6075_87, e_6075_88, e_6075_89, e_6075_92, e_6075_95, e_6075_96, e_6075_98, e_6075_100, e_6075_102, e_6075_105, e_6075_106, e_6075_109, e_6075_111, e_6075_112, e_6075_115, e_6075_117, e_6075_118, e_6075_119, e_6075_122, e_6075_125, e_6075_126, zk_int, zk_ref, zk_null, zk_none, zk_long, zisR_r, zisR_n, zcl_int, zcl_ref, zcl_null, zpush_s, zpush_n, zbs, zbn, true_or, or_true, not_false_eq_true, not_true_eq_false, ↓reduceIte, and_self, and_true, true_and, zt_50, zr_50_13, zt_56, zn_56, zo_56, zl_56, zq_56, zr_50_38, zt_76, zn_76, zo_76, zl_76, zq_76, MT_50, C.2.1.1, C.2.1.2.1, g1, hz, hc, hm0, hk, q4, zui_A, MT_56, MT_76, MT_u, nI_1]
      have i1 := ih (j + 1) (by omega)
      rw [← eu] at i1
      exact i1
  have k0 := key n 0 (by omega)
  rw [zcpy_0, nI_0] at k0
  exact k0
theorem zcpy_zc (e f g : Nat → Int32) (n : Nat) : zcpy e (zcpy f g n) n = zcpy e g n := by
  funext k
  unfold zcpy
  by_cases h : k < n
  · rw [if_pos h, if_pos h]
  · rw [if_neg h, if_neg h, if_neg h]
theorem m_tu_l {K : Nat → Int32} {y N : Nat} (C : zMc w T V G n m) (hm : 0 < m) (hN : N ≤ 30) (hK : ∀ t, t < 8 → K t = w.1 56 t) : ∀ q e S o5, e + q = N → (S = w.1 56 ∨ ∃ f, S = zcpy f (w.1 56) n) → ∃ S' o', (∀ k, 8 ≤ k → S' k = w.1 56 k) ∧ den (d + 19) 6075 35 [some (.ref 50), some (.int (nI y)), some (.int (nI N)), some (.int (sTu T V G n m y e)), some (.int (nI e)), o5] [] (MT w K S) = den (d + 19) 6075 98 [some (.ref 50), some (.int (nI y)), some (.int (nI N)), some (.int (sTu T V G n m y N)), some (.int 0), o'] [] (MT w K S') := by
  have hn8 := C.2.1.2.2.1
  intro q
  induction q with
  | zero =>
    intro e S o5 he hS
    have e1 : e = N := by omega
    subst e1
    have g1 := nI_le_n (Nat.le_refl e) (by omega)
    refine ⟨S, o5, ?_, ?_⟩
    · intro k hk
      rcases hS with rfl | ⟨f, rfl⟩
      · rfl
      · exact if_neg (by omega)
    · rw [e_6075_35]
      simp only [e_6075_37, e_6075_38, e_6075_95, e_6075_96, zk_int, zk_ref, zk_null, zk_none, zk_long, zisR_r, zisR_n, zcl_int, zcl_ref, zcl_null, zpush_s, zpush_n, zbs, zbn, true_or, or_true, not_false_eq_true, not_true_eq_false, ↓reduceIte, and_self, and_true, true_and, g1]
  | succ q ih =>
    intro e S o5 he hS
    have heN : e < N := by omega
    have g1 := nI_ge_f heN (by omega)
    have k1 := m_tu_i (d := d) (S := S) (y := nI y) (N := nI N) (s := sTu T V G n m y e) (e := e) C hm (by omega) hK
    have eS : zcpy (fun t => nI ((sSrv T t + e) % m)) S n = zcpy (fun t => nI ((sSrv T t + e) % m)) (w.1 56) n := by
      rcases hS with rfl | ⟨f, rfl⟩
      · rfl
      · exact zcpy_zc _ _ _ _
    rw [eS] at k1
    have q1 := m_ownOf (d := d) (y := nI y) (MT_C (K := K) (e := e) C hm)
    have k4 : sTu T V G n m y e + zsum (sOwnF (sTe T m e n T) (sGv (sTe T m e n T) V G) (nI y)) n = sTu T V G n m y (e + 1) := rfl
    obtain ⟨S', o', b1, b2⟩ := ih (e + 1) (zcpy (fun t => nI ((sSrv T t + e) % m)) (w.1 56) n) (some (.int (nI n))) (by omega) (Or.inr ⟨_, rfl⟩)
    refine ⟨S', o', b1, ?_⟩
    rw [← b2, e_6075_35]
    simp only [e_6075_37, e_6075_38, e_6075_41, e_6075_42, e_6075_81, e_6075_82, e_6075_83, e_6075_84, e_6075_87, e_6075_88, e_6075_89, e_6075_92, zk_int, zk_ref, zk_null, zk_none, zk_long, zisR_r, zisR_n, zcl_int, zcl_ref, zcl_null, zpush_s, zpush_n, zbs, zbn, true_or, or_true, not_false_eq_true, not_true_eq_false, ↓reduceIte, and_self, and_true, true_and, zt_50, g1, k1, q1, k4, nI_1]
theorem MT_kp {K : Nat → Int32} : zKp w (MT w K (w.1 56)) := by
  have e2 : (zuA w 76 K).1 56 = w.1 56 := zA_n _ _ (by decide)
  unfold MT
  rw [← e2, zA_id]
  exact zKp_A (by unfold zKa; omega) (by omega) (by omega) (by omega)
theorem m_turnsOf {y N : Nat} (C : zMc w T V G n m) (hm : 0 < m) (hN : N ≤ 30) : ∃ w2, zKp w w2 ∧ cal (d + 19) 6075 [.ref 50, .int (nI y), .int (nI N)] w = some (some (.int (sTu T V G n m y N)), w2) := by
  obtain ⟨S', o', b1, b2⟩ := m_tu_l (d := d) (K := zcpy (w.1 56) (w.1 76) 8) (y := y) C hm hN (fun t ht => if_pos ht) N 0 (w.1 56) none (by omega) (Or.inl rfl)
  refine ⟨_, MT_kp (K := zcpy (w.1 56) (w.1 76) 8), ?_⟩
  have h1 := m_tu_h (d := d + 19) (w := w) (y := nI y) (N := nI N)
  have e0 := MT_0 (w := w) (zcpy (w.1 56) (w.1 76) 8)
  have s0 : sTu T V G n m y 0 = 0 := rfl
  have eb : zcpy (zcpy (w.1 56) (w.1 76) 8) S' 8 = w.1 56 := by
    funext k
    unfold zcpy
    by_cases h : k < 8
    · rw [if_pos h, if_pos h]
    · rw [if_neg h]; exact b1 k (by omega)
  rw [e0, s0, nI_0, m_tu_b, eb] at b2
  have b3 : ∀ x : Int32, den (d + 19) 6075 32 [some (.ref 50), some (.int (nI y)), some (.int (nI N)), some (.int 0), some (.int 8), none] [] (zuA w 76 (zcpy (w.1 56) (w.1 76) 8)) = den (d + 19) 6075 35 [some (.ref 50), some (.int (nI y)), some (.int (nI N)), some (.int 0), some (.int 0), none] [] (zuA w 76 (zcpy (w.1 56) (w.1 76) 8)) := by
    intro x
    simp only [e_6075_32, e_6075_33, zk_int, zk_ref, zk_null, zk_none, zk_long, zisR_r, zisR_n, zcl_int, zcl_ref, zcl_null, zpush_s, zpush_n, zbs, zbn, true_or, or_true, not_false_eq_true, not_true_eq_false, ↓reduceIte, and_self, and_true, true_and]
  simp only [c_6075, e_6075_0, e_6075_1, e_6075_2, e_6075_3, zk_int, zk_ref, zk_null, zk_none, zk_long, zisR_r, zisR_n, zcl_int, zcl_ref, zcl_null, zpush_s, zpush_n, zbs, zbn, true_or, or_true, not_false_eq_true, not_true_eq_false, ↓reduceIte, and_self, and_true, true_and]
  rw [h1, b3 0, b2]
def dp (m r : Nat) : Nat → Int32 := fun v => nI (dig 3 m r v + 1)
def MP (w : zM) (K P F : Nat → Int32) : zM := zuA (zuA (zuA w 74 K) 60 P) 50 F
theorem MP_50 (K P F : Nat → Int32) : (MP w K P F).1 50 = F := zA_s _ _ _
theorem MP_60 (K P F : Nat → Int32) : (MP w K P F).1 60 = P := by unfold MP; rw [zA_n _ _ (by decide), zA_s]
theorem MP_74 (K P F : Nat → Int32) : (MP w K P F).1 74 = K := by unfold MP; rw [zA_n _ _ (by decide), zA_n _ _ (by decide), zA_s]
theorem MP_u60 (K P F P' : Nat → Int32) : zuA (MP w K P F) 60 P' = MP w K P' F := by unfold MP; rw [zA_c _ _ _ (by decide : (50 : Nat) ≠ 60), zA_A]
theorem MP_u50 (K P F F' : Nat → Int32) : zuA (MP w K P F) 50 F' = MP w K P F' := zA_A _ _ _ _
theorem MP_0 (K : Nat → Int32) : MP w K (w.1 60) (w.1 50) = zuA w 74 K := by
  unfold MP
  have e1 : (zuA w 74 K).1 60 = w.1 60 := zA_n _ _ (by decide)
  have e2 : (zuA w 74 K).1 50 = w.1 50 := zA_n _ _ (by decide)
  rw [← e1, zA_id, ← e2, zA_id]
theorem dp_b (m r v : Nat) : zBt (dp m r v) 1 9 := by
  have h := dig_lt (b := 3) (m := m) (r := r) (y := v) (by decide)
  exact nI_bt (a := 1) (b := 9) (by omega) (by omega) (by omega)
theorem MP_C {K : Nat → Int32} {r : Nat} (C : zMc w T V G n m) : zMc (MP w K (zcpy (dp m r) (w.1 60) m) (upd (w.1 50) 2 2)) T (sPr V m r) (upd G 0 2) n m := by
  have C0 : zMc (zuA w 74 K) T V G n m := ⟨zMs_k C.1 ⟨by rw [zA_n _ _ (by decide)], by rw [zA_n _ _ (by decide)]⟩ (fun a h1 h2 => by rw [zA_n _ _ (by omega)]), zMn_k C.2.1 (by rw [zA_n _ _ (by decide)]) (by rw [zA_n _ _ (by decide)]), C.2.2⟩
  have n60 : (zuA w 74 K).1 60 = w.1 60 := zA_n _ _ (by decide)
  have s := zMs_p (e := dp m r) C0.1 C0.2.1.2.2.2
  rw [n60] at s
  have n50 : (zuA (zuA w 74 K) 60 (zcpy (dp m r) (w.1 60) m)).1 50 = w.1 50 := by rw [zA_n _ _ (by decide), zA_n _ _ (by decide)]
  have s2 := zMs_G0 (s := 2) s
  rw [n50] at s2
  exact ⟨s2, zMn_k C.2.1 (by rw [MP_50, u_ne (by decide)]) (by rw [MP_50, u_ne (by decide)]), zRg_G0 (zRg_p C.2.2 (fun x _ => dp_b m r x)) (by unfold zBt; decide)⟩
theorem m_po_h {a : Int32} (C : zMc w T V G n m) : den d 6068 27 [some (.ref 50), some (.int a), some (.int (G 0)), some (.int 1), some (.int (-1)), some (.int 0), none, none] [] w = den d 6068 60 [some (.ref 50), some (.int a), some (.int (G 0)), some (.int (nI (3 ^ m))), some (.int (-1)), some (.int (nI m)), none, none] [] (zuA w 74 (zcpy (w.1 60) (w.1 74) m)) := by
  have hm4 := C.2.1.2.2.2
  have n60 : ∀ F, (zuA w 74 F).1 60 = w.1 60 := fun F => zA_n _ _ (by decide)
  have n50 : ∀ F, (zuA w 74 F).1 50 = w.1 50 := fun F => zA_n _ _ (by decide)
  have e3 : ∀ j, nI (3 ^ j) * 3 = nI (3 ^ (j + 1)) := fun j => by rw [Nat.pow_succ]; exact pk_mul _ 3
  have key : ∀ r j, j + r = m → den d 6068 27 [some (.ref 50), some (.int a), some (.int (G 0)), some (.int (nI (3 ^ j))), some (.int (-1)), some (.int (nI j)), none, none] [] (zuA w 74 (zcpy (w.1 60) (w.1 74) j)) = den d 6068 60 [some (.ref 50), some (.int a), some (.int (G 0)), some (.int (nI (3 ^ m))), some (.int (-1)), some (.int (nI m)), none, none] [] (zuA w 74 (zcpy (w.1 60) (w.1 74) m)) := by
    intro r
    induction r with
    | zero =>
      intro j hj
      have e : j = m := by omega
      subst e
      have g1 := nI_le_n (Nat.le_refl j) (by omega)
      rw [e_6068_27]
      simp only [e_6068_29, e_6068_30, e_6068_33, zk_int, zk_ref, zk_null, zk_none, zk_long, zisR_r, zisR_n, zcl_int, zcl_ref, zcl_null, zpush_s, zpush_n, zbs, zbn, true_or, or_true, not_false_eq_true, not_true_eq_false, ↓reduceIte, and_self, and_true, true_and, zt_50, n50, C.2.1.2.1, g1]
    | succ r ih =>
      intro j hj
      have hjm : j < m := by omega
      have g1 := nI_ge_f hjm (by omega)
      have hz := zis_nI (j := j) (n := 4) (by omega) (by decide)
      have hc := nI_clamp (n := j) (by omega)
      rw [e_6068_27]
      simp only [c_6068, e_6068_0, e_6068_1, e_6068_2, e_6068_5, e_6068_8, e_6068_9, e_6068_10, e_6068_13, e_6068_14, e_6068_15, e_6068_18, e_6068_19, e_6068_20, e_6068_21, e_6068_22, e_6068_24, e_6068_25, e_6068_29, e_6068_30, e_6068_33, e_6068_36, e_6068_37, e_6068_40, e_6068_42, e_6068_43, e_6068_46, e_6068_48, e_6068_49, e_6068_50, e_6068_51, e_6068_52, e_6068_53, e_6068_54, e_6068_57, e_6068_61, e_6068_62, e_6068_65, e_6068_66, e_6068_68, e_6068_70, e_6068_71, e_6068_74, e_6068_76, e_6068_77, e_6068_80, e_6068_82, e_6068_84, e_6068_85, e_6068_88, e_6068_89, e_6068_90, e_6068_92, e_6068_94, e_6068_97, e_6068_98, e_6068_101, e_6068_103, e_6068_105, e_6068_106, e_6068_107, e_6068_108, e_6068_109, e_6068_110, e_6068_112, e_6068_113, e_6068_114, e_6068_116, e_6068_119, e_6068_122, e_6068_123, e_6068_126, e_6068_129, e_6068_130, e_6068_133, e_6068_134, e_6068_135, e_6068_137, e_6068_140, e_6068_143, e_6068_144, e_6068_145, e_6068_148, e_6068_149, e_6068_151, e_6068_153, e_6068_154, e_6068_157, e_6068_160, e_6068_161, e_6068_164, e_6068_166, e_6068_167, e_6068_170, e_6068_172, e_6068_173, e_6068_174, e_6068_177, e_6068_180, e_6068_182, e_6068_183, e_6068_186, e_6068_187, e_6068_189, e_6068_192, e_6068_195, e_6068_197, zk_int, zk_ref, zk_null, zk_none, zk_long, zisR_r, zisR_n, zcl_int, zcl_ref, zcl_null, zpush_s, zpush_n, zbs, zbn, true_or, or_true, not_false_eq_true, not_true_eq_false, ↓reduceIte, and_self, and_true, true_and, zt_50, zr_50_17, zt_60, zn_60, zo_60, zl_60, zq_60, zr_50_36, zt_74, zn_74, zo_74, zl_74, zq_74, n50, C.2.1.2.1, g1, hz, hc, zui_A, zA_s, zA_A, n60, zcpy_s, e3, nI_1]
      exact ih (j + 1) (by omega)
  have k0 := key m 0 (by omega)
  rw [zcpy_0, zA_id, Nat.pow_zero, nI_0] at k0
  exact k0
theorem m_po_d {a R is : Int32} {x : Nat} {K P F : Nat → Int32} {o6 o7 : Option Value} (C : zMc w T V G n m) (hx : x < 3 ^ m) (hP : ∀ k, m ≤ k → P k = w.1 60 k) (hF : F 1 = nI m) : den d 6068 80 [some (.ref 50), some (.int a), some (.int (G 0)), some (.int R), some (.int is), some (.int (nI x)), o6, o7] [] (MP w K P F) = den d 6068 122 [some (.ref 50), some (.int a), some (.int (G 0)), some (.int R), some (.int is), some (.int (nI x)), some (.int (nI (x / 3 ^ m))), some (.int (-1))] [] (MP w K (zcpy (dp m x) (w.1 60) m) F) := by
  have hm4 := C.2.1.2.2.2
  have h256 := (pow_le4 (b := 3) (k := m) (by decide) (by decide) hm4).2
  have key : ∀ j, j ≤ m → den d 6068 92 [some (.ref 50), some (.int a), some (.int (G 0)), some (.int R), some (.int is), some (.int (nI x)), some (.int (nI (x / 3 ^ (m - j)))), some (.int (nI j - 1))] [] (MP w K (zge (dp m x) P j m) F) = den d 6068 122 [some (.ref 50), some (.int a), some (.int (G 0)), some (.int R), some (.int is), some (.int (nI x)), some (.int (nI (x / 3 ^ m))), some (.int (-1))] [] (MP w K (zcpy (dp m x) (w.1 60) m) F) := by
    intro j
    induction j with
    | zero =>
      intro hj
      have g1 : ((nI 0 - 1) < 0) = True := eq_true (by decide)
      have ef : zge (dp m x) P 0 m = zcpy (dp m x) (w.1 60) m := by
        funext k
        unfold zge zcpy
        by_cases h : k < m
        · rw [if_pos ⟨by omega, h⟩, if_pos h]
        · rw [if_neg (by omega), if_neg h]; exact hP k (by omega)
      rw [ef, e_6068_92]
      simp only [e_6068_94, zk_int, zk_ref, zk_null, zk_none, zk_long, zisR_r, zisR_n, zcl_int, zcl_ref, zcl_null, zpush_s, zpush_n, zbs, zbn, true_or, or_true, not_false_eq_true, not_true_eq_false, ↓reduceIte, and_self, and_true, true_and, g1]
      rfl
    | succ j ih =>
      intro hj
      have np := nI_pred j
      have g1 := nI_lt0 (a := j) (by omega)
      have hz := zis_nI (j := j) (n := 4) (by omega) (by decide)
      have hc := nI_clamp (n := j) (by omega)
      have hq : x / 3 ^ (m - (j + 1)) < 1000 := by
        have := Nat.div_le_self x (3 ^ (m - (j + 1)))
        omega
      have r4 := nI_r3 hq
      have d4 := nI_d3 hq
      have e1 : nI (x / 3 ^ (m - (j + 1)) % 3) + 1 = dp m x j := by
        unfold dp dig
        rw [show m - (j + 1) = m - 1 - j by omega, nI_1]
      have e2 : x / 3 ^ (m - (j + 1)) / 3 = x / 3 ^ (m - j) := by
        rw [Nat.div_div_eq_div_mul, ← Nat.pow_succ, show (m - (j + 1)).succ = m - j by omega]
      have e3 : nI j + -1 = nI j - 1 := by
        rw [Int32.sub_eq_add_neg]
      have r5 : nI (x / 3 ^ (m - (j + 1))) - nI (x / 3 ^ (m - j)) * 3 + 1 = dp m x j := by rw [← e2, ← d4, r4, e1]
      rw [np, e_6068_92]
      simp only [c_6068, e_6068_0, e_6068_1, e_6068_2, e_6068_5, e_6068_8, e_6068_9, e_6068_10, e_6068_13, e_6068_14, e_6068_15, e_6068_18, e_6068_19, e_6068_20, e_6068_21, e_6068_22, e_6068_24, e_6068_25, e_6068_27, e_6068_29, e_6068_30, e_6068_33, e_6068_36, e_6068_37, e_6068_40, e_6068_42, e_6068_43, e_6068_46, e_6068_48, e_6068_49, e_6068_50, e_6068_51, e_6068_52, e_6068_53, e_6068_54, e_6068_57, e_6068_60, e_6068_61, e_6068_62, e_6068_65, e_6068_66, e_6068_68, e_6068_70, e_6068_71, e_6068_74, e_6068_76, e_6068_77, e_6068_80, e_6068_82, e_6068_84, e_6068_85, e_6068_88, e_6068_89, e_6068_90, e_6068_94, e_6068_97, e_6068_98, e_6068_101, e_6068_103, e_6068_105, e_6068_106, e_6068_107, e_6068_108, e_6068_109, e_6068_110, e_6068_112, e_6068_113, e_6068_114, e_6068_116, e_6068_119, e_6068_123, e_6068_126, e_6068_129, e_6068_130, e_6068_133, e_6068_134, e_6068_135, e_6068_137, e_6068_140, e_6068_143, e_6068_144, e_6068_145, e_6068_148, e_6068_149, e_6068_151, e_6068_153, e_6068_154, e_6068_157, e_6068_160, e_6068_161, e_6068_164, e_6068_166, e_6068_167, e_6068_170, e_6068_172, e_6068_173, e_6068_174, e_6068_177, e_6068_180, e_6068_182, e_6068_183, e_6068_186, e_6068_187, e_6068_189, e_6068_192, e_6068_195, e_6068_197, zk_int, zk_ref, zk_null, zk_none, zk_long, zisR_r, zisR_n, zcl_int, zcl_ref, zcl_null, zpush_s, zpush_n, zbs, zbn, true_or, or_true, not_false_eq_true, not_true_eq_false, ↓reduceIte, and_self, and_true, true_and, zt_50, zr_50_17, zt_60, zn_60, zo_60, zl_60, zq_60, g1, hz, hc, i32_3, r5, d4, e2, zui_A, MP_60, MP_u60, zge_s _ _ _ _ (show j < m by omega), e3]
      exact ih (by omega)
  have k0 := key m (Nat.le_refl _)
  have e0 : zge (dp m x) P m m = P := by
    funext k
    exact if_neg (by omega)
  rw [e0, Nat.sub_self, Nat.pow_zero, Nat.div_one] at k0
  rw [e_6068_80]
  simp only [c_6068, e_6068_0, e_6068_1, e_6068_2, e_6068_5, e_6068_8, e_6068_9, e_6068_10, e_6068_13, e_6068_14, e_6068_15, e_6068_18, e_6068_19, e_6068_20, e_6068_21, e_6068_22, e_6068_24, e_6068_25, e_6068_27, e_6068_29, e_6068_30, e_6068_33, e_6068_36, e_6068_37, e_6068_40, e_6068_42, e_6068_43, e_6068_46, e_6068_48, e_6068_49, e_6068_50, e_6068_51, e_6068_52, e_6068_53, e_6068_54, e_6068_57, e_6068_60, e_6068_61, e_6068_62, e_6068_65, e_6068_66, e_6068_68, e_6068_70, e_6068_71, e_6068_74, e_6068_76, e_6068_77, e_6068_82, e_6068_84, e_6068_85, e_6068_88, e_6068_89, e_6068_90, e_6068_94, e_6068_97, e_6068_98, e_6068_101, e_6068_103, e_6068_105, e_6068_106, e_6068_107, e_6068_108, e_6068_109, e_6068_110, e_6068_112, e_6068_113, e_6068_114, e_6068_116, e_6068_119, e_6068_123, e_6068_126, e_6068_129, e_6068_130, e_6068_133, e_6068_134, e_6068_135, e_6068_137, e_6068_140, e_6068_143, e_6068_144, e_6068_145, e_6068_148, e_6068_149, e_6068_151, e_6068_153, e_6068_154, e_6068_157, e_6068_160, e_6068_161, e_6068_164, e_6068_166, e_6068_167, e_6068_170, e_6068_172, e_6068_173, e_6068_174, e_6068_177, e_6068_180, e_6068_182, e_6068_183, e_6068_186, e_6068_187, e_6068_189, e_6068_192, e_6068_195, e_6068_197, zk_int, zk_ref, zk_null, zk_none, zk_long, zisR_r, zisR_n, zcl_int, zcl_ref, zcl_null, zpush_s, zpush_n, zbs, zbn, true_or, or_true, not_false_eq_true, not_true_eq_false, ↓reduceIte, and_self, and_true, true_and, zt_50, MP_50, hF]
  exact k0
theorem m_po_b {a R is : Int32} {K P : Nat → Int32} {o5 o6 o7 : Option Value} (C : zMc w T V G n m) (hP : ∀ k, m ≤ k → P k = w.1 60 k) : den d 6068 143 [some (.ref 50), some (.int a), some (.int (G 0)), some (.int R), some (.int is), o5, o6, o7] [] (MP w (zcpy (w.1 60) K m) P (upd (w.1 50) 2 2)) = den d 6068 180 [some (.ref 50), some (.int a), some (.int (G 0)), some (.int R), some (.int is), some (.int (nI m)), o6, o7] [] (zuA w 74 (zcpy (w.1 60) K m)) := by
  have hm4 := C.2.1.2.2.2
  have eF : upd (upd (w.1 50) 2 2) 2 (G 0) = w.1 50 := by rw [upd_u, ← C.1.2.2.1, upd_id]
  have key : ∀ r j, j + r = m → den d 6068 151 [some (.ref 50), some (.int a), some (.int (G 0)), some (.int R), some (.int is), some (.int (nI j)), o6, o7] [] (MP w (zcpy (w.1 60) K m) (zcpy (w.1 60) P j) (w.1 50)) = den d 6068 180 [some (.ref 50), some (.int a), some (.int (G 0)), some (.int R), some (.int is), some (.int (nI m)), o6, o7] [] (zuA w 74 (zcpy (w.1 60) K m)) := by
    intro r
    induction r with
    | zero =>
      intro j hj
      have e : j = m := by omega
      subst e
      have g1 := nI_le_n (Nat.le_refl j) (by omega)
      have ep : zcpy (w.1 60) P j = w.1 60 := by
        funext k
        unfold zcpy
        by_cases h : k < j
        · rw [if_pos h]
        · rw [if_neg h]; exact hP k (by omega)
      have n50 : (zuA w 74 (zcpy (w.1 60) K j)).1 50 = w.1 50 := zA_n _ _ (by decide)
      rw [ep, e_6068_151]
      simp only [e_6068_153, e_6068_154, e_6068_157, zk_int, zk_ref, zk_null, zk_none, zk_long, zisR_r, zisR_n, zcl_int, zcl_ref, zcl_null, zpush_s, zpush_n, zbs, zbn, true_or, or_true, not_false_eq_true, not_true_eq_false, ↓reduceIte, and_self, and_true, true_and, zt_50, MP_50, n50, C.2.1.2.1, g1, MP_0]
    | succ r ih =>
      intro j hj
      have hjm : j < m := by omega
      have g1 := nI_ge_f hjm (by omega)
      have hz := zis_nI (j := j) (n := 4) (by omega) (by decide)
      have hc := nI_clamp (n := j) (by omega)
      have ek : zcpy (w.1 60) K m j = w.1 60 j := if_pos hjm
      rw [e_6068_151]
      simp only [c_6068, e_6068_0, e_6068_1, e_6068_2, e_6068_5, e_6068_8, e_6068_9, e_6068_10, e_6068_13, e_6068_14, e_6068_15, e_6068_18, e_6068_19, e_6068_20, e_6068_21, e_6068_22, e_6068_24, e_6068_25, e_6068_27, e_6068_29, e_6068_30, e_6068_33, e_6068_36, e_6068_37, e_6068_40, e_6068_42, e_6068_43, e_6068_46, e_6068_48, e_6068_49, e_6068_50, e_6068_51, e_6068_52, e_6068_53, e_6068_54, e_6068_57, e_6068_60, e_6068_61, e_6068_62, e_6068_65, e_6068_66, e_6068_68, e_6068_70, e_6068_71, e_6068_74, e_6068_76, e_6068_77, e_6068_80, e_6068_82, e_6068_84, e_6068_85, e_6068_88, e_6068_89, e_6068_90, e_6068_92, e_6068_94, e_6068_97, e_6068_98, e_6068_101, e_6068_103, e_6068_105, e_6068_106, e_6068_107, e_6068_108, e_6068_109, e_6068_110, e_6068_112, e_6068_113, e_6068_114, e_6068_116, e_6068_119, e_6068_122, e_6068_123, e_6068_126, e_6068_129, e_6068_130, e_6068_133, e_6068_134, e_6068_135, e_6068_137, e_6068_140, e_6068_143, e_6068_144, e_6068_145, e_6068_148, e_6068_149, e_6068_153, e_6068_154, e_6068_157, e_6068_160, e_6068_161, e_6068_164, e_6068_166, e_6068_167, e_6068_170, e_6068_172, e_6068_173, e_6068_174, e_6068_177, e_6068_182, e_6068_183, e_6068_186, e_6068_187, e_6068_189, e_6068_192, e_6068_195, e_6068_197, zk_int, zk_ref, zk_null, zk_none, zk_long, zisR_r, zisR_n, zcl_int, zcl_ref, zcl_null, zpush_s, zpush_n, zbs, zbn, true_or, or_true, not_false_eq_true, not_true_eq_false, ↓reduceIte, and_self, and_true, true_and, zt_50, zr_50_17, zt_60, zn_60, zo_60, zl_60, zq_60, zr_50_36, zt_74, zn_74, zo_74, zl_74, zq_74, MP_50, MP_60, MP_74, MP_u60, C.2.1.2.1, g1, hz, hc, ek, zui_A, zcpy_s, nI_1]
      exact ih (j + 1) (by omega)
  have k0 := key m 0 (by omega)
  rw [zcpy_0, nI_0] at k0
  simp only [e_6068_143, e_6068_144, e_6068_145, e_6068_148, e_6068_149, zk_int, zk_ref, zk_null, zk_none, zk_long, zisR_r, zisR_n, zcl_int, zcl_ref, zcl_null, zpush_s, zpush_n, zbs, zbn, true_or, or_true, not_false_eq_true, not_true_eq_false, ↓reduceIte, and_self, and_true, true_and, zt_50, zui_A, MP_50, MP_u50, eF]
  exact k0
end ML
