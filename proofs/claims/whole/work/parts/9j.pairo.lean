def mFr (X0 X : zM) : Prop := (∀ a, a ≠ 50 → a ≠ 71 → (a < 52 ∨ 63 < a) → X.1 a = X0.1 a) ∧ (∀ k, 4 ≤ k → k ≠ 30 → k ≠ 32 → k ≠ 33 → X.1 50 k = X0.1 50 k) ∧ X.2 = X0.2
def mI (X0 X : zM) (n m : Nat) (T V G : Nat → Int32) : Prop := mFr X0 X ∧ zMs X T V G ∧ zMn X n m
section QC
variable {d n m j z p p0 : Nat} {w w1 w2 X X0 : zM} {L N : Nat → Int32} {T V G : Nat → Int32}
theorem mFr_r : mFr X X := ⟨fun _ _ _ _ => rfl, fun _ _ _ _ _ => rfl, rfl⟩
theorem mFr_t {Y : zM} (A : mFr X0 X) (B : mFr X Y) : mFr X0 Y :=
  ⟨fun a h1 h2 h3 => (B.1 a h1 h2 h3).trans (A.1 a h1 h2 h3), fun k h1 h2 h3 h4 => (B.2.1 k h1 h2 h3 h4).trans (A.2.1 k h1 h2 h3 h4), B.2.2.trans A.2.2⟩
theorem mFr_50 {k : Nat} {v : Int32} (h : k < 4 ∨ k = 30 ∨ k = 32 ∨ k = 33) : mFr X (zui X 50 k v) :=
  ⟨fun a h1 h2 h3 => zi_n _ h1, fun q h1 h2 h3 h4 => by rw [zi_s, u_ne (by omega)], rfl⟩
theorem mFr_a {a k : Nat} {v : Int32} (h : a = 71 ∨ (52 ≤ a ∧ a ≤ 63)) : mFr X (zui X a k v) :=
  ⟨fun b h1 h2 h3 => zi_n _ (by omega), fun q h1 h2 h3 h4 => by rw [zi_n _ (by omega)], rfl⟩
theorem mI_50 {k : Nat} {v : Int32} (I : mI X0 X n m T V G) (h : k = 30 ∨ k = 32 ∨ k = 33) : mI X0 (zui X 50 k v) n m T V G :=
  ⟨mFr_t I.1 (mFr_50 (by omega)), zMs_k I.2.1 ⟨by rw [zi_s, u_ne (by omega)], by rw [zi_s, u_ne (by omega)]⟩ (fun a h1 h2 => zi_n _ (by omega)), zMn_k I.2.2 (by rw [zi_s, u_ne (by omega)]) (by rw [zi_s, u_ne (by omega)])⟩
theorem mI_71 {k : Nat} {v : Int32} (I : mI X0 X n m T V G) : mI X0 (zui X 71 k v) n m T V G :=
  ⟨mFr_t I.1 (mFr_a (by omega)), zMs_k I.2.1 ⟨by rw [zi_n _ (by decide)], by rw [zi_n _ (by decide)]⟩ (fun a h1 h2 => zi_n _ (by omega)), zMn_k I.2.2 (by rw [zi_n _ (by decide)]) (by rw [zi_n _ (by decide)])⟩
theorem mI_N {q : Nat} {v : Int32} (I : mI X0 X n m T V G) : mI X0 (mN X q v) n m T V G := mI_50 (mI_50 I (by omega)) (by omega)
theorem mI_E {q : Nat} (E : mE X0 j z p0 L) (F : mFr X0 X) (h : X.1 50 30 = nI q) : mE X j z q L :=
  mE_k E (F.2.1 29 (by decide) (by decide) (by decide) (by decide)) h (F.2.1 31 (by decide) (by decide) (by decide) (by decide)) F.2.2 (F.1 70 (by decide) (by decide) (by decide))
theorem rLo_e {i k : Nat} (hi : i < 1000) (hk : k < 1000) : rLo i k = if nI i = 1 ∧ (nI k = 1 ∨ nI k = 2) then 1 else 0 := by
  have e1 : nI i = 1 ↔ i = 1 := nI_eq (b := 1) (by omega) (by decide)
  have e2 : nI k = 1 ↔ k = 1 := nI_eq (b := 1) (by omega) (by decide)
  have e3 : nI k = 2 ↔ k = 2 := nI_eq (b := 2) (by omega) (by decide)
  unfold rLo
  by_cases h : i = 1 ∧ (k = 1 ∨ k = 2)
  · rw [if_pos h, if_pos (by rw [e1, e2, e3]; exact h)]
  · rw [if_neg h, if_neg (by rw [e1, e2, e3]; exact h)]
theorem m_it_num {i k : Nat} {o1 c : Int32} (hm : X.1 50 1 = nI m) (hi : i < 5) (hk : k < rCnt i) : den (d + 2) 6037 175 [some (.ref 50), some (.int o1), some (.int (nI i)), some (.int c), some (.int (nI k))] [] X = (cal (d + 1) 6033 [.ref 50, .int (rLo i k), .int (rHi m i k)] X).bind (fun r => den (d + 2) 6037 208 [some (.ref 50), some (.int o1), some (.int (nI i)), some (.int c), some (.int (nI k))] (zpush r.1 []) r.2) := by
  have t := m_top (d := d + 1) hm hi hk
  have h5 := rCnt_5 (i := i)
  rw [rLo_e (by omega) (by omega), e_6037_175 zisR_r]
  by_cases h1 : nI i = 1
  · by_cases h2 : nI k = 1
    · rw [if_pos ⟨h1, Or.inl h2⟩]
      rw [h1, h2] at t ⊢
      simp only [e_6037_176, e_6037_177, e_6037_178, e_6037_181, e_6037_183, e_6037_184, e_6037_193, e_6037_194, e_6037_198, e_6037_199, e_6037_200, e_6037_202, e_6037_205, zk_int, zk_ref, zk_null, zk_none, zk_long, zisR_r, zisR_n, zcl_int, zcl_ref, zcl_null, zpush_s, zpush_n, zbs, zbn, true_or, or_true, not_false_eq_true, not_true_eq_false, ↓reduceIte, and_self, and_true, true_and, zt_50, t]
    · by_cases h3 : nI k = 2
      · rw [if_pos ⟨h1, Or.inr h3⟩]
        rw [h1, h3] at t ⊢
        simp only [e_6037_176, e_6037_177, e_6037_178, e_6037_181, e_6037_183, e_6037_184, e_6037_187, e_6037_189, e_6037_190, e_6037_193, e_6037_194, e_6037_198, e_6037_199, e_6037_200, e_6037_202, e_6037_205, zk_int, zk_ref, zk_null, zk_none, zk_long, zisR_r, zisR_n, zcl_int, zcl_ref, zcl_null, zpush_s, zpush_n, zbs, zbn, true_or, or_true, not_false_eq_true, not_true_eq_false, ↓reduceIte, and_self, and_true, true_and, ie_0_1, ie_0_2, ie_0_3, ie_0_4, ie_0_5, ie_0_6, ie_0_7, ie_1_0, ie_1_2, ie_1_3, ie_1_4, ie_1_5, ie_1_6, ie_1_7, ie_2_0, ie_2_1, ie_2_3, ie_2_4, ie_2_5, ie_2_6, ie_2_7, ie_3_0, ie_3_1, ie_3_2, ie_3_4, ie_3_5, ie_3_6, ie_3_7, ie_4_0, ie_4_1, ie_4_2, ie_4_3, ie_4_5, ie_4_6, ie_4_7, ie_5_0, ie_5_1, ie_5_2, ie_5_3, ie_5_4, ie_5_6, ie_5_7, ie_6_0, ie_6_1, ie_6_2, ie_6_3, ie_6_4, ie_6_5, ie_6_7, ie_7_0, ie_7_1, ie_7_2, ie_7_3, ie_7_4, ie_7_5, ie_7_6, zt_50, t]
      · rw [if_neg (fun h => h.2.elim h2 h3)]
        rw [h1] at t ⊢
        simp only [e_6037_176, e_6037_177, e_6037_178, e_6037_181, e_6037_183, e_6037_184, e_6037_187, e_6037_189, e_6037_190, e_6037_197, e_6037_198, e_6037_199, e_6037_200, e_6037_202, e_6037_205, zk_int, zk_ref, zk_null, zk_none, zk_long, zisR_r, zisR_n, zcl_int, zcl_ref, zcl_null, zpush_s, zpush_n, zbs, zbn, true_or, or_true, not_false_eq_true, not_true_eq_false, ↓reduceIte, and_self, and_true, true_and, ie_0_1, ie_0_2, ie_0_3, ie_0_4, ie_0_5, ie_0_6, ie_0_7, ie_1_0, ie_1_2, ie_1_3, ie_1_4, ie_1_5, ie_1_6, ie_1_7, ie_2_0, ie_2_1, ie_2_3, ie_2_4, ie_2_5, ie_2_6, ie_2_7, ie_3_0, ie_3_1, ie_3_2, ie_3_4, ie_3_5, ie_3_6, ie_3_7, ie_4_0, ie_4_1, ie_4_2, ie_4_3, ie_4_5, ie_4_6, ie_4_7, ie_5_0, ie_5_1, ie_5_2, ie_5_3, ie_5_4, ie_5_6, ie_5_7, ie_6_0, ie_6_1, ie_6_2, ie_6_3, ie_6_4, ie_6_5, ie_6_7, ie_7_0, ie_7_1, ie_7_2, ie_7_3, ie_7_4, ie_7_5, ie_7_6, zt_50, t, h2, h3]
  · rw [if_neg (fun h => h1 h.1)]
    simp only [e_6037_176, e_6037_177, e_6037_178, e_6037_197, e_6037_198, e_6037_199, e_6037_200, e_6037_202, e_6037_205, zk_int, zk_ref, zk_null, zk_none, zk_long, zisR_r, zisR_n, zcl_int, zcl_ref, zcl_null, zpush_s, zpush_n, zbs, zbn, true_or, or_true, not_false_eq_true, not_true_eq_false, ↓reduceIte, and_self, and_true, true_and, ie_0_1, ie_0_2, ie_0_3, ie_0_4, ie_0_5, ie_0_6, ie_0_7, ie_1_0, ie_1_2, ie_1_3, ie_1_4, ie_1_5, ie_1_6, ie_1_7, ie_2_0, ie_2_1, ie_2_3, ie_2_4, ie_2_5, ie_2_6, ie_2_7, ie_3_0, ie_3_1, ie_3_2, ie_3_4, ie_3_5, ie_3_6, ie_3_7, ie_4_0, ie_4_1, ie_4_2, ie_4_3, ie_4_5, ie_4_6, ie_4_7, ie_5_0, ie_5_1, ie_5_2, ie_5_3, ie_5_4, ie_5_6, ie_5_7, ie_6_0, ie_6_1, ie_6_2, ie_6_3, ie_6_4, ie_6_5, ie_6_7, ie_7_0, ie_7_1, ie_7_2, ie_7_3, ie_7_4, ie_7_5, ie_7_6, zt_50, t, h1]
theorem m_nums (E0 : mE X0 j z p0 L) {i : Nat} {o1 : Int32} (hi : i < 5) : ∀ r k p N X, k + (r + 1) = rCnt i → p + 4 * (r + 1) < 790 → L p = 32 → mI X0 X n m T V G → X.1 50 30 = nI (p + 1) → (∀ q, q < k → X.1 71 q = N q) →
    ∃ X', mI X0 X' n m T V G ∧ ((rNs L m i (r + 1) k p N).1 = true → den (d + 2) 6037 175 [some (.ref 50), some (.int o1), some (.int (nI i)), some (.int (nI (rCnt i))), some (.int (nI k))] [] X = den (d + 2) 6037 230 [some (.ref 50), some (.int o1), some (.int (nI i)), some (.int (nI (rCnt i))), some (.int (nI (rCnt i)))] [] X' ∧ X'.1 50 30 = nI (rNs L m i (r + 1) k p N).2.1 ∧ ∀ q, q < rCnt i → X'.1 71 q = (rNs L m i (r + 1) k p N).2.2.2 q) ∧
      ((rNs L m i (r + 1) k p N).1 = false → den (d + 2) 6037 175 [some (.ref 50), some (.int o1), some (.int (nI i)), some (.int (nI (rCnt i))), some (.int (nI k))] [] X = some (some (.int 0), X') ∧ X'.1 50 33 = nI (rNs L m i (r + 1) k p N).2.2.1) := by
  have h5 := rCnt_5 (i := i)
  intro r
  induction r with
  | zero =>
    intro k p N X hk hp hL I h30 h71
    have E := mI_E (q := p + 1) E0 I.1 h30
    have e : rNs L m i (0 + 1) k p N = if L p = 32 then (if (rNb L (p + 1)).1 = p + 1 ∨ ¬ (rLo i k ≤ (rNb L (p + 1)).2 ∧ (rNb L (p + 1)).2 ≤ rHi m i k) then (false, (rNb L (p + 1)).1, p + 1, N) else (true, (rNb L (p + 1)).1, 0, upd N k (rNb L (p + 1)).2)) else (false, p, p, N) := rfl
    rw [if_pos hL] at e
    have st := m_it_num (d := d) (o1 := o1) (c := nI (rCnt i)) I.2.2.2.1 hi (by omega : k < rCnt i)
    by_cases c1 : (rNb L (p + 1)).1 = p + 1
    · rw [if_pos (Or.inl c1)] at e
      have q := m_num_0 (d := d) (lo := rLo i k) (hi := rHi m i k) E (by omega) c1
      rw [q] at st
      refine ⟨_, mI_50 (mI_50 I (k := 32) (v := 0) (by omega)) (k := 33) (v := nI (p + 1)) (by omega), fun h => ?_, fun _ => ⟨?_, ?_⟩⟩
      · rw [e] at h; cases h
      · rw [st]
        simp only [e_6037_208, e_6037_211, e_6037_212, zk_int, zk_ref, zk_null, zk_none, zk_long, zisR_r, zisR_n, zcl_int, zcl_ref, zcl_null, zpush_s, zpush_n, zbs, zbn, true_or, or_true, not_false_eq_true, not_true_eq_false, ↓reduceIte, and_self, and_true, true_and]
      · rw [e, zi_s, u_eq]
    · have q := m_num (d := d) (lo := rLo i k) (hi := rHi m i k) E (by omega) c1
      by_cases c2 : rLo i k ≤ (rNb L (p + 1)).2 ∧ (rNb L (p + 1)).2 ≤ rHi m i k
      · rw [if_neg (fun h => h.elim c1 (fun g => g c2))] at e
        rw [if_pos c2] at q
        rw [q] at st
        have hz := zis_nI (j := k) (n := 5) (by omega) (by decide)
        have hc := nI_clamp (n := k) (by omega)
        have v32 : (mN X (rNb L (p + 1)).1 (rNb L (p + 1)).2).1 50 32 = (rNb L (p + 1)).2 := by rw [mN_50, u_eq]
        have ek : k + 1 = rCnt i := by omega
        have g1 : (nI (rCnt i) ≤ nI (k + 1)) = True := nI_le_n (by omega) (by omega)
        refine ⟨_, mI_71 (k := k) (v := (rNb L (p + 1)).2) (mI_N (q := (rNb L (p + 1)).1) (v := (rNb L (p + 1)).2) I), fun _ => ⟨?_, ?_, fun a ha => ?_⟩, fun h => ?_⟩
        · rw [st]
          simp only [e_6037_208, e_6037_213, e_6037_214, e_6037_217, e_6037_219, e_6037_220, e_6037_223, e_6037_224, e_6037_227, e_6037_114, e_6037_116, e_6037_117, zk_int, zk_ref, zk_null, zk_none, zk_long, zisR_r, zisR_n, zcl_int, zcl_ref, zcl_null, zpush_s, zpush_n, zbs, zbn, true_or, or_true, not_false_eq_true, not_true_eq_false, ↓reduceIte, and_self, and_true, true_and, ie_0_1, ie_0_2, ie_0_3, ie_0_4, ie_0_5, ie_0_6, ie_0_7, ie_1_0, ie_1_2, ie_1_3, ie_1_4, ie_1_5, ie_1_6, ie_1_7, ie_2_0, ie_2_1, ie_2_3, ie_2_4, ie_2_5, ie_2_6, ie_2_7, ie_3_0, ie_3_1, ie_3_2, ie_3_4, ie_3_5, ie_3_6, ie_3_7, ie_4_0, ie_4_1, ie_4_2, ie_4_3, ie_4_5, ie_4_6, ie_4_7, ie_5_0, ie_5_1, ie_5_2, ie_5_3, ie_5_4, ie_5_6, ie_5_7, ie_6_0, ie_6_1, ie_6_2, ie_6_3, ie_6_4, ie_6_5, ie_6_7, ie_7_0, ie_7_1, ie_7_2, ie_7_3, ie_7_4, ie_7_5, ie_7_6, zt_50, zr_50_28, zt_71, zn_71, zo_71, zl_71, zq_71, hz, hc, v32, nI_1, g1]
          rw [ek]
        · rw [e, zi_n _ (by decide), mN_50, u_ne (by decide), u_eq]
        · rw [e, zi_s]
          show _ = upd N k (rNb L (p + 1)).2 a
          by_cases hak : a = k
          · rw [hak, u_eq, u_eq]
          · rw [u_ne hak, u_ne hak, mN_n (by decide)]
            exact h71 a (by omega)
        · rw [e] at h; cases h
      · rw [if_pos (Or.inr c2)] at e
        rw [if_neg c2] at q
        rw [q] at st
        refine ⟨_, mI_50 (mI_N (q := (rNb L (p + 1)).1) (v := (rNb L (p + 1)).2) I) (k := 33) (v := nI (p + 1)) (by omega), fun h => ?_, fun _ => ⟨?_, ?_⟩⟩
        · rw [e] at h; cases h
        · rw [st]
          simp only [e_6037_208, e_6037_211, e_6037_212, zk_int, zk_ref, zk_null, zk_none, zk_long, zisR_r, zisR_n, zcl_int, zcl_ref, zcl_null, zpush_s, zpush_n, zbs, zbn, true_or, or_true, not_false_eq_true, not_true_eq_false, ↓reduceIte, and_self, and_true, true_and]
        · rw [e, zi_s, u_eq]
  | succ r ih =>
    intro k p N X hk hp hL I h30 h71
    have E := mI_E (q := p + 1) E0 I.1 h30
    have e : rNs L m i (r + 1 + 1) k p N = if L p = 32 then (if (rNb L (p + 1)).1 = p + 1 ∨ ¬ (rLo i k ≤ (rNb L (p + 1)).2 ∧ (rNb L (p + 1)).2 ≤ rHi m i k) then (false, (rNb L (p + 1)).1, p + 1, N) else rNs L m i (r + 1) (k + 1) (rNb L (p + 1)).1 (upd N k (rNb L (p + 1)).2)) else (false, p, p, N) := rfl
    rw [if_pos hL] at e
    have st := m_it_num (d := d) (o1 := o1) (c := nI (rCnt i)) I.2.2.2.1 hi (by omega : k < rCnt i)
    have nb := rNb_b L (p + 1)
    by_cases c1 : (rNb L (p + 1)).1 = p + 1
    · rw [if_pos (Or.inl c1)] at e
      have q := m_num_0 (d := d) (lo := rLo i k) (hi := rHi m i k) E (by omega) c1
      rw [q] at st
      refine ⟨_, mI_50 (mI_50 I (k := 32) (v := 0) (by omega)) (k := 33) (v := nI (p + 1)) (by omega), fun h => ?_, fun _ => ⟨?_, ?_⟩⟩
      · rw [e] at h; cases h
      · rw [st]
        simp only [e_6037_208, e_6037_211, e_6037_212, zk_int, zk_ref, zk_null, zk_none, zk_long, zisR_r, zisR_n, zcl_int, zcl_ref, zcl_null, zpush_s, zpush_n, zbs, zbn, true_or, or_true, not_false_eq_true, not_true_eq_false, ↓reduceIte, and_self, and_true, true_and]
      · rw [e, zi_s, u_eq]
    · have q := m_num (d := d) (lo := rLo i k) (hi := rHi m i k) E (by omega) c1
      by_cases c2 : rLo i k ≤ (rNb L (p + 1)).2 ∧ (rNb L (p + 1)).2 ≤ rHi m i k
      · rw [if_neg (fun h => h.elim c1 (fun g => g c2))] at e
        rw [if_pos c2] at q
        rw [q] at st
        have hz := zis_nI (j := k) (n := 5) (by omega) (by decide)
        have hc := nI_clamp (n := k) (by omega)
        have v32 : (mN X (rNb L (p + 1)).1 (rNb L (p + 1)).2).1 50 32 = (rNb L (p + 1)).2 := by rw [mN_50, u_eq]
        have g1 : (nI (rCnt i) ≤ nI (k + 1)) = False := nI_ge_f (by omega) (by omega)
        have g0 : (nI (k + 1) ≤ 0) = False := nI_nle0 (by omega) (by omega)
        have Y := mI_71 (k := k) (v := (rNb L (p + 1)).2) (mI_N (q := (rNb L (p + 1)).1) (v := (rNb L (p + 1)).2) I)
        have y30 : (zui (mN X (rNb L (p + 1)).1 (rNb L (p + 1)).2) 71 k (rNb L (p + 1)).2).1 50 30 = nI (rNb L (p + 1)).1 := by rw [zi_n _ (by decide), mN_50, u_ne (by decide), u_eq]
        have EY := mI_E (q := (rNb L (p + 1)).1) E0 Y.1 y30
        have y71 : ∀ a, a < k + 1 → (zui (mN X (rNb L (p + 1)).1 (rNb L (p + 1)).2) 71 k (rNb L (p + 1)).2).1 71 a = upd N k (rNb L (p + 1)).2 a := fun a ha => by
          rw [zi_s]
          by_cases hak : a = k
          · rw [hak, u_eq, u_eq]
          · rw [u_ne hak, u_ne hak, mN_n (by decide)]
            exact h71 a (by omega)
        have st2 : den (d + 2) 6037 175 [some (.ref 50), some (.int o1), some (.int (nI i)), some (.int (nI (rCnt i))), some (.int (nI k))] [] X = den (d + 2) 6037 125 [some (.ref 50), some (.int o1), some (.int (nI i)), some (.int (nI (rCnt i))), some (.int (nI (k + 1)))] [] (zui (mN X (rNb L (p + 1)).1 (rNb L (p + 1)).2) 71 k (rNb L (p + 1)).2) := by
          rw [st]
          simp only [e_6037_208, e_6037_213, e_6037_214, e_6037_217, e_6037_219, e_6037_220, e_6037_223, e_6037_224, e_6037_227, e_6037_114, e_6037_116, e_6037_117, e_6037_120, e_6037_122, zk_int, zk_ref, zk_null, zk_none, zk_long, zisR_r, zisR_n, zcl_int, zcl_ref, zcl_null, zpush_s, zpush_n, zbs, zbn, true_or, or_true, not_false_eq_true, not_true_eq_false, ↓reduceIte, and_self, and_true, true_and, ie_0_1, ie_0_2, ie_0_3, ie_0_4, ie_0_5, ie_0_6, ie_0_7, ie_1_0, ie_1_2, ie_1_3, ie_1_4, ie_1_5, ie_1_6, ie_1_7, ie_2_0, ie_2_1, ie_2_3, ie_2_4, ie_2_5, ie_2_6, ie_2_7, ie_3_0, ie_3_1, ie_3_2, ie_3_4, ie_3_5, ie_3_6, ie_3_7, ie_4_0, ie_4_1, ie_4_2, ie_4_3, ie_4_5, ie_4_6, ie_4_7, ie_5_0, ie_5_1, ie_5_2, ie_5_3, ie_5_4, ie_5_6, ie_5_7, ie_6_0, ie_6_1, ie_6_2, ie_6_3, ie_6_4, ie_6_5, ie_6_7, ie_7_0, ie_7_1, ie_7_2, ie_7_3, ie_7_4, ie_7_5, ie_7_6, zt_50, zr_50_28, zt_71, zn_71, zo_71, zl_71, zq_71, hz, hc, v32, nI_1, g1, g0]
        rw [st2, e]
        generalize zui (mN X (rNb L (p + 1)).1 (rNb L (p + 1)).2) 71 k (rNb L (p + 1)).2 = YY at Y y30 EY y71
        obtain ⟨e1, e2, e3, e4, e5, e6, e7, e8⟩ := id EY
        generalize hp2 : (rNb L (p + 1)).1 = p2 at *
        by_cases hL2 : L p2 = 32
        · have hpz : p2 < z := by
            rcases Nat.lt_or_ge p2 z with h | h
            · exact h
            · rw [e5 p2 h] at hL2
              exact absurd hL2 (by decide)
          have l1 := nI_ge_f hpz (by omega)
          have hz2 := zis_nI (j := 160 * j + p2) (n := 1280) (by omega) (by decide)
          have hc2 := nI_clamp (n := 160 * j + p2) (by omega)
          have v2 := (e4 p2 hpz).trans hL2
          have go : den (d + 2) 6037 125 [some (.ref 50), some (.int o1), some (.int (nI i)), some (.int (nI (rCnt i))), some (.int (nI (k + 1)))] [] YY = den (d + 2) 6037 175 [some (.ref 50), some (.int o1), some (.int (nI i)), some (.int (nI (rCnt i))), some (.int (nI (k + 1)))] [] (zui YY 50 30 (nI (p2 + 1))) := by
            rw [e_6037_125 zisR_r]
            simp only [e_6037_126, e_6037_129, e_6037_130, e_6037_133, e_6037_136, e_6037_137, e_6037_140, e_6037_141, e_6037_144, e_6037_145, e_6037_148, e_6037_149, e_6037_150, e_6037_151, e_6037_153, e_6037_165, e_6037_166, e_6037_167, e_6037_170, e_6037_171, e_6037_172, zk_int, zk_ref, zk_null, zk_none, zk_long, zisR_r, zisR_n, zcl_int, zcl_ref, zcl_null, zpush_s, zpush_n, zbs, zbn, true_or, or_true, not_false_eq_true, not_true_eq_false, ↓reduceIte, and_self, and_true, true_and, ie_0_1, ie_0_2, ie_0_3, ie_0_4, ie_0_5, ie_0_6, ie_0_7, ie_1_0, ie_1_2, ie_1_3, ie_1_4, ie_1_5, ie_1_6, ie_1_7, ie_2_0, ie_2_1, ie_2_3, ie_2_4, ie_2_5, ie_2_6, ie_2_7, ie_3_0, ie_3_1, ie_3_2, ie_3_4, ie_3_5, ie_3_6, ie_3_7, ie_4_0, ie_4_1, ie_4_2, ie_4_3, ie_4_5, ie_4_6, ie_4_7, ie_5_0, ie_5_1, ie_5_2, ie_5_3, ie_5_4, ie_5_6, ie_5_7, ie_6_0, ie_6_1, ie_6_2, ie_6_3, ie_6_4, ie_6_5, ie_6_7, ie_7_0, ie_7_1, ie_7_2, ie_7_3, ie_7_4, ie_7_5, ie_7_6, zt_50, zr_50_25, zt_68, zn_68, zq_68, e1, e2, e3, l1, nI_add, hz2, hc2, v2, nI_1]
          obtain ⟨X', I', t1, t2⟩ := ih (k + 1) p2 (upd N k (rNb L (p + 1)).2) (zui YY 50 30 (nI (p2 + 1))) (by omega) (by omega) hL2 (mI_50 Y (by omega)) (by rw [zi_s, u_eq]) (fun q hq => by rw [zi_n _ (by decide)]; exact y71 q hq)
          rw [go]
          exact ⟨X', I', t1, t2⟩
        · have er : rNs L m i (r + 1) (k + 1) p2 (upd N k (rNb L (p + 1)).2) = (false, p2, p2, upd N k (rNb L (p + 1)).2) := if_neg hL2
          rw [er]
          have wr := m_wrong (d := d + 1) (X := YY) (x := nI p2)
          refine ⟨_, mI_50 Y (k := 33) (v := nI p2) (by omega), fun h => absurd h Bool.false_ne_true, fun _ => ⟨?_, ?_⟩⟩
          · rw [e_6037_125 zisR_r]
            by_cases hpz : p2 < z
            · have l1 := nI_ge_f hpz (by omega)
              have hz2 := zis_nI (j := 160 * j + p2) (n := 1280) (by omega) (by decide)
              have hc2 := nI_clamp (n := 160 * j + p2) (by omega)
              have v2 := e4 p2 hpz
              simp only [e_6037_126, e_6037_129, e_6037_130, e_6037_133, e_6037_136, e_6037_137, e_6037_140, e_6037_141, e_6037_144, e_6037_145, e_6037_148, e_6037_149, e_6037_150, e_6037_151, e_6037_153, e_6037_156, e_6037_157, e_6037_158, e_6037_161, e_6037_164, zk_int, zk_ref, zk_null, zk_none, zk_long, zisR_r, zisR_n, zcl_int, zcl_ref, zcl_null, zpush_s, zpush_n, zbs, zbn, true_or, or_true, not_false_eq_true, not_true_eq_false, ↓reduceIte, and_self, and_true, true_and, ie_0_1, ie_0_2, ie_0_3, ie_0_4, ie_0_5, ie_0_6, ie_0_7, ie_1_0, ie_1_2, ie_1_3, ie_1_4, ie_1_5, ie_1_6, ie_1_7, ie_2_0, ie_2_1, ie_2_3, ie_2_4, ie_2_5, ie_2_6, ie_2_7, ie_3_0, ie_3_1, ie_3_2, ie_3_4, ie_3_5, ie_3_6, ie_3_7, ie_4_0, ie_4_1, ie_4_2, ie_4_3, ie_4_5, ie_4_6, ie_4_7, ie_5_0, ie_5_1, ie_5_2, ie_5_3, ie_5_4, ie_5_6, ie_5_7, ie_6_0, ie_6_1, ie_6_2, ie_6_3, ie_6_4, ie_6_5, ie_6_7, ie_7_0, ie_7_1, ie_7_2, ie_7_3, ie_7_4, ie_7_5, ie_7_6, zt_50, zr_50_25, zt_68, zn_68, zq_68, e1, e2, e3, l1, nI_add, hz2, hc2, v2, hL2, wr]
            · have l1 := nI_le_n (a := z) (b := p2) (by omega) (by omega)
              simp only [e_6037_126, e_6037_129, e_6037_130, e_6037_133, e_6037_156, e_6037_157, e_6037_158, e_6037_161, e_6037_164, zk_int, zk_ref, zk_null, zk_none, zk_long, zisR_r, zisR_n, zcl_int, zcl_ref, zcl_null, zpush_s, zpush_n, zbs, zbn, true_or, or_true, not_false_eq_true, not_true_eq_false, ↓reduceIte, and_self, and_true, true_and, ie_0_1, ie_0_2, ie_0_3, ie_0_4, ie_0_5, ie_0_6, ie_0_7, ie_1_0, ie_1_2, ie_1_3, ie_1_4, ie_1_5, ie_1_6, ie_1_7, ie_2_0, ie_2_1, ie_2_3, ie_2_4, ie_2_5, ie_2_6, ie_2_7, ie_3_0, ie_3_1, ie_3_2, ie_3_4, ie_3_5, ie_3_6, ie_3_7, ie_4_0, ie_4_1, ie_4_2, ie_4_3, ie_4_5, ie_4_6, ie_4_7, ie_5_0, ie_5_1, ie_5_2, ie_5_3, ie_5_4, ie_5_6, ie_5_7, ie_6_0, ie_6_1, ie_6_2, ie_6_3, ie_6_4, ie_6_5, ie_6_7, ie_7_0, ie_7_1, ie_7_2, ie_7_3, ie_7_4, ie_7_5, ie_7_6, zt_50, e2, e3, l1, wr]
          · rw [zi_s, u_eq]
      · rw [if_pos (Or.inr c2)] at e
        rw [if_neg c2] at q
        rw [q] at st
        refine ⟨_, mI_50 (mI_N (q := (rNb L (p + 1)).1) (v := (rNb L (p + 1)).2) I) (k := 33) (v := nI (p + 1)) (by omega), fun h => ?_, fun _ => ⟨?_, ?_⟩⟩
        · rw [e] at h; cases h
        · rw [st]
          simp only [e_6037_208, e_6037_211, e_6037_212, zk_int, zk_ref, zk_null, zk_none, zk_long, zisR_r, zisR_n, zcl_int, zcl_ref, zcl_null, zpush_s, zpush_n, zbs, zbn, true_or, or_true, not_false_eq_true, not_true_eq_false, ↓reduceIte, and_self, and_true, true_and]
        · rw [e, zi_s, u_eq]
end QC
