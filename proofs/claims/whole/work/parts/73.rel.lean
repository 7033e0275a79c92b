def zKa (a : Nat) : Prop := a < 5 ∨ (6 ≤ a ∧ a ≤ 9) ∨ a = 11 ∨ a = 12 ∨ (33 ≤ a ∧ a < 50) ∨ (51 ≤ a ∧ a ≤ 68) ∨ a = 70 ∨ a = 73 ∨ a = 79 ∨ a = 998 ∨ a = 999
def zKp (w w2 : zM) : Prop := (∀ a, zKa a → w2.1 a = w.1 a) ∧ (∀ k, (k ≤ 7 ∨ k = 46 ∨ k = 47) → w2.1 50 k = w.1 50 k) ∧ w2.1 25 3 = w.1 25 3 ∧ (∀ a, a ≠ 69 → w2.2 a = w.2 a) ∧ (zHz w 1 → zHz w 14 → zHz w2 14) ∧ (zHz w 26 → zHz w2 26)
theorem zHz_k {w w2 : zM} {h : Nat} (k : ∀ a, h ≤ a → a ≤ h + 3 → w2.1 a = w.1 a) (H : zHz w h) : zHz w2 h := by
  unfold zHz at H ⊢
  rw [k h (by omega) (by omega), k (h + 1) (by omega) (by omega), k (h + 2) (by omega) (by omega), k (h + 3) (by omega) (by omega)]
  exact H
theorem zKp_r (w : zM) : zKp w w := ⟨fun _ _ => rfl, fun _ _ => rfl, rfl, fun _ _ => rfl, fun _ h => h, fun h => h⟩
theorem zKp_t {w w1 w2 : zM} (A : zKp w w1) (B : zKp w1 w2) : zKp w w2 := by
  obtain ⟨a1, a2, a3, a4, a5, a6⟩ := A
  obtain ⟨b1, b2, b3, b4, b5, b6⟩ := B
  refine ⟨fun a h => (b1 a h).trans (a1 a h), fun k h => (b2 k h).trans (a2 k h), b3.trans a3, fun a h => (b4 a h).trans (a4 a h), fun h1 h14 => b5 ?_ (a5 h1 h14), fun h => b6 (a6 h)⟩
  refine zHz_k (fun a g1 g2 => a1 a ?_) h1
  unfold zKa
  omega
theorem zKp_A {w : zM} {a : Nat} {f : Nat → Int32} (h : ¬ zKa a) (h14 : a < 14 ∨ 17 < a) (h25 : a < 25 ∨ 29 < a) (h50 : a ≠ 50) : zKp w (zuA w a f) := by
  refine ⟨fun b hb => zA_n _ _ (fun e => h (e ▸ hb)), fun k _ => by rw [zA_n _ _ (by omega)], by rw [zA_n _ _ (by omega)], fun _ _ => rfl, fun _ H => zHz_k (fun b g1 g2 => zA_n _ _ (by omega)) H, fun H => zHz_k (fun b g1 g2 => zA_n _ _ (by omega)) H⟩
theorem zKp_50 {w : zM} {F : Nat → Int32} (h : ∀ k, (k ≤ 7 ∨ k = 46 ∨ k = 47) → F k = w.1 50 k) : zKp w (zuA w 50 F) := by
  refine ⟨fun b hb => zA_n _ _ (by unfold zKa at hb; omega), fun k hk => by rw [zA_s]; exact h k hk, by rw [zA_n _ _ (by omega)], fun _ _ => rfl, fun _ H => zHz_k (fun b g1 g2 => zA_n _ _ (by omega)) H, fun H => zHz_k (fun b g1 g2 => zA_n _ _ (by omega)) H⟩
theorem zKp_25 {w : zM} {F : Nat → Int32} (h : F 3 = w.1 25 3) : zKp w (zuA w 25 F) := by
  refine ⟨fun b hb => zA_n _ _ (by unfold zKa at hb; omega), fun k hk => by rw [zA_n _ _ (by omega)], by rw [zA_s]; exact h, fun _ _ => rfl, fun _ H => zHz_k (fun b g1 g2 => zA_n _ _ (by omega)) H, fun H => zHz_k (fun b g1 g2 => zA_n _ _ (by omega)) H⟩
theorem zKp_69 {w : zM} {F : Nat → Int64} : zKp w (zuB w 69 F) :=
  ⟨fun _ _ => rfl, fun _ _ => rfl, rfl, fun a h => zB_n _ _ h, fun _ h => h, fun h => h⟩
theorem zKp_O {w : zM} {F T V G gv : Nat → Int32} (h : zHz w 1 → (∀ k, 40 ≤ k → T k = 0) ∧ (∀ k, 24 ≤ k → V k = 0) ∧ (∀ k, 5 ≤ k → G k = 0) ∧ (∀ k, k < 3 ∨ 8 ≤ k → F k = 0)) : zKp w (zO w F T V G gv) := by
  refine ⟨fun b hb => zO_n _ _ _ _ _ _ (by unfold zKa at hb; omega), fun k _ => by rw [zO_n _ _ _ _ _ _ (by omega)], by rw [zO_n _ _ _ _ _ _ (by omega)], fun _ _ => rfl, fun H _ => ?_, fun H => zHz_k (fun b g1 g2 => zO_n _ _ _ _ _ _ (by omega)) H⟩
  unfold zHz
  rw [zO_15, zO_16, zO_17, zO_14]
  exact h H
def rA (w : zM) (n m : Nat) : Prop := zHc w 1 n m ∧ zMc w (w.1 2) (w.1 3) (w.1 4) n m ∧ (∀ x, x < m → zBt (w.1 3 (6 * x + 0)) 0 6) ∧ w.1 50 4 = w.1 1 5 ∧ w.1 50 5 = w.1 1 6 ∧ w.1 50 6 = w.1 1 7
def zKt (K T V G F : Nat → Int32) (n m : Nat) : Prop :=
  (∀ t, t < 8 → K t = T (5 * t + 0) ∧ K (8 + t) = T (5 * t + 1) ∧ K (16 + t) = T (5 * t + 2) ∧ K (24 + t) = T (5 * t + 3) ∧ K (32 + t) = T (5 * t + 4)) ∧
  (∀ x, x < 4 → K (40 + x) = V (6 * x + 0) ∧ K (44 + x) = V (6 * x + 1) ∧ K (48 + x) = V (6 * x + 2) ∧ K (52 + x) = V (6 * x + 3) ∧ K (56 + x) = V (6 * x + 4) ∧ K (60 + x) = V (6 * x + 5)) ∧
  K 64 = G 2 ∧ K 65 = G 3 ∧ K 66 = G 4 ∧ K 67 = nI n ∧ K 68 = nI m ∧ K 69 = G 0 ∧ K 70 = G 1 ∧ K 71 = F 5 ∧ K 72 = F 6 ∧ K 73 = F 7 ∧ F 3 = nI n ∧ F 4 = nI m ∧ zRg T V G n m ∧ (∀ x, x < m → zBt (V (6 * x + 0)) 0 6)
def rI (w : zM) : Prop := w.1 0 7 = w.1 50 47 ∧ (w.1 0 7 = 0 ∨ (w.1 0 7 = 1 ∧ ∃ n m, zKt (w.1 73) (w.1 7) (w.1 8) (w.1 9) (w.1 6) n m))
def rSj (w : zM) (n j : Nat) : Prop :=
  (w.1 64 j = 0 ∧ w.1 (34 + 2 * j) 1 = -1) ∨
  (w.1 64 j = 1 ∧ ∃ s z, s < 4 ∧ z ≤ 160 ∧ w.1 65 j = nI s ∧ w.1 (34 + 2 * j) 1 = nI (100 + s) ∧ w.1 (34 + 2 * j) 2 = nI z ∧ w.1 66 j = nI z ∧ ∀ i, i < z → w.2 68 (160 * j + i) = w.2 (34 + 2 * j + 1) i ∧ sLow (nI s) (w.2 (34 + 2 * j + 1) i) = w.2 (34 + 2 * j + 1) i) ∨
  (w.1 64 j = 2 ∧ ∃ t, t < n ∧ w.1 67 j = nI t ∧ w.1 (34 + 2 * j) 1 = nI t)
def rF (w : zM) : Prop := ∀ k, k < 8 → w.1 33 k = w.1 51 k
def rC (w : zM) : Prop := w.1 11 1 = w.1 50 46 ∧ ∃ k, k < 100 ∧ w.1 11 1 = nI k ∧ ∀ i, i < k → i < 20 → w.1 12 i = w.1 79 i
def zWd (i : Nat) : Int32 := ([119, 97, 105, 116, 101, 114, 32, 0, 116, 97, 98, 108, 101, 32, 0, 115, 104, 97, 114, 105, 110, 103, 32, 0, 97, 100, 100, 101, 100, 32, 0, 110, 117, 109, 98, 101, 114, 115, 32, 0] : List Int32).getD i 0
def rW (w : zM) (S : Nat → Int32) (L : Int32) : Prop := (∀ i, i < 40 → w.1 70 i = zWd i) ∧ w.1 998 0 = L ∧ w.1 999 = S
def rZ (w : zM) : Prop := zHz w 1 ∧ zHz w 6 ∧ zHz w 14 ∧ zHz w 26
def zRl (w : zM) (S : Nat → Int32) (L : Int32) (n m : Nat) : Prop := rA w n m ∧ rI w ∧ (∀ j, j < 8 → rSj w n j) ∧ rF w ∧ w.1 25 3 = w.1 50 7 ∧ rC w ∧ rW w S L ∧ rZ w
section RK
variable {w w2 : zM} {n m : Nat}
theorem zHc_k (k : w2.1 1 = w.1 1) (C : zHc w 1 n m) : zHc w2 1 n m := by
  unfold zHc at C ⊢
  rw [k]
  exact C
theorem rA_k (A : rA w n m) (k1 : w2.1 1 = w.1 1) (k2 : w2.1 2 = w.1 2) (k3 : w2.1 3 = w.1 3) (k4 : w2.1 4 = w.1 4) (k50 : ∀ k, k ≤ 6 → w2.1 50 k = w.1 50 k) (k : ∀ a, 52 ≤ a → a ≤ 63 → w2.1 a = w.1 a) : rA w2 n m := by
  obtain ⟨c, ⟨s, nn, r⟩, v, e4, e5, e6⟩ := A
  unfold rA
  rw [k1, k2, k3, k4, k50 4 (by decide), k50 5 (by decide), k50 6 (by decide)]
  exact ⟨zHc_k k1 c, ⟨zMs_k s ⟨k50 2 (by decide), k50 3 (by decide)⟩ k, zMn_k nn (k50 0 (by decide)) (k50 1 (by decide)), r⟩, v, e4, e5, e6⟩
theorem rI_k (A : rI w) (k0 : w2.1 0 = w.1 0) (k6 : w2.1 6 = w.1 6) (k7 : w2.1 7 = w.1 7) (k8 : w2.1 8 = w.1 8) (k9 : w2.1 9 = w.1 9) (k50 : w2.1 50 47 = w.1 50 47) (k73 : w2.1 73 = w.1 73) : rI w2 := by
  unfold rI
  rw [k0, k6, k7, k8, k9, k50, k73]
  exact A
theorem rSj_k {j : Nat} (A : rSj w n j) (k1 : w2.1 64 j = w.1 64 j) (k2 : w2.1 65 j = w.1 65 j) (k3 : w2.1 66 j = w.1 66 j) (k4 : w2.1 67 j = w.1 67 j) (k5 : w2.1 (34 + 2 * j) = w.1 (34 + 2 * j)) (k6 : ∀ i, w2.2 68 (160 * j + i) = w.2 68 (160 * j + i)) (k7 : w2.2 (34 + 2 * j + 1) = w.2 (34 + 2 * j + 1)) : rSj w2 n j := by
  unfold rSj
  rw [k1, k2, k3, k4, k5, k7]
  simp only [k6]
  exact A
theorem rSj_n {j n2 : Nat} (A : rSj w n j) (h : n ≤ n2) : rSj w n2 j := by
  rcases A with A | A | ⟨A, t, h1, h2⟩
  · exact Or.inl A
  · exact Or.inr (Or.inl A)
  · exact Or.inr (Or.inr ⟨A, t, by omega, h2⟩)
theorem rC_k (A : rC w) (k1 : w2.1 11 = w.1 11) (k2 : w2.1 12 = w.1 12) (k3 : w2.1 50 46 = w.1 50 46) (k4 : w2.1 79 = w.1 79) : rC w2 := by
  unfold rC
  rw [k1, k2, k3, k4]
  exact A
theorem rW_k {S : Nat → Int32} {L : Int32} (A : rW w S L) (k1 : w2.1 70 = w.1 70) (k2 : w2.1 998 = w.1 998) (k3 : w2.1 999 = w.1 999) : rW w2 S L := by
  unfold rW
  rw [k1, k2, k3]
  exact A
theorem zRl_k {S : Nat → Int32} {L : Int32} (A : zRl w S L n m) (K : zKp w w2) : zRl w2 S L n m := by
  obtain ⟨a, i, s, f, t, c, o, z⟩ := A
  obtain ⟨k1, k2, k3, k4, k5, k6⟩ := K
  have kk : ∀ a, zKa a → w2.1 a = w.1 a := k1
  unfold zKa at kk
  refine ⟨rA_k a (kk 1 (by omega)) (kk 2 (by omega)) (kk 3 (by omega)) (kk 4 (by omega)) (fun k h => k2 k (by omega)) (fun b h1 h2 => kk b (by omega)), rI_k i (kk 0 (by omega)) (kk 6 (by omega)) (kk 7 (by omega)) (kk 8 (by omega)) (kk 9 (by omega)) (k2 47 (by omega)) (kk 73 (by omega)), fun j hj => rSj_k (s j hj) (by rw [kk 64 (by omega)]) (by rw [kk 65 (by omega)]) (by rw [kk 66 (by omega)]) (by rw [kk 67 (by omega)]) (kk _ (by omega)) (fun i => by rw [k4 68 (by decide)]) (k4 _ (by omega)), ?_, ?_, rC_k c (kk 11 (by omega)) (kk 12 (by omega)) (k2 46 (by omega)) (kk 79 (by omega)), rW_k o (kk 70 (by omega)) (kk 998 (by omega)) (kk 999 (by omega)), ?_⟩
  · unfold rF
    rw [kk 33 (by omega), kk 51 (by omega)]
    exact f
  · rw [k3, k2 7 (by omega)]
    exact t
  · exact ⟨zHz_k (fun b h1 h2 => kk b (by omega)) z.1, zHz_k (fun b h1 h2 => kk b (by omega)) z.2.1, k5 z.1 z.2.2.1, k6 z.2.2.2⟩
end RK
def mRf (w : zM) (j : Nat) : zM := zuA w 51 (upd (w.1 51) j (w.1 51 j + 1))
theorem zRl_f {w : zM} {S : Nat → Int32} {L : Int32} {n m j : Nat} (A : zRl w S L n m) (hj : j < 8) : zRl (mRf (fRf w j) j) S L n m := by
  obtain ⟨a, i, s, f, t, c, o, z⟩ := A
  have k : ∀ a, a ≠ 33 → a ≠ 51 → (mRf (fRf w j) j).1 a = w.1 a := fun a h1 h2 => by unfold mRf fRf; rw [zA_n _ _ h2, zA_n _ _ h1]
  refine ⟨rA_k a (k 1 (by decide) (by decide)) (k 2 (by decide) (by decide)) (k 3 (by decide) (by decide)) (k 4 (by decide) (by decide)) (fun x h => by rw [k 50 (by decide) (by decide)]) (fun b h1 h2 => k b (by omega) (by omega)), rI_k i (k _ (by decide) (by decide)) (k _ (by decide) (by decide)) (k _ (by decide) (by decide)) (k _ (by decide) (by decide)) (k _ (by decide) (by decide)) (by rw [k _ (by decide) (by decide)]) (k _ (by decide) (by decide)), fun j2 hj2 => rSj_k (s j2 hj2) (by rw [k _ (by decide) (by decide)]) (by rw [k _ (by decide) (by decide)]) (by rw [k _ (by decide) (by decide)]) (by rw [k _ (by decide) (by decide)]) (k _ (by omega) (by omega)) (fun _ => rfl) rfl, ?_, ?_, rC_k c (k _ (by decide) (by decide)) (k _ (by decide) (by decide)) (by rw [k _ (by decide) (by decide)]) (k _ (by decide) (by decide)), rW_k o (k _ (by decide) (by decide)) (k _ (by decide) (by decide)) (k _ (by decide) (by decide)), ?_⟩
  · intro q hq
    unfold mRf fRf
    rw [zA_n _ _ (by decide : (33 : Nat) ≠ 51), zA_s, zA_s, zA_n _ _ (by decide : (51 : Nat) ≠ 33)]
    by_cases h : q = j
    · subst h; rw [u_eq, u_eq, f q hq]
    · rw [u_ne h, u_ne h]; exact f q hq
  · rw [k _ (by decide) (by decide), k _ (by decide) (by decide)]; exact t
  · exact ⟨zHz_k (fun b h1 h2 => k b (by omega) (by omega)) z.1, zHz_k (fun b h1 h2 => k b (by omega) (by omega)) z.2.1, zHz_k (fun b h1 h2 => k b (by omega) (by omega)) z.2.2.1, zHz_k (fun b h1 h2 => k b (by omega) (by omega)) z.2.2.2⟩
theorem m_no {d j : Nat} {w : zM} {c : Int32} (hj : j < 8) (hc : -c = nI j) : cal d 6001 [.ref 50, .int c] w = some (some (.int c), mRf w j) := by
  have hz := zis_nI hj (by decide)
  have hcl := nI_clamp (n := j) (by omega)
  simp only [c_6001, e_6001_0, e_6001_1, e_6001_4, e_6001_5, e_6001_6, e_6001_7, e_6001_8, e_6001_9, e_6001_10, e_6001_11, e_6001_12, zk_int, zk_ref, zk_null, zk_none, zk_long, zisR_r, zisR_n, zcl_int, zcl_ref, zcl_null, zpush_s, zpush_n, zbs, zbn, true_or, or_true, not_false_eq_true, not_true_eq_false, ↓reduceIte, and_self, and_true, true_and, zt_50, zr_50_8, zt_51, zn_51, zo_51, zl_51, zq_51, hc, hz, hcl, zui_A]
  rfl
theorem m_noTen {d j : Nat} {w : zM} {c : Int32} (hj : j < 8) (hc : -c = nI j) : cal d 6002 [.ref 50, .int c] w = some (some (.int (c - 10)), mRf w j) := by
  have hz := zis_nI hj (by decide)
  have hcl := nI_clamp (n := j) (by omega)
  simp only [c_6002, e_6002_0, e_6002_1, e_6002_4, e_6002_5, e_6002_6, e_6002_7, e_6002_8, e_6002_9, e_6002_10, e_6002_11, e_6002_12, e_6002_14, e_6002_15, zk_int, zk_ref, zk_null, zk_none, zk_long, zisR_r, zisR_n, zcl_int, zcl_ref, zcl_null, zpush_s, zpush_n, zbs, zbn, true_or, or_true, not_false_eq_true, not_true_eq_false, ↓reduceIte, and_self, and_true, true_and, zt_50, zr_50_8, zt_51, zn_51, zo_51, zl_51, zq_51, hc, hz, hcl, zui_A]
  rfl
theorem m_noLow {d j : Nat} {w : zM} {c : Int32} (hj : j < 8) (hc : -c = nI j) : cal d 6003 [.ref 50, .int c] w = some (some (.int (c - 1000000)), mRf w j) := by
  have hz := zis_nI hj (by decide)
  have hcl := nI_clamp (n := j) (by omega)
  simp only [c_6003, e_6003_0, e_6003_1, e_6003_4, e_6003_5, e_6003_6, e_6003_7, e_6003_8, e_6003_9, e_6003_10, e_6003_11, e_6003_12, e_6003_14, e_6003_15, zk_int, zk_ref, zk_null, zk_none, zk_long, zisR_r, zisR_n, zcl_int, zcl_ref, zcl_null, zpush_s, zpush_n, zbs, zbn, true_or, or_true, not_false_eq_true, not_true_eq_false, ↓reduceIte, and_self, and_true, true_and, zt_50, zr_50_8, zt_51, zn_51, zo_51, zl_51, zq_51, hc, hz, hcl, zui_A]
  rfl
theorem m_isShelf {d j : Nat} {w : zM} (hj : j < 8) : cal d 6004 [.ref 50, .int (nI j)] w = some (some (.int 1), w) := by
  have h0 := nI_lt0 (a := j) (by omega)
  have h1 : ((8 : Int32) ≤ nI j) = False := nI_ge_f (a := j) (b := 8) hj (by decide)
  simp only [c_6004, e_6004_0, e_6004_1, e_6004_4, e_6004_5, e_6004_7, e_6004_10, e_6004_11, e_6004_14, e_6004_15, zk_int, zk_ref, zk_null, zk_none, zk_long, zisR_r, zisR_n, zcl_int, zcl_ref, zcl_null, zpush_s, zpush_n, zbs, zbn, true_or, or_true, not_false_eq_true, not_true_eq_false, ↓reduceIte, and_self, and_true, true_and, h0, h1]
theorem m_isShelf_o {d : Nat} {w : zM} {x : Int32} (hx : x < 0 ∨ 8 ≤ x) : cal d 6004 [.ref 50, .int x] w = some (some (.int 0), w) := by
  by_cases h0 : x < 0
  · simp only [c_6004, e_6004_0, e_6004_1, e_6004_4, e_6004_5, e_6004_7, e_6004_10, e_6004_11, e_6004_14, e_6004_15, zk_int, zk_ref, zk_null, zk_none, zk_long, zisR_r, zisR_n, zcl_int, zcl_ref, zcl_null, zpush_s, zpush_n, zbs, zbn, true_or, or_true, not_false_eq_true, not_true_eq_false, ↓reduceIte, and_self, and_true, true_and, h0]
  · have h1 := hx.resolve_left h0
    simp only [c_6004, e_6004_0, e_6004_1, e_6004_4, e_6004_5, e_6004_7, e_6004_10, e_6004_11, e_6004_14, e_6004_15, zk_int, zk_ref, zk_null, zk_none, zk_long, zisR_r, zisR_n, zcl_int, zcl_ref, zcl_null, zpush_s, zpush_n, zbs, zbn, true_or, or_true, not_false_eq_true, not_true_eq_false, ↓reduceIte, and_self, and_true, true_and, h0, h1]
theorem m_isTable {d n m t : Nat} {w : zM} (C : zMn w n m) (ht : t < n) : cal d 6005 [.ref 50, .int (nI t)] w = some (some (.int 1), w) := by
  have hn := C.2.2.1
  have h0 := nI_lt0 (a := t) (by omega)
  have h1 := nI_ge_f ht (by omega)
  simp only [c_6005, e_6005_0, e_6005_1, e_6005_4, e_6005_5, e_6005_6, e_6005_9, e_6005_12, e_6005_13, e_6005_16, e_6005_17, zk_int, zk_ref, zk_null, zk_none, zk_long, zisR_r, zisR_n, zcl_int, zcl_ref, zcl_null, zpush_s, zpush_n, zbs, zbn, true_or, or_true, not_false_eq_true, not_true_eq_false, ↓reduceIte, and_self, and_true, true_and, zt_50, C.1, h0, h1]
theorem m_isTable_o {d n m : Nat} {w : zM} {x : Int32} (C : zMn w n m) (hx : x < 0 ∨ nI n ≤ x) : cal d 6005 [.ref 50, .int x] w = some (some (.int 0), w) := by
  by_cases h0 : x < 0
  · simp only [c_6005, e_6005_0, e_6005_1, e_6005_4, e_6005_5, e_6005_6, e_6005_9, e_6005_12, e_6005_13, e_6005_16, e_6005_17, zk_int, zk_ref, zk_null, zk_none, zk_long, zisR_r, zisR_n, zcl_int, zcl_ref, zcl_null, zpush_s, zpush_n, zbs, zbn, true_or, or_true, not_false_eq_true, not_true_eq_false, ↓reduceIte, and_self, and_true, true_and, h0]
  · have h1 := hx.resolve_left h0
    simp only [c_6005, e_6005_0, e_6005_1, e_6005_4, e_6005_5, e_6005_6, e_6005_9, e_6005_12, e_6005_13, e_6005_16, e_6005_17, zk_int, zk_ref, zk_null, zk_none, zk_long, zisR_r, zisR_n, zcl_int, zcl_ref, zcl_null, zpush_s, zpush_n, zbs, zbn, true_or, or_true, not_false_eq_true, not_true_eq_false, ↓reduceIte, and_self, and_true, true_and, zt_50, C.1, h0, h1]
theorem m_isWaiter {d n m t : Nat} {w : zM} (C : zMn w n m) (ht : t < m) : cal d 6006 [.ref 50, .int (nI t)] w = some (some (.int 1), w) := by
  have hn := C.2.2.2
  have h0 := nI_lt0 (a := t) (by omega)
  have h1 := nI_ge_f ht (by omega)
  simp only [c_6006, e_6006_0, e_6006_1, e_6006_4, e_6006_5, e_6006_6, e_6006_9, e_6006_12, e_6006_13, e_6006_16, e_6006_17, zk_int, zk_ref, zk_null, zk_none, zk_long, zisR_r, zisR_n, zcl_int, zcl_ref, zcl_null, zpush_s, zpush_n, zbs, zbn, true_or, or_true, not_false_eq_true, not_true_eq_false, ↓reduceIte, and_self, and_true, true_and, zt_50, C.2.1, h0, h1]
theorem m_isWaiter_o {d n m : Nat} {w : zM} {x : Int32} (C : zMn w n m) (hx : x < 0 ∨ nI m ≤ x) : cal d 6006 [.ref 50, .int x] w = some (some (.int 0), w) := by
  by_cases h0 : x < 0
  · simp only [c_6006, e_6006_0, e_6006_1, e_6006_4, e_6006_5, e_6006_6, e_6006_9, e_6006_12, e_6006_13, e_6006_16, e_6006_17, zk_int, zk_ref, zk_null, zk_none, zk_long, zisR_r, zisR_n, zcl_int, zcl_ref, zcl_null, zpush_s, zpush_n, zbs, zbn, true_or, or_true, not_false_eq_true, not_true_eq_false, ↓reduceIte, and_self, and_true, true_and, h0]
  · have h1 := hx.resolve_left h0
    simp only [c_6006, e_6006_0, e_6006_1, e_6006_4, e_6006_5, e_6006_6, e_6006_9, e_6006_12, e_6006_13, e_6006_16, e_6006_17, zk_int, zk_ref, zk_null, zk_none, zk_long, zisR_r, zisR_n, zcl_int, zcl_ref, zcl_null, zpush_s, zpush_n, zbs, zbn, true_or, or_true, not_false_eq_true, not_true_eq_false, ↓reduceIte, and_self, and_true, true_and, zt_50, C.2.1, h0, h1]
