section MJ
variable {d n m : Nat} {w : zM} {T V G : Nat → Int32}
theorem zMs_G0 {s : Int32} (A : zMs w T V G) : zMs (zuA w 50 (upd (w.1 50) 2 s)) T V (upd G 0 s) := by
  have n52 : (zuA w 50 (upd (w.1 50) 2 s)).1 52 = w.1 52 := zA_n _ _ (by decide)
  have n53 : (zuA w 50 (upd (w.1 50) 2 s)).1 53 = w.1 53 := zA_n _ _ (by decide)
  have n54 : (zuA w 50 (upd (w.1 50) 2 s)).1 54 = w.1 54 := zA_n _ _ (by decide)
  have n55 : (zuA w 50 (upd (w.1 50) 2 s)).1 55 = w.1 55 := zA_n _ _ (by decide)
  have n56 : (zuA w 50 (upd (w.1 50) 2 s)).1 56 = w.1 56 := zA_n _ _ (by decide)
  have n57 : (zuA w 50 (upd (w.1 50) 2 s)).1 57 = w.1 57 := zA_n _ _ (by decide)
  have n58 : (zuA w 50 (upd (w.1 50) 2 s)).1 58 = w.1 58 := zA_n _ _ (by decide)
  have n59 : (zuA w 50 (upd (w.1 50) 2 s)).1 59 = w.1 59 := zA_n _ _ (by decide)
  have n60 : (zuA w 50 (upd (w.1 50) 2 s)).1 60 = w.1 60 := zA_n _ _ (by decide)
  have n61 : (zuA w 50 (upd (w.1 50) 2 s)).1 61 = w.1 61 := zA_n _ _ (by decide)
  have n62 : (zuA w 50 (upd (w.1 50) 2 s)).1 62 = w.1 62 := zA_n _ _ (by decide)
  have n63 : (zuA w 50 (upd (w.1 50) 2 s)).1 63 = w.1 63 := zA_n _ _ (by decide)
  have n50 : (zuA w 50 (upd (w.1 50) 2 s)).1 50 = (upd (w.1 50) 2 s) := zA_s _ _ _
  obtain ⟨a, b, g0, g1, g2, g3, g4⟩ := A
  refine ⟨fun t ht => ?_, fun x hx => ?_, ?_, ?_, ?_, ?_, ?_⟩
  · rw [n52, n53, n54, n55, n56]; exact a t ht
  · rw [n57, n58, n59, n60, n61, n62]; exact b x hx
  · rw [n50, u_eq, u_eq]
  · rw [n50, u_ne (by decide), u_ne (by decide)]; exact g1
  · rw [n63, u_ne (by decide)]; exact g2
  · rw [n63, u_ne (by decide)]; exact g3
  · rw [n63, u_ne (by decide)]; exact g4
theorem zMs_G1 {s : Int32} (A : zMs w T V G) : zMs (zuA w 50 (upd (w.1 50) 3 s)) T V (upd G 1 s) := by
  have n52 : (zuA w 50 (upd (w.1 50) 3 s)).1 52 = w.1 52 := zA_n _ _ (by decide)
  have n53 : (zuA w 50 (upd (w.1 50) 3 s)).1 53 = w.1 53 := zA_n _ _ (by decide)
  have n54 : (zuA w 50 (upd (w.1 50) 3 s)).1 54 = w.1 54 := zA_n _ _ (by decide)
  have n55 : (zuA w 50 (upd (w.1 50) 3 s)).1 55 = w.1 55 := zA_n _ _ (by decide)
  have n56 : (zuA w 50 (upd (w.1 50) 3 s)).1 56 = w.1 56 := zA_n _ _ (by decide)
  have n57 : (zuA w 50 (upd (w.1 50) 3 s)).1 57 = w.1 57 := zA_n _ _ (by decide)
  have n58 : (zuA w 50 (upd (w.1 50) 3 s)).1 58 = w.1 58 := zA_n _ _ (by decide)
  have n59 : (zuA w 50 (upd (w.1 50) 3 s)).1 59 = w.1 59 := zA_n _ _ (by decide)
  have n60 : (zuA w 50 (upd (w.1 50) 3 s)).1 60 = w.1 60 := zA_n _ _ (by decide)
  have n61 : (zuA w 50 (upd (w.1 50) 3 s)).1 61 = w.1 61 := zA_n _ _ (by decide)
  have n62 : (zuA w 50 (upd (w.1 50) 3 s)).1 62 = w.1 62 := zA_n _ _ (by decide)
  have n63 : (zuA w 50 (upd (w.1 50) 3 s)).1 63 = w.1 63 := zA_n _ _ (by decide)
  have n50 : (zuA w 50 (upd (w.1 50) 3 s)).1 50 = (upd (w.1 50) 3 s) := zA_s _ _ _
  obtain ⟨a, b, g0, g1, g2, g3, g4⟩ := A
  refine ⟨fun t ht => ?_, fun x hx => ?_, ?_, ?_, ?_, ?_, ?_⟩
  · rw [n52, n53, n54, n55, n56]; exact a t ht
  · rw [n57, n58, n59, n60, n61, n62]; exact b x hx
  · rw [n50, u_ne (by decide), u_ne (by decide)]; exact g0
  · rw [n50, u_eq, u_eq]
  · rw [n63, u_ne (by decide)]; exact g2
  · rw [n63, u_ne (by decide)]; exact g3
  · rw [n63, u_ne (by decide)]; exact g4
theorem zRg_G0 {s : Int32} (R : zRg T V G n m) (hs : zBt s 0 3) : zRg T V (upd G 0 s) n m := by
  obtain ⟨rt, rv, g0, g1, g2, g3, g4, rn, rm⟩ := R
  refine ⟨rt, rv, ?_, ?_, ?_, ?_, ?_, rn, rm⟩
  · rw [u_eq]; exact hs
  · rw [u_ne (by decide)]; exact g1
  · rw [u_ne (by decide)]; exact g2
  · rw [u_ne (by decide)]; exact g3
  · rw [u_ne (by decide)]; exact g4
theorem zRg_G1 {s : Int32} (R : zRg T V G n m) (hs : zBt s 0 30) : zRg T V (upd G 1 s) n m := by
  obtain ⟨rt, rv, g0, g1, g2, g3, g4, rn, rm⟩ := R
  refine ⟨rt, rv, ?_, ?_, ?_, ?_, ?_, rn, rm⟩
  · rw [u_ne (by decide)]; exact g0
  · rw [u_eq]; exact hs
  · rw [u_ne (by decide)]; exact g2
  · rw [u_ne (by decide)]; exact g3
  · rw [u_ne (by decide)]; exact g4
def sTs (T e : Nat → Int32) (j : Nat) : Nat → Int32 := fun k => if k % 5 = 4 ∧ k / 5 < j then e (k / 5) else T k
theorem zMs_s {j : Nat} {e : Nat → Int32} (A : zMs w T V G) (hj : j ≤ 8) : zMs (zuA w 56 (zcpy e (w.1 56) j)) (sTs T e j) V G := by
  have n52 : (zuA w 56 (zcpy e (w.1 56) j)).1 52 = w.1 52 := zA_n _ _ (by decide)
  have n53 : (zuA w 56 (zcpy e (w.1 56) j)).1 53 = w.1 53 := zA_n _ _ (by decide)
  have n54 : (zuA w 56 (zcpy e (w.1 56) j)).1 54 = w.1 54 := zA_n _ _ (by decide)
  have n55 : (zuA w 56 (zcpy e (w.1 56) j)).1 55 = w.1 55 := zA_n _ _ (by decide)
  have n57 : (zuA w 56 (zcpy e (w.1 56) j)).1 57 = w.1 57 := zA_n _ _ (by decide)
  have n58 : (zuA w 56 (zcpy e (w.1 56) j)).1 58 = w.1 58 := zA_n _ _ (by decide)
  have n59 : (zuA w 56 (zcpy e (w.1 56) j)).1 59 = w.1 59 := zA_n _ _ (by decide)
  have n60 : (zuA w 56 (zcpy e (w.1 56) j)).1 60 = w.1 60 := zA_n _ _ (by decide)
  have n61 : (zuA w 56 (zcpy e (w.1 56) j)).1 61 = w.1 61 := zA_n _ _ (by decide)
  have n62 : (zuA w 56 (zcpy e (w.1 56) j)).1 62 = w.1 62 := zA_n _ _ (by decide)
  have n63 : (zuA w 56 (zcpy e (w.1 56) j)).1 63 = w.1 63 := zA_n _ _ (by decide)
  have n50 : (zuA w 56 (zcpy e (w.1 56) j)).1 50 = w.1 50 := zA_n _ _ (by decide)
  have n56 : (zuA w 56 (zcpy e (w.1 56) j)).1 56 = (zcpy e (w.1 56) j) := zA_s _ _ _
  obtain ⟨a, b, g⟩ := A
  refine ⟨fun x hx => ?_, fun x hx => ?_, ?_⟩
  · have h := a x hx
    rw [n52, n53, n54, n55, n56]
    refine ⟨?_, ?_, ?_, ?_, ?_⟩
    · unfold sTs; rw [if_neg (by omega)]; exact h.1
    · unfold sTs; rw [if_neg (by omega)]; exact h.2.1
    · unfold sTs; rw [if_neg (by omega)]; exact h.2.2.1
    · unfold sTs; rw [if_neg (by omega)]; exact h.2.2.2.1
    · unfold sTs zcpy
      by_cases hxj : x < j
      · rw [if_pos hxj, if_pos (by omega)]; congr 1; omega
      · rw [if_neg hxj, if_neg (by omega)]; exact h.2.2.2.2
  · rw [n57, n58, n59, n60, n61, n62]; exact b x hx
  · rw [n50, n63]; exact g
theorem zRg_s {j : Nat} {e : Nat → Int32} (R : zRg T V G n m) (he : ∀ t, t < j → ∃ y, y < m ∧ e t = nI y) : zRg (sTs T e j) V G n m := by
  obtain ⟨rt, rv, rg⟩ := R
  refine ⟨fun t ht => ?_, rv, rg⟩
  obtain ⟨h0, h1, h2, h3, h4⟩ := rt t ht
  unfold sTs
  refine ⟨?_, ?_, ?_, ?_, ?_⟩
  · rw [if_neg (by omega)]; exact h0
  · rw [if_neg (by omega)]; exact h1
  · rw [if_neg (by omega)]; exact h2
  · rw [if_neg (by omega)]; exact h3
  · by_cases hxj : t < j
    · rw [if_pos (by omega)]
      have e2 : (5 * t + 4) / 5 = t := by omega
      rw [e2]; exact he t hxj
    · rw [if_neg (by omega)]; exact h4
end MJ
theorem zor_0 {f : Nat → Int32} : ∀ n, zor f n = 0 ↔ ∀ i, i < n → f i = 0 := by
  intro n
  induction n with
  | zero => exact ⟨fun _ i hi => by omega, fun _ => rfl⟩
  | succ n ih =>
    rw [← zor_s, Int32.or_eq_zero_iff, ih]
    constructor
    · intro ⟨h1, h2⟩ i hi
      rcases Nat.lt_or_ge i n with h | h
      · exact h1 i h
      · have e : i = n := by omega
        subst e
        exact h2
    · intro h
      exact ⟨fun i hi => h i (by omega), h n (by omega)⟩
theorem shl_ne {j : Nat} (hj : j < 4) : ¬ ((1 : Int32) <<< (nI j &&& 31)) = 0 := by
  rcases (by omega : j = 0 ∨ j = 1 ∨ j = 2 ∨ j = 3) with rfl | rfl | rfl | rfl <;> decide
section MK
variable {d n m : Nat} {w : zM} {T V G : Nat → Int32}
theorem sLv_i (hm : m ≤ 4) : sLv T V G n m = 0 ↔ ∀ j, j < m → V (6 * j + 4) ≤ sShr T V G (sGv T V G) n m j := by
  unfold sLv
  rw [zor_0]
  constructor
  · intro h j hj
    have h1 := h j hj
    unfold sLvF at h1
    by_cases c : V (6 * j + 4) ≤ sShr T V G (sGv T V G) n m j
    · exact c
    · rw [if_neg c] at h1
      exact absurd h1 (shl_ne (by omega))
  · intro h j hj
    exact if_pos (h j hj)
theorem m_isContent (C : zMc w T V G n m) : (sLv T V G n m = 0 → cal (d + 20) 6067 [.ref 50] w = some (some (.int 1), w)) ∧ (¬ sLv T V G n m = 0 → cal (d + 20) 6067 [.ref 50] w = some (some (.int 0), w)) := by
  have hm4 := C.2.1.2.2.2
  have cm := C.2.1.2.1
  have o1 : ∀ q j, j + q = m → (∀ y, j ≤ y → y < m → V (6 * y + 4) ≤ sShr T V G (sGv T V G) n m y) → den (d + 20) 6067 2 [some (.ref 50), some (.int (nI j))] [] w = some (some (.int 1), w) := by
    intro q
    induction q with
    | zero =>
      intro j hj _
      have e : j = m := by omega
      subst e
      have g1 := nI_le_n (Nat.le_refl j) (by omega)
      simp only [c_6067, e_6067_0, e_6067_1, e_6067_2, e_6067_3, e_6067_4, e_6067_7, e_6067_10, e_6067_11, e_6067_12, e_6067_15, e_6067_16, e_6067_19, e_6067_20, e_6067_21, e_6067_24, e_6067_25, e_6067_26, e_6067_29, e_6067_32, e_6067_33, zk_int, zk_ref, zk_null, zk_none, zk_long, zisR_r, zisR_n, zcl_int, zcl_ref, zcl_null, zpush_s, zpush_n, zbs, zbn, true_or, or_true, not_false_eq_true, not_true_eq_false, ↓reduceIte, and_self, and_true, true_and, zt_50, cm, g1]
    | succ q ih =>
      intro j hj h
      have hjm : j < m := by omega
      have g1 := nI_ge_f hjm (by omega)
      have q1 := m_shareOf (d := d) C hjm
      obtain ⟨v0, v1, v2, v3, v4, v5⟩ := C.1.2.1 j (by omega)
      have hz := zis_nI (j := j) (n := 4) (by omega) (by decide)
      have hc := nI_clamp (n := j) (by omega)
      have g2 := h j (Nat.le_refl _) hjm
      rw [e_6067_2]
      simp only [c_6067, e_6067_0, e_6067_1, e_6067_3, e_6067_4, e_6067_7, e_6067_10, e_6067_11, e_6067_12, e_6067_15, e_6067_16, e_6067_19, e_6067_20, e_6067_21, e_6067_24, e_6067_25, e_6067_26, e_6067_29, e_6067_32, e_6067_33, zk_int, zk_ref, zk_null, zk_none, zk_long, zisR_r, zisR_n, zcl_int, zcl_ref, zcl_null, zpush_s, zpush_n, zbs, zbn, true_or, or_true, not_false_eq_true, not_true_eq_false, ↓reduceIte, and_self, and_true, true_and, zt_50, zt_50, zr_50_18, zt_61, zn_61, zo_61, zl_61, zq_61, cm, g1, q1, hz, hc, v4, g2, nI_1]
      exact ih (j + 1) (by omega) (fun y a b => h y (by omega) b)
  have o2 : ∀ q j, j + q = m → (∃ y, j ≤ y ∧ y < m ∧ ¬ V (6 * y + 4) ≤ sShr T V G (sGv T V G) n m y) → den (d + 20) 6067 2 [some (.ref 50), some (.int (nI j))] [] w = some (some (.int 0), w) := by
    intro q
    induction q with
    | zero =>
      intro j hj ⟨y, a, b, _⟩
      omega
    | succ q ih =>
      intro j hj ⟨y, a, b, h⟩
      have hjm : j < m := by omega
      have g1 := nI_ge_f hjm (by omega)
      have q1 := m_shareOf (d := d) C hjm
      obtain ⟨v0, v1, v2, v3, v4, v5⟩ := C.1.2.1 j (by omega)
      have hz := zis_nI (j := j) (n := 4) (by omega) (by decide)
      have hc := nI_clamp (n := j) (by omega)
      rw [e_6067_2]
      by_cases g2 : V (6 * j + 4) ≤ sShr T V G (sGv T V G) n m j
      · simp only [c_6067, e_6067_0, e_6067_1, e_6067_3, e_6067_4, e_6067_7, e_6067_10, e_6067_11, e_6067_12, e_6067_15, e_6067_16, e_6067_19, e_6067_20, e_6067_21, e_6067_24, e_6067_25, e_6067_26, e_6067_29, e_6067_32, e_6067_33, zk_int, zk_ref, zk_null, zk_none, zk_long, zisR_r, zisR_n, zcl_int, zcl_ref, zcl_null, zpush_s, zpush_n, zbs, zbn, true_or, or_true, not_false_eq_true, not_true_eq_false, ↓reduceIte, and_self, and_true, true_and, zt_50, zt_50, zr_50_18, zt_61, zn_61, zo_61, zl_61, zq_61, cm, g1, q1, hz, hc, v4, g2, nI_1]
        refine ih (j + 1) (by omega) ⟨y, ?_, b, h⟩
        rcases Nat.lt_or_ge j y with c | c
        · exact c
        · have e1 : y = j := by omega
          subst e1
          exact absurd g2 h
      · simp only [c_6067, e_6067_0, e_6067_1, e_6067_3, e_6067_4, e_6067_7, e_6067_10, e_6067_11, e_6067_12, e_6067_15, e_6067_16, e_6067_19, e_6067_20, e_6067_21, e_6067_24, e_6067_25, e_6067_26, e_6067_29, e_6067_32, e_6067_33, zk_int, zk_ref, zk_null, zk_none, zk_long, zisR_r, zisR_n, zcl_int, zcl_ref, zcl_null, zpush_s, zpush_n, zbs, zbn, true_or, or_true, not_false_eq_true, not_true_eq_false, ↓reduceIte, and_self, and_true, true_and, zt_50, zt_50, zr_50_18, zt_61, zn_61, zo_61, zl_61, zq_61, cm, g1, q1, hz, hc, v4, g2, nI_1]
  rw [sLv_i hm4]
  constructor
  · intro h
    have k0 := o1 m 0 (by omega) (fun y _ b => h y b)
    rw [nI_0] at k0
    simp only [c_6067, e_6067_0, e_6067_1, e_6067_3, e_6067_4, e_6067_7, e_6067_10, e_6067_11, e_6067_12, e_6067_15, e_6067_16, e_6067_19, e_6067_20, e_6067_21, e_6067_24, e_6067_25, e_6067_26, e_6067_29, e_6067_32, e_6067_33, zk_int, zk_ref, zk_null, zk_none, zk_long, zisR_r, zisR_n, zcl_int, zcl_ref, zcl_null, zpush_s, zpush_n, zbs, zbn, true_or, or_true, not_false_eq_true, not_true_eq_false, ↓reduceIte, and_self, and_true, true_and]
    exact k0
  · intro h
    have k0 := o2 m 0 (by omega) (by
      apply Classical.byContradiction
      intro c
      apply h
      intro y hy
      apply Classical.byContradiction
      intro c2
      exact c ⟨y, Nat.zero_le _, hy, c2⟩)
    rw [nI_0] at k0
    simp only [c_6067, e_6067_0, e_6067_1, e_6067_3, e_6067_4, e_6067_7, e_6067_10, e_6067_11, e_6067_12, e_6067_15, e_6067_16, e_6067_19, e_6067_20, e_6067_21, e_6067_24, e_6067_25, e_6067_26, e_6067_29, e_6067_32, e_6067_33, zk_int, zk_ref, zk_null, zk_none, zk_long, zisR_r, zisR_n, zcl_int, zcl_ref, zcl_null, zpush_s, zpush_n, zbs, zbn, true_or, or_true, not_false_eq_true, not_true_eq_false, ↓reduceIte, and_self, and_true, true_and]
    exact k0
theorem m_leavers (C : zMc w T V G n m) : cal (d + 20) 6069 [.ref 50] w = some (some (.int (sLv T V G n m)), w) := by
  have hm4 := C.2.1.2.2.2
  have cm := C.2.1.2.1
  have key : ∀ q j, j + q = m → den (d + 20) 6069 4 [some (.ref 50), some (.int (zor (sLvF T V G (sGv T V G) n m) j)), some (.int (nI j))] [] w = some (some (.int (sLv T V G n m)), w) := by
    intro q
    induction q with
    | zero =>
      intro j hj
      have e : j = m := by omega
      subst e
      have g1 := nI_le_n (Nat.le_refl j) (by omega)
      simp only [c_6069, e_6069_0, e_6069_1, e_6069_2, e_6069_3, e_6069_4, e_6069_5, e_6069_6, e_6069_9, e_6069_12, e_6069_13, e_6069_14, e_6069_17, e_6069_18, e_6069_21, e_6069_22, e_6069_23, e_6069_26, e_6069_27, e_6069_28, e_6069_29, e_6069_30, e_6069_31, e_6069_32, e_6069_35, e_6069_38, e_6069_39, zk_int, zk_ref, zk_null, zk_none, zk_long, zisR_r, zisR_n, zcl_int, zcl_ref, zcl_null, zpush_s, zpush_n, zbs, zbn, true_or, or_true, not_false_eq_true, not_true_eq_false, ↓reduceIte, and_self, and_true, true_and, zt_50, cm, g1]
      rfl
    | succ q ih =>
      intro j hj
      have hjm : j < m := by omega
      have g1 := nI_ge_f hjm (by omega)
      have q1 := m_shareOf (d := d) C hjm
      obtain ⟨v0, v1, v2, v3, v4, v5⟩ := C.1.2.1 j (by omega)
      have hz := zis_nI (j := j) (n := 4) (by omega) (by decide)
      have hc := nI_clamp (n := j) (by omega)
      have i1 := ih (j + 1) (by omega)
      rw [← zor_s] at i1
      rw [e_6069_4]
      by_cases g2 : V (6 * j + 4) ≤ sShr T V G (sGv T V G) n m j
      · have e : sLvF T V G (sGv T V G) n m j = 0 := if_pos g2
        rw [e, Int32.or_zero] at i1
        simp only [c_6069, e_6069_0, e_6069_1, e_6069_2, e_6069_3, e_6069_5, e_6069_6, e_6069_9, e_6069_12, e_6069_13, e_6069_14, e_6069_17, e_6069_18, e_6069_21, e_6069_22, e_6069_23, e_6069_26, e_6069_27, e_6069_28, e_6069_29, e_6069_30, e_6069_31, e_6069_32, e_6069_35, e_6069_38, e_6069_39, zk_int, zk_ref, zk_null, zk_none, zk_long, zisR_r, zisR_n, zcl_int, zcl_ref, zcl_null, zpush_s, zpush_n, zbs, zbn, true_or, or_true, not_false_eq_true, not_true_eq_false, ↓reduceIte, and_self, and_true, true_and, zt_50, zt_50, zr_50_18, zt_61, zn_61, zo_61, zl_61, zq_61, cm, g1, q1, hz, hc, v4, g2, nI_1]
        exact i1
      · have e : sLvF T V G (sGv T V G) n m j = 1 <<< (nI j &&& 31) := if_neg g2
        rw [e] at i1
        simp only [c_6069, e_6069_0, e_6069_1, e_6069_2, e_6069_3, e_6069_5, e_6069_6, e_6069_9, e_6069_12, e_6069_13, e_6069_14, e_6069_17, e_6069_18, e_6069_21, e_6069_22, e_6069_23, e_6069_26, e_6069_27, e_6069_28, e_6069_29, e_6069_30, e_6069_31, e_6069_32, e_6069_35, e_6069_38, e_6069_39, zk_int, zk_ref, zk_null, zk_none, zk_long, zisR_r, zisR_n, zcl_int, zcl_ref, zcl_null, zpush_s, zpush_n, zbs, zbn, true_or, or_true, not_false_eq_true, not_true_eq_false, ↓reduceIte, and_self, and_true, true_and, zt_50, zt_50, zr_50_18, zt_61, zn_61, zo_61, zl_61, zq_61, cm, g1, q1, hz, hc, v4, g2, nI_1]
        exact i1
  have k0 := key m 0 (by omega)
  rw [nI_0] at k0
  simp only [c_6069, e_6069_0, e_6069_1, e_6069_2, e_6069_3, e_6069_5, e_6069_6, e_6069_9, e_6069_12, e_6069_13, e_6069_14, e_6069_17, e_6069_18, e_6069_21, e_6069_22, e_6069_23, e_6069_26, e_6069_27, e_6069_28, e_6069_29, e_6069_30, e_6069_31, e_6069_32, e_6069_35, e_6069_38, e_6069_39, zk_int, zk_ref, zk_null, zk_none, zk_long, zisR_r, zisR_n, zcl_int, zcl_ref, zcl_null, zpush_s, zpush_n, zbs, zbn, true_or, or_true, not_false_eq_true, not_true_eq_false, ↓reduceIte, and_self, and_true, true_and]
  exact k0
theorem m_raise_l (C : zMc w T V G n m) : ∀ q a F, a + q = 31 → (∀ k, k ≠ 3 → F k = w.1 50 k) →
    (∀ a0, a ≤ a0 → a0 < 31 → sLa T V G n m a0 = 0 → (∀ a', a ≤ a' → a' < a0 → ¬ sLa T V G n m a' = 0) → den (d + 21) 6079 9 [some (.ref 50), some (.int (-1)), some (.int (G 1)), some (.int (nI a))] [] (zuA w 50 F) = some (some (.int (nI a0)), w)) ∧
    ((∀ a', a ≤ a' → a' < 31 → ¬ sLa T V G n m a' = 0) → den (d + 21) 6079 9 [some (.ref 50), some (.int (-1)), some (.int (G 1)), some (.int (nI a))] [] (zuA w 50 F) = some (some (.int (-1)), w)) := by
  have back : ∀ F : Nat → Int32, (∀ k, k ≠ 3 → F k = w.1 50 k) → zuA w 50 (upd F 3 (G 1)) = w := by
    intro F hF
    have e : upd F 3 (G 1) = w.1 50 := by
      funext k
      by_cases h : k = 3
      · subst h; rw [u_eq]; exact C.1.2.2.2.1.symm
      · rw [u_ne h]; exact hF k h
    rw [e, zA_id]
  have put : ∀ (F : Nat → Int32) (v : Int32), (∀ k, k ≠ 3 → F k = w.1 50 k) → upd F 3 v = upd (w.1 50) 3 v := by
    intro F v hF
    funext k
    by_cases h : k = 3
    · subst h; rw [u_eq, u_eq]
    · rw [u_ne h, u_ne h]; exact hF k h
  intro q
  induction q with
  | zero =>
    intro a F ha hF
    refine ⟨fun a0 h1 h2 => by omega, fun _ => ?_⟩
    have e1 : a = 31 := by omega
    subst e1
    have l1 : (30 : Int32) < nI 31 := by decide
    simp only [c_6079, e_6079_0, e_6079_1, e_6079_2, e_6079_3, e_6079_6, e_6079_7, e_6079_8, e_6079_9, e_6079_10, e_6079_12, e_6079_15, e_6079_16, e_6079_17, e_6079_20, e_6079_21, e_6079_22, e_6079_25, e_6079_26, e_6079_29, e_6079_32, e_6079_33, e_6079_34, e_6079_37, e_6079_40, e_6079_41, e_6079_42, e_6079_45, e_6079_46, zk_int, zk_ref, zk_null, zk_none, zk_long, zisR_r, zisR_n, zcl_int, zcl_ref, zcl_null, zpush_s, zpush_n, zbs, zbn, true_or, or_true, not_false_eq_true, not_true_eq_false, ↓reduceIte, and_self, and_true, true_and, zt_50, l1, zui_A, zA_s, zA_A, back F hF]
  | succ q ih =>
    intro a F ha hF
    have l1 : ((30 : Int32) < nI a) = False := nI_lt_f (a := 30) (b := a) (by omega) (by omega)
    have CA : zMc (zuA w 50 (upd (w.1 50) 3 (nI a))) T V (upd G 1 (nI a)) n m := ⟨zMs_G1 C.1, zMn_k C.2.1 (by rw [zA_s, u_ne (by decide)]) (by rw [zA_s, u_ne (by decide)]), zRg_G1 C.2.2 (nI_bt (a := 0) (b := 30) (by omega) (by omega) (by omega))⟩
    obtain ⟨t1, t2⟩ := m_isContent (d := d) CA
    have hF2 : ∀ k, k ≠ 3 → upd (w.1 50) 3 (nI a) k = w.1 50 k := fun k hk => u_ne hk
    obtain ⟨i1, i2⟩ := ih (a + 1) (upd (w.1 50) 3 (nI a)) (by omega) hF2
    by_cases hc : sLa T V G n m a = 0
    · refine ⟨fun a0 h1 h2 h3 h4 => ?_, fun h => absurd hc (h a (Nat.le_refl _) (by omega))⟩
      have e7 : a0 = a := by
        rcases Nat.lt_or_ge a a0 with h | h
        · exact absurd hc (h4 a (Nat.le_refl _) h)
        · omega
      subst e7
      have t := t1 hc
      have g2 := nI_neM (y := a0) (by omega)
      have fin : ∀ x, den (d + 21) 6079 9 [some (.ref 50), some (.int (nI a0)), some (.int (G 1)), some (.int x)] [] (zuA w 50 (upd (w.1 50) 3 (nI a0))) = some (some (.int (nI a0)), w) := by
        intro x
        by_cases hx : 30 < x
        · simp only [c_6079, e_6079_0, e_6079_1, e_6079_2, e_6079_3, e_6079_6, e_6079_7, e_6079_8, e_6079_9, e_6079_10, e_6079_12, e_6079_15, e_6079_16, e_6079_17, e_6079_20, e_6079_21, e_6079_22, e_6079_25, e_6079_26, e_6079_29, e_6079_32, e_6079_33, e_6079_34, e_6079_37, e_6079_40, e_6079_41, e_6079_42, e_6079_45, e_6079_46, zk_int, zk_ref, zk_null, zk_none, zk_long, zisR_r, zisR_n, zcl_int, zcl_ref, zcl_null, zpush_s, zpush_n, zbs, zbn, true_or, or_true, not_false_eq_true, not_true_eq_false, ↓reduceIte, and_self, and_true, true_and, zt_50, hx, zui_A, zA_s, zA_A, back _ hF2]
        · simp only [c_6079, e_6079_0, e_6079_1, e_6079_2, e_6079_3, e_6079_6, e_6079_7, e_6079_8, e_6079_9, e_6079_10, e_6079_12, e_6079_15, e_6079_16, e_6079_17, e_6079_20, e_6079_21, e_6079_22, e_6079_25, e_6079_26, e_6079_29, e_6079_32, e_6079_33, e_6079_34, e_6079_37, e_6079_40, e_6079_41, e_6079_42, e_6079_45, e_6079_46, zk_int, zk_ref, zk_null, zk_none, zk_long, zisR_r, zisR_n, zcl_int, zcl_ref, zcl_null, zpush_s, zpush_n, zbs, zbn, true_or, or_true, not_false_eq_true, not_true_eq_false, ↓reduceIte, and_self, and_true, true_and, zt_50, hx, g2, zui_A, zA_s, zA_A, back _ hF2]
      rw [e_6079_9]
      simp only [c_6079, e_6079_0, e_6079_1, e_6079_2, e_6079_3, e_6079_6, e_6079_7, e_6079_8, e_6079_10, e_6079_12, e_6079_15, e_6079_16, e_6079_17, e_6079_20, e_6079_21, e_6079_22, e_6079_25, e_6079_26, e_6079_29, e_6079_32, e_6079_33, e_6079_34, e_6079_37, e_6079_40, e_6079_41, e_6079_42, e_6079_45, e_6079_46, zk_int, zk_ref, zk_null, zk_none, zk_long, zisR_r, zisR_n, zcl_int, zcl_ref, zcl_null, zpush_s, zpush_n, zbs, zbn, true_or, or_true, not_false_eq_true, not_true_eq_false, ↓reduceIte, and_self, and_true, true_and, zt_50, l1, zui_A, zA_s, zA_A, put F _ hF, t, ie_0_1, ie_0_2, ie_0_3, ie_0_4, ie_0_5, ie_0_6, ie_0_7, ie_1_0, ie_1_2, ie_1_3, ie_1_4, ie_1_5, ie_1_6, ie_1_7, ie_2_0, ie_2_1, ie_2_3, ie_2_4, ie_2_5, ie_2_6, ie_2_7, ie_3_0, ie_3_1, ie_3_2, ie_3_4, ie_3_5, ie_3_6, ie_3_7, ie_4_0, ie_4_1, ie_4_2, ie_4_3, ie_4_5, ie_4_6, ie_4_7, ie_5_0, ie_5_1, ie_5_2, ie_5_3, ie_5_4, ie_5_6, ie_5_7, ie_6_0, ie_6_1, ie_6_2, ie_6_3, ie_6_4, ie_6_5, ie_6_7, ie_7_0, ie_7_1, ie_7_2, ie_7_3, ie_7_4, ie_7_5, ie_7_6, fin]
    · have t := t2 hc
      have step : ∀ z, den (d + 21) 6079 9 [some (.ref 50), some (.int (-1)), some (.int (G 1)), some (.int (nI (a + 1)))] [] (zuA w 50 (upd (w.1 50) 3 (nI a))) = z → den (d + 21) 6079 9 [some (.ref 50), some (.int (-1)), some (.int (G 1)), some (.int (nI a))] [] (zuA w 50 F) = z := by
        intro z hz
        rw [e_6079_9]
        simp only [c_6079, e_6079_0, e_6079_1, e_6079_2, e_6079_3, e_6079_6, e_6079_7, e_6079_8, e_6079_10, e_6079_12, e_6079_15, e_6079_16, e_6079_17, e_6079_20, e_6079_21, e_6079_22, e_6079_25, e_6079_26, e_6079_29, e_6079_32, e_6079_33, e_6079_34, e_6079_37, e_6079_40, e_6079_41, e_6079_42, e_6079_45, e_6079_46, zk_int, zk_ref, zk_null, zk_none, zk_long, zisR_r, zisR_n, zcl_int, zcl_ref, zcl_null, zpush_s, zpush_n, zbs, zbn, true_or, or_true, not_false_eq_true, not_true_eq_false, ↓reduceIte, and_self, and_true, true_and, zt_50, l1, zui_A, zA_s, zA_A, put F _ hF, t, ie_0_1, ie_0_2, ie_0_3, ie_0_4, ie_0_5, ie_0_6, ie_0_7, ie_1_0, ie_1_2, ie_1_3, ie_1_4, ie_1_5, ie_1_6, ie_1_7, ie_2_0, ie_2_1, ie_2_3, ie_2_4, ie_2_5, ie_2_6, ie_2_7, ie_3_0, ie_3_1, ie_3_2, ie_3_4, ie_3_5, ie_3_6, ie_3_7, ie_4_0, ie_4_1, ie_4_2, ie_4_3, ie_4_5, ie_4_6, ie_4_7, ie_5_0, ie_5_1, ie_5_2, ie_5_3, ie_5_4, ie_5_6, ie_5_7, ie_6_0, ie_6_1, ie_6_2, ie_6_3, ie_6_4, ie_6_5, ie_6_7, ie_7_0, ie_7_1, ie_7_2, ie_7_3, ie_7_4, ie_7_5, ie_7_6, nI_1]
        exact hz
      refine ⟨fun a0 h1 h2 h3 h4 => ?_, fun h => ?_⟩
      · have h5 : a + 1 ≤ a0 := by
          rcases Nat.lt_or_ge a a0 with h | h
          · exact h
          · have e7 : a0 = a := by omega
            subst e7
            exact absurd h3 hc
        exact step _ (i1 a0 h5 h2 h3 (fun r' g1 g2 => h4 r' (by omega) g2))
      · exact step _ (i2 (fun r' g1 g2 => h r' (by omega) g2))
theorem m_raise {a0 : Nat} (C : zMc w T V G n m) (ha : a0 < 31) (h0 : sLa T V G n m a0 = 0) (h1 : ∀ a', a' < a0 → ¬ sLa T V G n m a' = 0) : cal (d + 21) 6079 [.ref 50] w = some (some (.int (nI a0)), w) := by
  have h := (m_raise_l (d := d) C 31 0 (w.1 50) (by omega) (fun _ _ => rfl)).1 a0 (Nat.zero_le _) ha h0 (fun a' _ h => h1 a' h)
  rw [zA_id, nI_0] at h
  simp only [c_6079, e_6079_0, e_6079_1, e_6079_2, e_6079_3, e_6079_6, e_6079_7, e_6079_8, e_6079_10, e_6079_12, e_6079_15, e_6079_16, e_6079_17, e_6079_20, e_6079_21, e_6079_22, e_6079_25, e_6079_26, e_6079_29, e_6079_32, e_6079_33, e_6079_34, e_6079_37, e_6079_40, e_6079_41, e_6079_42, e_6079_45, e_6079_46, zk_int, zk_ref, zk_null, zk_none, zk_long, zisR_r, zisR_n, zcl_int, zcl_ref, zcl_null, zpush_s, zpush_n, zbs, zbn, true_or, or_true, not_false_eq_true, not_true_eq_false, ↓reduceIte, and_self, and_true, true_and, zt_50, C.1.2.2.2.1]
  exact h
theorem m_raise_0 (C : zMc w T V G n m) (h1 : ∀ a', a' < 31 → ¬ sLa T V G n m a' = 0) : cal (d + 21) 6079 [.ref 50] w = some (some (.int (-1)), w) := by
  have h := (m_raise_l (d := d) C 31 0 (w.1 50) (by omega) (fun _ _ => rfl)).2 (fun a' _ h => h1 a' h)
  rw [zA_id, nI_0] at h
  simp only [c_6079, e_6079_0, e_6079_1, e_6079_2, e_6079_3, e_6079_6, e_6079_7, e_6079_8, e_6079_10, e_6079_12, e_6079_15, e_6079_16, e_6079_17, e_6079_20, e_6079_21, e_6079_22, e_6079_25, e_6079_26, e_6079_29, e_6079_32, e_6079_33, e_6079_34, e_6079_37, e_6079_40, e_6079_41, e_6079_42, e_6079_45, e_6079_46, zk_int, zk_ref, zk_null, zk_none, zk_long, zisR_r, zisR_n, zcl_int, zcl_ref, zcl_null, zpush_s, zpush_n, zbs, zbn, true_or, or_true, not_false_eq_true, not_true_eq_false, ↓reduceIte, and_self, and_true, true_and, zt_50, C.1.2.2.2.1]
  exact h
theorem m_worth {y : Nat} (C : zMc w T V G n m) (hy : y < m) (h6 : zBt (V (6 * y + 0)) 0 6) : cal (d + 20) 6078 [.ref 50, .int (nI y)] w = some (some (.int (zsum (sGv T (upd V (6 * y + 0) (V (6 * y + 0) + 1)) G) n - zsum (sGv T V G) n)), w) := by
  have hm4 := C.2.1.2.2.2
  have v0 := (C.1.2.1 y (by omega)).1
  have hb : zBt (V (6 * y + 0) + 1) 0 7 := by
    obtain ⟨h1, h2⟩ := h6
    unfold zBt
    rw [ti_add (by rw [ti_1]; omega) (by rw [ti_1]; omega), ti_1]
    omega
  have C2 : zMc (zuA w 57 (upd (w.1 57) y (V (6 * y + 0) + 1))) T (upd V (6 * y + 0) (V (6 * y + 0) + 1)) G n m :=
    ⟨zMs_V0 C.1 (by omega), zMn_k C.2.1 (by rw [zA_n _ _ (by decide)]) (by rw [zA_n _ _ (by decide)]), zRg_V0 C.2.2 hb⟩
  have q1 := m_isWaiter (d := d + 19) C.2.1 hy
  have q2 := m_allGiven (d := d + 1) C
  have q3 := m_allGiven (d := d + 1) C2
  have hz := zis_nI (j := y) (n := 4) (by omega) (by decide)
  have hc := nI_clamp (n := y) (by omega)
  have e1 : V (6 * y + 0) + 1 - 1 = V (6 * y + 0) := by grind
  have e2 : zuA w 57 (upd (w.1 57) y (V (6 * y + 0))) = w := by rw [← v0, upd_id, zA_id]
  simp only [c_6078, e_6078_0, e_6078_1, e_6078_2, e_6078_5, e_6078_8, e_6078_9, e_6078_10, e_6078_13, e_6078_14, e_6078_15, e_6078_18, e_6078_19, e_6078_20, e_6078_23, e_6078_24, e_6078_25, e_6078_26, e_6078_27, e_6078_28, e_6078_29, e_6078_30, e_6078_33, e_6078_34, e_6078_35, e_6078_38, e_6078_39, e_6078_40, e_6078_41, e_6078_42, e_6078_43, e_6078_44, e_6078_45, e_6078_46, e_6078_47, zk_int, zk_ref, zk_null, zk_none, zk_long, zisR_r, zisR_n, zcl_int, zcl_ref, zcl_null, zpush_s, zpush_n, zbs, zbn, true_or, or_true, not_false_eq_true, not_true_eq_false, ↓reduceIte, and_self, and_true, true_and, zt_50, zt_50, zr_50_14, zt_57, zn_57, zo_57, zl_57, zq_57, q1, ie_0_1, ie_0_2, ie_0_3, ie_0_4, ie_0_5, ie_0_6, ie_0_7, ie_1_0, ie_1_2, ie_1_3, ie_1_4, ie_1_5, ie_1_6, ie_1_7, ie_2_0, ie_2_1, ie_2_3, ie_2_4, ie_2_5, ie_2_6, ie_2_7, ie_3_0, ie_3_1, ie_3_2, ie_3_4, ie_3_5, ie_3_6, ie_3_7, ie_4_0, ie_4_1, ie_4_2, ie_4_3, ie_4_5, ie_4_6, ie_4_7, ie_5_0, ie_5_1, ie_5_2, ie_5_3, ie_5_4, ie_5_6, ie_5_7, ie_6_0, ie_6_1, ie_6_2, ie_6_3, ie_6_4, ie_6_5, ie_6_7, ie_7_0, ie_7_1, ie_7_2, ie_7_3, ie_7_4, ie_7_5, ie_7_6, q2, hz, hc, v0, zui_A, q3, zA_s, zA_A, u_eq, upd_u, e1, e2]
end MK
