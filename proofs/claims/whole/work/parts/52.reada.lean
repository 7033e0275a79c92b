theorem sHs_n (w : zM) (F T V G : Nat → Int32) {a : Nat} (ha : a < 26 ∨ 29 < a) : (sHs w 26 F T V G).1 a = w.1 a := by
  unfold sHs
  rw [zA_n _ _ (by omega), zA_n _ _ (by omega), zA_n _ _ (by omega), zA_n _ _ (by omega)]
theorem wD_id {w : zM} {F T V G : Nat → Int32} {n m : Nat} (h3 : F 3 = nI n) (h4 : F 4 = nI m) : wD (sHs w 26 F T V G) (n, m, T, V, G) = sHs w 26 F T V G := by
  have e26 : (sHs w 26 F T V G).1 26 = F := by
    unfold sHs
    rw [zA_s]
  have e27 : (sHs w 26 F T V G).1 27 = T := by
    unfold sHs
    rw [zA_n _ _ (by decide), zA_n _ _ (by decide), zA_n _ _ (by decide), zA_s]
  have e28 : (sHs w 26 F T V G).1 28 = V := by
    unfold sHs
    rw [zA_n _ _ (by decide), zA_n _ _ (by decide), zA_s]
  have e29 : (sHs w 26 F T V G).1 29 = G := by
    unfold sHs
    rw [zA_n _ _ (by decide), zA_s]
  unfold wD
  dsimp only
  rw [e26, ← h3, upd_id, ← h4, upd_id]
  have k26 := zA_id (sHs w 26 F T V G) 26
  have k27 := zA_id (sHs w 26 F T V G) 27
  have k28 := zA_id (sHs w 26 F T V G) 28
  have k29 := zA_id (sHs w 26 F T V G) 29
  rw [e26] at k26
  rw [e27] at k27
  rw [e28] at k28
  rw [e29] at k29
  rw [k26, k27, k28, k29]
section RX
variable {d h z n m : Nat} {w : zM} {L : Nat → Int32}
theorem q_read (C : zHc w 1 n m) (H1 : zHz w 1) (H26 : zHz w 26) (X : rTx w h z L) : ∃ R Z, R = rRd L z 200 0 0 (n, m, w.1 2, w.1 3, w.1 4) (w.1 31) ∧ Z = sHs w 26 (w.1 1) (w.1 2) (w.1 3) (w.1 4) ∧ cal (d + 7) 3003 [.ref 25, .ref h, .ref 1] w = if R.1 = true then some (some (.int (nI R.2.1)), sR (wD Z R.2.2.2.2.1) R.2.2.2.2.2 R.2.2.1 (-1)) else some (some (.int (-1)), sR (wD Z R.2.2.2.2.1) R.2.2.2.2.2 R.2.2.1 (nI R.2.2.2.1)) := by
  refine ⟨_, _, rfl, rfl, ?_⟩
  have th := (zSs_f X.1).1
  have b := q_becomeAs (d := d + 5) (w := w) (h := 26) (k := 1) (Or.inr (Or.inr (Or.inr rfl))) zHs1 (by decide)
  rw [sBec_z H26 H1] at b
  have eid := wD_id (w := w) (F := w.1 1) (T := w.1 2) (V := w.1 3) (G := w.1 4) (n := n) (m := m) C.2.1 C.2.2.2.1
  have X2 : rTx (sHs w 26 (w.1 1) (w.1 2) (w.1 3) (w.1 4)) h z L := by
    unfold sHs
    exact rTx_u (rTx_u (rTx_u (rTx_u X (by decide)) (by decide)) (by decide)) (by decide)
  have e31 : (sHs w 26 (w.1 1) (w.1 2) (w.1 3) (w.1 4)).1 31 = w.1 31 := sHs_n _ _ _ _ _ (by decide)
  have q := r_read_l (d := d) (f := -1) (x2 := 1) X2 200 0 0 (n, m, w.1 2, w.1 3, w.1 4) (w.1 31) (by have := X.2.2.1; omega) (Nat.le_refl _) (Nat.zero_le _) (by decide) C.2.2.1 C.2.2.2.2
  rw [eid] at q
  have ew : zuA (sHs w 26 (w.1 1) (w.1 2) (w.1 3) (w.1 4)) 25 (upd (upd ((sHs w 26 (w.1 1) (w.1 2) (w.1 3) (w.1 4)).1 25) 2 0) 3 (-1)) = sR (sHs w 26 (w.1 1) (w.1 2) (w.1 3) (w.1 4)) (w.1 31) 0 (-1) := by
    unfold sR
    rw [← e31, zA_id]
    rfl
  have e0 : nI 0 = 0 := nI_0
  rw [e0] at q
  have eB : sBec w 26 1 = sHs w 26 (w.1 1) (w.1 2) (w.1 3) (w.1 4) := sBec_z H26 H1
  simp only [c_3003, e_3003_0, e_3003_1, e_3003_4, e_3003_5, e_3003_8, e_3003_9, e_3003_10, e_3003_13, e_3003_14, e_3003_15, e_3003_18, e_3003_19, e_3003_20, e_3003_21, zk_int, zk_ref, zk_null, zk_none, zk_long, zisR_r, zisR_n, zcl_int, zcl_ref, zcl_null, zpush_s, zpush_n, zbs, zbn, true_or, or_true, not_false_eq_true, not_true_eq_false, ↓reduceIte, and_self, and_true, true_and, zt_25, zr_25_0, zt_26, b, zui_A, zA_s, zA_A, ew]
  exact q
end RX
