section FF
variable {d n m : Nat} {w : zM}
theorem f_spans1 {h z i : Nat} (H : zSs h) (hz : w.1 h 2 = nI z) (hz1 : z ≤ 160) (hi : i < z) : cal d 4008 [.ref h, .int (nI i), .int 1] w = some (some (.int 1), w) := by
  have q := q_spans (d := d) (w := w) (i := nI i) (n := 1) H
  rw [hz] at q
  obtain ⟨y, rfl⟩ : ∃ y, z = y + 1 := ⟨z - 1, by omega⟩
  rw [nI_pred] at q
  rw [if_pos ⟨nI_pos' (by omega), by decide, nI_le (a := 1) (by omega) (by omega), nI_le (by omega) (by omega)⟩] at q
  exact q
theorem f_spans1_o {h z : Nat} {x : Int32} (H : zSs h) (hz : w.1 h 2 = nI z) (hz1 : z ≤ 160) (hx : x < 0 ∨ nI z ≤ x) : cal d 4008 [.ref h, .int x, .int 1] w = some (some (.int 0), w) := by
  have q := q_spans (d := d) (w := w) (i := x) (n := 1) H
  rw [hz] at q
  rw [if_neg] at q
  · exact q
  · intro ⟨h0, _, h1, h2⟩
    rcases hx with hx | hx
    · exact absurd h0 (Int32.not_le.mpr hx)
    · by_cases hz0 : z = 0
      · subst hz0
        exact absurd h1 (by decide)
      · obtain ⟨y, rfl⟩ : ∃ y, z = y + 1 := ⟨z - 1, by omega⟩
        rw [nI_pred] at h2
        have h3 := Int32.le_trans hx h2
        have h4 := (nI_leI (a := y + 1) (b := y) (by omega) (by omega)).mp h3
        omega
theorem f_set_5 {j z : Nat} {x : Int32} {v : Int64} (hj : j < 8) (h1 : 100 ≤ w.1 (34 + 2 * j) 1) (hz : w.1 (34 + 2 * j) 2 = nI z) (hz1 : z ≤ 160) (hx : x < 0 ∨ nI z ≤ x) : cal (d + 2) 5002 [.ref 0, .int (nI j), .int x, .long v] w = some (some (.int (-5)), fRf w 5) := by
  have a := f_shelfAt (d := d + 1) (w := w) hj
  have th := (zSs_f (zSs_j hj)).1
  have b := f_rowRef (d := d) (w := w) (zSs_j hj)
  rw [if_pos h1] at b
  have r := f_refuse (d := d) (w := w) (c := -5) (j := 5) (by decide) (by decide)
  have q := f_spans1_o (d := d + 1) (w := w) (zSs_j hj) hz hz1 hx
  simp only [c_5002, e_5002_0, e_5002_1, e_5002_2, e_5002_5, e_5002_7, e_5002_9, e_5002_12, e_5002_14, e_5002_16n, e_5002_16r, e_5002_19, e_5002_21, e_5002_24, e_5002_25, e_5002_27, e_5002_30, e_5002_31, e_5002_33, e_5002_34, e_5002_35, e_5002_38, e_5002_41, e_5002_42, e_5002_44, e_5002_47, e_5002_48, e_5002_50, e_5002_51, e_5002_52, e_5002_55, e_5002_56, zk_int, zk_ref, zk_null, zk_none, zk_long, zisR_r, zisR_n, zcl_int, zcl_ref, zcl_null, zpush_s, zpush_n, zbs, zbn, true_or, or_true, not_false_eq_true, not_true_eq_false, ↓reduceIte, and_self, and_true, true_and, zt_0, th, a, b, r, q]
theorem f_set {j z i : Nat} {v : Int64} (hj : j < 8) (h1 : 100 ≤ w.1 (34 + 2 * j) 1) (hz : w.1 (34 + 2 * j) 2 = nI z) (hz1 : z ≤ 160) (hi : i < z) : cal (d + 2) 5002 [.ref 0, .int (nI j), .int (nI i), .long v] w = some (some (.int 1), zuB w (34 + 2 * j + 1) (vp_updL (w.2 (34 + 2 * j + 1)) i (sLow (w.1 (34 + 2 * j) 1 - 100) v))) := by
  have a := f_shelfAt (d := d + 1) (w := w) hj
  have th := (zSs_f (zSs_j hj)).1
  have b := f_rowRef (d := d) (w := w) (zSs_j hj)
  rw [if_pos h1] at b
  have q := f_spans1 (d := d + 1) (w := w) (zSs_j hj) hz hz1 hi
  have p := q_putIn (d := d) (w := w) (v := v) (zSs_j hj) hz hz1 hi
  have e10 : ((1 : Int32) = 0) = False := eq_false (by decide)
  simp only [c_5002, e_5002_0, e_5002_1, e_5002_2, e_5002_5, e_5002_7, e_5002_9, e_5002_12, e_5002_14, e_5002_16n, e_5002_16r, e_5002_19, e_5002_21, e_5002_24, e_5002_25, e_5002_27, e_5002_30, e_5002_31, e_5002_33, e_5002_34, e_5002_35, e_5002_38, e_5002_41, e_5002_42, e_5002_44, e_5002_47, e_5002_48, e_5002_50, e_5002_51, e_5002_52, e_5002_55, e_5002_56, zk_int, zk_ref, zk_null, zk_none, zk_long, zisR_r, zisR_n, zcl_int, zcl_ref, zcl_null, zpush_s, zpush_n, zbs, zbn, true_or, or_true, not_false_eq_true, not_true_eq_false, ↓reduceIte, and_self, and_true, true_and, zt_0, th, a, b, q, p, e10]
end FF
