def sSp (V e : Nat → Int32) (j : Nat) : Nat → Int32 := fun k => if k % 6 = 3 ∧ k / 6 < j then e (k / 6) else V k
theorem sSp_s (V e : Nat → Int32) (j : Nat) : upd (sSp V e j) (6 * j + 3) (e j) = sSp V e (j + 1) := by
  funext k
  unfold upd sSp
  by_cases h : k = 6 * j + 3
  · rw [if_pos h, if_pos (by omega)]
    congr 1
    omega
  · rw [if_neg h]
    by_cases h2 : k % 6 = 3 ∧ k / 6 < j
    · rw [if_pos h2, if_pos (by omega)]
    · rw [if_neg h2, if_neg (by omega)]
theorem sSp_0 (V e : Nat → Int32) : sSp V e 0 = V := by
  funext k
  exact if_neg (by omega)
theorem sSp_sSp (V e e' : Nat → Int32) (m : Nat) : sSp (sSp V e' m) e m = sSp V e m := by
  funext k
  unfold sSp
  by_cases h : k % 6 = 3 ∧ k / 6 < m
  · rw [if_pos h, if_pos h]
  · rw [if_neg h, if_neg h, if_neg h]
theorem sSp_id (V : Nat → Int32) (m : Nat) : sSp V (fun v => V (6 * v + 3)) m = V := by
  funext k
  unfold sSp
  by_cases h : k % 6 = 3 ∧ k / 6 < m
  · rw [if_pos h]
    show V (6 * (k / 6) + 3) = V k
    have e : 6 * (k / 6) + 3 = k := by omega
    rw [e]
  · rw [if_neg h]
theorem sSvc_c {V V' : Nat → Int32} {x : Nat} (h : ∀ y, V' (6 * y + 0) = V (6 * y + 0) ∧ V' (6 * y + 1) = V (6 * y + 1)) : sSvc V' x = sSvc V x := by
  unfold sSvc
  rw [(h x).1, (h x).2]
theorem sAhd_0 (f : Nat → Int32) : sAhd f 0 = 0 := id rfl
theorem sAhd_s (f : Nat → Int32) (t : Nat) : sAhd f (t + 1) = f t := id rfl
theorem sGv_Vt {T V V' G : Nat → Int32} (h : ∀ y, V' (6 * y + 0) = V (6 * y + 0) ∧ V' (6 * y + 1) = V (6 * y + 1)) : ∀ t, sGv T V' G t = sGv T V G t := by
  intro t
  induction t with
  | zero => rw [sGv_eq, sGv_eq, sSvc_c h, sAhd_0, sAhd_0]
  | succ t ih => rw [sGv_eq, sGv_eq, sSvc_c h, sAhd_s, sAhd_s, ih]
theorem sGv_V {T V V' G : Nat → Int32} (h : ∀ y, V' (6 * y + 0) = V (6 * y + 0) ∧ V' (6 * y + 1) = V (6 * y + 1)) : sGv T V' G = sGv T V G := funext (sGv_Vt h)
theorem sSp_svc (V e : Nat → Int32) (j : Nat) : ∀ y, sSp V e j (6 * y + 0) = V (6 * y + 0) ∧ sSp V e j (6 * y + 1) = V (6 * y + 1) := fun y => ⟨if_neg (by omega), if_neg (by omega)⟩
def sPr (V : Nat → Int32) (m r : Nat) : Nat → Int32 := sSp V (fun v => nI (dig 3 m r v + 1)) m
def sLp (T V G : Nat → Int32) (n m r : Nat) : Int32 := sLv T (sPr V m r) (upd G 0 2) n m
section FPT
variable {d n m : Nat} {w : zM} {F T V G gv : Nat → Int32}
theorem t_pointsFound {r y : Nat} (C : zTc F T n m) (hx : w.1 13 3 = nI r) (hy : y < m) (hr : r < 1000) : cal (d + 2) 2017 [.ref 13, .int (nI y)] (zO w F T V G gv) = some (some (.int (nI (dig 3 m r y + 1))), zO w F T V G gv) := by
  have q := fun w => q_digit (d := d) (b := 3) (w := w) (by decide) (by decide) C.2.2.2.1 hy hr
  have e4 : (3 : Int32) = nI 3 := rfl
  have e5 : (zO w F T V G gv).1 13 3 = nI r := by rw [zO_n _ _ _ _ _ _ (by decide)]; exact hx
  simp only [c_2017, e_2017_0, e_2017_1, e_2017_4, e_2017_5, e_2017_6, e_2017_9, e_2017_12, e_2017_13, e_2017_16, e_2017_17, e_2017_18, zk_int, zk_ref, zk_null, zk_none, zk_long, zisR_r, zisR_n, zcl_int, zcl_ref, zcl_null, zpush_s, zpush_n, zbs, zbn, true_or, or_true, not_false_eq_true, not_true_eq_false, ↓reduceIte, and_self, and_true, true_and, zt_13, zr_13_0, zt_14, t_waiterCount C, e5]
  rw [e4, q]
  simp only [c_2017, e_2017_0, e_2017_1, e_2017_4, e_2017_5, e_2017_6, e_2017_9, e_2017_12, e_2017_13, e_2017_16, e_2017_17, e_2017_18, zk_int, zk_ref, zk_null, zk_none, zk_long, zisR_r, zisR_n, zcl_int, zcl_ref, zcl_null, zpush_s, zpush_n, zbs, zbn, true_or, or_true, not_false_eq_true, not_true_eq_false, ↓reduceIte, and_self, and_true, true_and, nI_1]
theorem q_fP1 {R r : Nat} {V0 : Nat → Int32} (C : zTc F T n m) (hx : w.1 13 3 = nI r) (hr : r < 1000) : ∀ k j, j + k = m → den (d + 5) 2016 51 [some (.ref 13), some (.ref 1), some (.int (nI R)), some (.int (nI r)), some (.int (nI j))] [] (zO w F T (sSp V0 (fun v => nI (dig 3 m r v + 1)) j) G gv) = den (d + 5) 2016 85 [some (.ref 13), some (.ref 1), some (.int (nI R)), some (.int (nI r)), some (.int (nI m))] [] (zO w F T (sSp V0 (fun v => nI (dig 3 m r v + 1)) m) G gv) := by
  have hm4 : m ≤ 4 := C.2.2.2.1
  intro k
  induction k with
  | zero =>
    intro j hj
    have e : j = m := by omega
    subst e
    have l1 := nI_le_n (Nat.le_refl j) (by omega)
    rw [e_2016_51]
    simp only [e_2016_53, e_2016_54, e_2016_57, e_2016_60, zk_int, zk_ref, zk_null, zk_none, zk_long, zisR_r, zisR_n, zcl_int, zcl_ref, zcl_null, zpush_s, zpush_n, zbs, zbn, true_or, or_true, not_false_eq_true, not_true_eq_false, ↓reduceIte, and_self, and_true, true_and, zt_13, zr_13_0, zt_14, t_waiterCount C, l1]
  | succ k ih =>
    intro j hj
    have hjm : j < m := by omega
    have l1 := nI_ge_f hjm (by omega)
    have q1 := sSp_s V0 (fun v => nI (dig 3 m r v + 1)) j
    have q2 := fun V => t_pointsFound (d := d + 2) (w := w) (V := V) (G := G) (gv := gv) C hx hjm hr
    have q3 := fun V v => t_swp3 (d := d + 3) (w := w) (F := F) (T := T) (V := V) (G := G) (gv := gv) (y := j) (v := v) (by omega)
    rw [e_2016_51]
    simp only [c_2016, e_2016_0, e_2016_1, e_2016_4, e_2016_5, e_2016_8, e_2016_9, e_2016_12, e_2016_13, e_2016_14, e_2016_17, e_2016_18, e_2016_21, e_2016_24, e_2016_25, e_2016_26, e_2016_29, e_2016_32, e_2016_35, e_2016_36, e_2016_37, e_2016_38, e_2016_39, e_2016_40, e_2016_43, e_2016_44, e_2016_45, e_2016_48, e_2016_49, e_2016_53, e_2016_54, e_2016_57, e_2016_60, e_2016_63, e_2016_64, e_2016_67, e_2016_69, e_2016_70, e_2016_71, e_2016_73, e_2016_76, e_2016_79, e_2016_82, e_2016_86, e_2016_89, e_2016_92, e_2016_95, e_2016_96, e_2016_97, e_2016_100, e_2016_103, e_2016_104, zk_int, zk_ref, zk_null, zk_none, zk_long, zisR_r, zisR_n, zcl_int, zcl_ref, zcl_null, zpush_s, zpush_n, zbs, zbn, true_or, or_true, not_false_eq_true, not_true_eq_false, ↓reduceIte, and_self, and_true, true_and, zt_13, zr_13_0, zt_14, t_waiterCount C, l1, q1, q2, q3, nI_1]
    exact ih (j + 1) (by omega)
theorem q_fP2 {R : Nat} {V0 : Nat → Int32} (C : zTc F T n m) (hR : R ≤ 256) (hRm : R = 3 ^ m) : ∀ k r o4 x e, r + k = R →
    (∀ r0, r ≤ r0 → r0 < R → sLv T (sPr V0 m r0) G n m = 0 → (∀ r', r ≤ r' → r' < r0 → ¬ sLv T (sPr V0 m r') G n m = 0) → ∃ e2, den (d + 5) 2016 38 [some (.ref 13), some (.ref 1), some (.int (nI R)), some (.int (nI r)), o4] [] (zO (zuA w 13 (upd (w.1 13) 3 x)) F T (sSp V0 e m) G (zcpy (sGv T V0 G) gv n)) = some (some (.int 1), zO (zuA w 13 (upd (w.1 13) 3 (nI r0))) F T (sSp V0 e2 m) G (zcpy (sGv T V0 G) gv n))) ∧
    ((∀ r', r ≤ r' → r' < R → ¬ sLv T (sPr V0 m r') G n m = 0) → ∃ e2 x2, den (d + 5) 2016 38 [some (.ref 13), some (.ref 1), some (.int (nI R)), some (.int (nI r)), o4] [] (zO (zuA w 13 (upd (w.1 13) 3 x)) F T (sSp V0 e m) G (zcpy (sGv T V0 G) gv n)) = some (some (.int 0), zO (zuA w 13 (upd (w.1 13) 3 x2)) F T (sSp V0 e2 m) G (zcpy (sGv T V0 G) gv n))) := by
  have hm4 : m ≤ 4 := C.2.2.2.1
  intro k
  induction k with
  | zero =>
    intro r o4 x e hr
    have e1 : r = R := by omega
    refine ⟨fun r0 h1 h2 => by omega, fun _ => ⟨e, x, ?_⟩⟩
    have l1 : (nI R ≤ nI r) = True := nI_le_n (by omega) (by omega)
    rw [e_2016_38]
    simp only [e_2016_39, e_2016_40, e_2016_103, e_2016_104, zk_int, zk_ref, zk_null, zk_none, zk_long, zisR_r, zisR_n, zcl_int, zcl_ref, zcl_null, zpush_s, zpush_n, zbs, zbn, true_or, or_true, not_false_eq_true, not_true_eq_false, ↓reduceIte, and_self, and_true, true_and, l1]
  | succ k ih =>
    intro r o4 x e hr
    have hrR : r < R := by omega
    have l1 := nI_ge_f hrR (by omega)
    have hx : (zuA w 13 (upd (w.1 13) 3 (nI r))).1 13 3 = nI r := by rw [zA_s]; exact if_pos rfl
    have k1 := q_fP1 (d := d) (R := R) (w := zuA w 13 (upd (w.1 13) 3 (nI r))) (V0 := sSp V0 e m) (G := G) (gv := zcpy (sGv T V0 G) gv n) C hx (by omega) m 0 (by omega)
    rw [sSp_0, sSp_sSp] at k1
    have e0 : nI 0 = 0 := nI_0
    rw [e0] at k1
    have e2 : sGv T V0 G = sGv T (sPr V0 m r) G := (sGv_V (sSp_svc _ _ _)).symm
    have k2 := t_leaver (d := d) (w := zuA w 13 (upd (w.1 13) 3 (nI r))) (V := sPr V0 m r) (G := G) (gv := gv) C
    rw [← e2] at k2
    have e5 : ∀ V f, zuA (zO (zuA w 13 (upd (w.1 13) 3 x)) F T V G (zcpy (sGv T V0 G) gv n)) 13 f = zO (zuA w 13 f) F T V G (zcpy (sGv T V0 G) gv n) := fun V f => by rw [zO_un _ _ _ _ _ _ _ (by decide), zA_A]
    have e6 : ∀ V, (zO (zuA w 13 (upd (w.1 13) 3 x)) F T V G (zcpy (sGv T V0 G) gv n)).1 13 = upd (w.1 13) 3 x := fun V => by rw [zO_n _ _ _ _ _ _ (by decide), zA_s]
    have head : den (d + 5) 2016 38 [some (.ref 13), some (.ref 1), some (.int (nI R)), some (.int (nI r)), o4] [] (zO (zuA w 13 (upd (w.1 13) 3 x)) F T (sSp V0 e m) G (zcpy (sGv T V0 G) gv n)) = den (d + 5) 2016 85 [some (.ref 13), some (.ref 1), some (.int (nI R)), some (.int (nI r)), some (.int (nI m))] [] (zO (zuA w 13 (upd (w.1 13) 3 (nI r))) F T (sPr V0 m r) G (zcpy (sGv T V0 G) gv n)) := by
      rw [e_2016_38]
      simp only [e_2016_39, e_2016_40, e_2016_43, e_2016_44, e_2016_45, e_2016_48, e_2016_49, zk_int, zk_ref, zk_null, zk_none, zk_long, zisR_r, zisR_n, zcl_int, zcl_ref, zcl_null, zpush_s, zpush_n, zbs, zbn, true_or, or_true, not_false_eq_true, not_true_eq_false, ↓reduceIte, and_self, and_true, true_and, l1, zt_13, zui_A, e5, e6, upd_u, k1]
      rfl
    obtain ⟨i1, i2⟩ := ih (r + 1) (some (.int (nI m))) (nI r) (fun v => nI (dig 3 m r v + 1)) (by omega)
    by_cases hc : sLv T (sPr V0 m r) G n m = 0
    · refine ⟨fun r0 h1 h2 h3 h4 => ?_, fun h => absurd hc (h r (Nat.le_refl _) hrR)⟩
      have e7 : r0 = r := by
        rcases Nat.lt_or_ge r r0 with h | h
        · exact absurd hc (h4 r (Nat.le_refl _) h)
        · omega
      subst e7
      refine ⟨fun v => nI (dig 3 m r0 v + 1), ?_⟩
      rw [head]
      simp only [c_2016, e_2016_0, e_2016_1, e_2016_4, e_2016_5, e_2016_8, e_2016_9, e_2016_12, e_2016_13, e_2016_14, e_2016_17, e_2016_18, e_2016_21, e_2016_24, e_2016_25, e_2016_26, e_2016_29, e_2016_32, e_2016_35, e_2016_36, e_2016_37, e_2016_39, e_2016_40, e_2016_43, e_2016_44, e_2016_45, e_2016_48, e_2016_49, e_2016_53, e_2016_54, e_2016_57, e_2016_60, e_2016_63, e_2016_64, e_2016_67, e_2016_69, e_2016_70, e_2016_71, e_2016_73, e_2016_76, e_2016_79, e_2016_82, e_2016_85, e_2016_86, e_2016_89, e_2016_92, e_2016_95, e_2016_96, e_2016_97, e_2016_100, e_2016_103, e_2016_104, zk_int, zk_ref, zk_null, zk_none, zk_long, zisR_r, zisR_n, zcl_int, zcl_ref, zcl_null, zpush_s, zpush_n, zbs, zbn, true_or, or_true, not_false_eq_true, not_true_eq_false, ↓reduceIte, and_self, and_true, true_and, zt_13, zr_13_0, zt_14, k2, hc]
      rfl
    · have step : ∀ z, den (d + 5) 2016 38 [some (.ref 13), some (.ref 1), some (.int (nI R)), some (.int (nI (r + 1))), some (.int (nI m))] [] (zO (zuA w 13 (upd (w.1 13) 3 (nI r))) F T (sPr V0 m r) G (zcpy (sGv T V0 G) gv n)) = z → den (d + 5) 2016 38 [some (.ref 13), some (.ref 1), some (.int (nI R)), some (.int (nI r)), o4] [] (zO (zuA w 13 (upd (w.1 13) 3 x)) F T (sSp V0 e m) G (zcpy (sGv T V0 G) gv n)) = z := by
        intro z hz
        rw [head]
        simp only [c_2016, e_2016_0, e_2016_1, e_2016_4, e_2016_5, e_2016_8, e_2016_9, e_2016_12, e_2016_13, e_2016_14, e_2016_17, e_2016_18, e_2016_21, e_2016_24, e_2016_25, e_2016_26, e_2016_29, e_2016_32, e_2016_35, e_2016_36, e_2016_37, e_2016_39, e_2016_40, e_2016_43, e_2016_44, e_2016_45, e_2016_48, e_2016_49, e_2016_53, e_2016_54, e_2016_57, e_2016_60, e_2016_63, e_2016_64, e_2016_67, e_2016_69, e_2016_70, e_2016_71, e_2016_73, e_2016_76, e_2016_79, e_2016_82, e_2016_85, e_2016_86, e_2016_89, e_2016_92, e_2016_95, e_2016_96, e_2016_97, e_2016_100, e_2016_103, e_2016_104, zk_int, zk_ref, zk_null, zk_none, zk_long, zisR_r, zisR_n, zcl_int, zcl_ref, zcl_null, zpush_s, zpush_n, zbs, zbn, true_or, or_true, not_false_eq_true, not_true_eq_false, ↓reduceIte, and_self, and_true, true_and, zt_13, zr_13_0, zt_14, k2, hc, nI_1]
        exact hz
      refine ⟨fun r0 h1 h2 h3 h4 => ?_, fun h => ?_⟩
      · have h5 : r + 1 ≤ r0 := by
          rcases Nat.lt_or_ge r r0 with h | h
          · exact h
          · have e7 : r0 = r := by omega
            subst e7
            exact absurd h3 hc
        obtain ⟨e3, h6⟩ := i1 r0 h5 h2 h3 (fun r' g1 g2 => h4 r' (by omega) g2)
        exact ⟨e3, step _ h6⟩
      · obtain ⟨e3, x3, h6⟩ := i2 (fun r' g1 g2 => h r' (by omega) g2)
        exact ⟨e3, x3, step _ h6⟩
end FPT
theorem q_fP0 {d n m : Nat} {w : zM} (H1 : zHz w 1) (H14 : zHz w 14) (C : zTc (w.1 1) (w.1 2) n m) : cal (d + 5) 2016 [.ref 13, .ref 1] w = den (d + 5) 2016 38 [some (.ref 13), some (.ref 1), some (.int (nI (3 ^ m))), some (.int (nI 0)), none] [] (zO (zuA w 13 (upd (w.1 13) 3 (w.1 13 3))) (w.1 1) (w.1 2) (sSp (w.1 3) (fun v => w.1 3 (6 * v + 3)) m) (upd (w.1 4) 0 2) (zcpy (sGv (w.1 2) (w.1 3) (upd (w.1 4) 0 2)) (w.1 18) n)) := by
  have hm4 : m ≤ 4 := C.2.2.2.1
  have q := fun w => q_power (d := d + 4) (w := w) (b := nI 3) (n := m) (show m < 2 ^ 31 by omega)
  have e4 : (3 : Int32) = nI 3 := rfl
  have e0 : nI 0 = 0 := nI_0
  rw [upd_id, zA_id, sSp_id, e0]
  simp only [c_2016, e_2016_0, e_2016_1, e_2016_4, e_2016_5, e_2016_8, e_2016_9, e_2016_12, e_2016_13, e_2016_14, e_2016_17, e_2016_18, e_2016_21, e_2016_24, e_2016_25, e_2016_26, e_2016_29, e_2016_32, e_2016_35, e_2016_36, e_2016_37, e_2016_39, e_2016_40, e_2016_43, e_2016_44, e_2016_45, e_2016_48, e_2016_49, e_2016_53, e_2016_54, e_2016_57, e_2016_60, e_2016_63, e_2016_64, e_2016_67, e_2016_69, e_2016_70, e_2016_71, e_2016_73, e_2016_76, e_2016_79, e_2016_82, e_2016_86, e_2016_89, e_2016_92, e_2016_95, e_2016_96, e_2016_97, e_2016_100, e_2016_103, e_2016_104, zk_int, zk_ref, zk_null, zk_none, zk_long, zisR_r, zisR_n, zcl_int, zcl_ref, zcl_null, zpush_s, zpush_n, zbs, zbn, true_or, or_true, not_false_eq_true, not_true_eq_false, ↓reduceIte, and_self, and_true, true_and, zt_13, zr_13_0, zt_14, t_become H1 H14, t_settle0, t_reckon C, t_waiterCount C]
  rw [e4, q, zpow_nI]
  simp only [c_2016, e_2016_0, e_2016_1, e_2016_4, e_2016_5, e_2016_8, e_2016_9, e_2016_12, e_2016_13, e_2016_14, e_2016_17, e_2016_18, e_2016_21, e_2016_24, e_2016_25, e_2016_26, e_2016_29, e_2016_32, e_2016_35, e_2016_36, e_2016_37, e_2016_39, e_2016_40, e_2016_43, e_2016_44, e_2016_45, e_2016_48, e_2016_49, e_2016_53, e_2016_54, e_2016_57, e_2016_60, e_2016_63, e_2016_64, e_2016_67, e_2016_69, e_2016_70, e_2016_71, e_2016_73, e_2016_76, e_2016_79, e_2016_82, e_2016_86, e_2016_89, e_2016_92, e_2016_95, e_2016_96, e_2016_97, e_2016_100, e_2016_103, e_2016_104, zk_int, zk_ref, zk_null, zk_none, zk_long, zisR_r, zisR_n, zcl_int, zcl_ref, zcl_null, zpush_s, zpush_n, zbs, zbn, true_or, or_true, not_false_eq_true, not_true_eq_false, ↓reduceIte, and_self, and_true, true_and]
theorem q_findPoints {d n m r0 : Nat} {w : zM} (H1 : zHz w 1) (H14 : zHz w 14) (C : zTc (w.1 1) (w.1 2) n m) (hr : r0 < 3 ^ m) (h0 : sLp (w.1 2) (w.1 3) (w.1 4) n m r0 = 0) (h1 : ∀ r', r' < r0 → ¬ sLp (w.1 2) (w.1 3) (w.1 4) n m r' = 0) : ∃ e2 gv2, cal (d + 5) 2016 [.ref 13, .ref 1] w = some (some (.int 1), zO (zuA w 13 (upd (w.1 13) 3 (nI r0))) (w.1 1) (w.1 2) (sSp (w.1 3) e2 m) (upd (w.1 4) 0 2) gv2) := by
  have hm4 : m ≤ 4 := C.2.2.2.1
  obtain ⟨p1, p2⟩ := pow_le4 (b := 3) (k := m) (by decide) (by decide) hm4
  obtain ⟨e2, h⟩ := (q_fP2 (d := d) (w := w) (V0 := w.1 3) (G := upd (w.1 4) 0 2) (gv := w.1 18) C p2 rfl (3 ^ m) 0 none (w.1 13 3) (fun v => w.1 3 (6 * v + 3)) (by omega)).1 r0 (Nat.zero_le _) hr h0 (fun r' _ h => h1 r' h)
  exact ⟨e2, _, (q_fP0 H1 H14 C).trans h⟩
theorem q_findPoints_0 {d n m : Nat} {w : zM} (H1 : zHz w 1) (H14 : zHz w 14) (C : zTc (w.1 1) (w.1 2) n m) (h1 : ∀ r', r' < 3 ^ m → ¬ sLp (w.1 2) (w.1 3) (w.1 4) n m r' = 0) : ∃ e2 gv2 x2, cal (d + 5) 2016 [.ref 13, .ref 1] w = some (some (.int 0), zO (zuA w 13 (upd (w.1 13) 3 x2)) (w.1 1) (w.1 2) (sSp (w.1 3) e2 m) (upd (w.1 4) 0 2) gv2) := by
  have hm4 : m ≤ 4 := C.2.2.2.1
  obtain ⟨p1, p2⟩ := pow_le4 (b := 3) (k := m) (by decide) (by decide) hm4
  obtain ⟨e2, x2, h⟩ := (q_fP2 (d := d) (w := w) (V0 := w.1 3) (G := upd (w.1 4) 0 2) (gv := w.1 18) C p2 rfl (3 ^ m) 0 none (w.1 13 3) (fun v => w.1 3 (6 * v + 3)) (by omega)).2 (fun r' _ h => h1 r' h)
  exact ⟨e2, _, x2, (q_fP0 H1 H14 C).trans h⟩
