def zO (w : zM) (F T V G gv : Nat → Int32) : zM := zuA (zuA (zuA (zuA (zuA w 14 F) 15 T) 16 V) 17 G) 18 gv
theorem zO_14 (w : zM) (F T V G gv : Nat → Int32) : (zO w F T V G gv).1 14 = F := by
  unfold zO
  rw [zA_n _ _ (by decide), zA_n _ _ (by decide), zA_n _ _ (by decide), zA_n _ _ (by decide), zA_s]
theorem zO_15 (w : zM) (F T V G gv : Nat → Int32) : (zO w F T V G gv).1 15 = T := by
  unfold zO
  rw [zA_n _ _ (by decide), zA_n _ _ (by decide), zA_n _ _ (by decide), zA_s]
theorem zO_16 (w : zM) (F T V G gv : Nat → Int32) : (zO w F T V G gv).1 16 = V := by
  unfold zO
  rw [zA_n _ _ (by decide), zA_n _ _ (by decide), zA_s]
theorem zO_17 (w : zM) (F T V G gv : Nat → Int32) : (zO w F T V G gv).1 17 = G := by
  unfold zO
  rw [zA_n _ _ (by decide), zA_s]
theorem zO_18 (w : zM) (F T V G gv : Nat → Int32) : (zO w F T V G gv).1 18 = gv := by
  unfold zO
  rw [zA_s]
theorem zO_n (w : zM) (F T V G gv : Nat → Int32) {a : Nat} (ha : a < 14 ∨ 18 < a) : (zO w F T V G gv).1 a = w.1 a := by
  unfold zO
  rw [zA_n _ _ (by omega), zA_n _ _ (by omega), zA_n _ _ (by omega), zA_n _ _ (by omega), zA_n _ _ (by omega)]
theorem zO_2 (w : zM) (F T V G gv : Nat → Int32) : (zO w F T V G gv).2 = w.2 := id rfl
theorem zO_u14 (w : zM) (F T V G gv f : Nat → Int32) : zuA (zO w F T V G gv) 14 f = zO w f T V G gv := by
  unfold zO
  rw [zA_c _ _ _ (by decide), zA_c _ (a := 17) (b := 14) _ _ (by decide), zA_c _ (a := 16) (b := 14) _ _ (by decide), zA_c _ (a := 15) (b := 14) _ _ (by decide), zA_A]
theorem zO_u15 (w : zM) (F T V G gv f : Nat → Int32) : zuA (zO w F T V G gv) 15 f = zO w F f V G gv := by
  unfold zO
  rw [zA_c _ _ _ (by decide), zA_c _ (a := 17) (b := 15) _ _ (by decide), zA_c _ (a := 16) (b := 15) _ _ (by decide), zA_A]
theorem zO_u16 (w : zM) (F T V G gv f : Nat → Int32) : zuA (zO w F T V G gv) 16 f = zO w F T f G gv := by
  unfold zO
  rw [zA_c _ _ _ (by decide), zA_c _ (a := 17) (b := 16) _ _ (by decide), zA_A]
theorem zO_u17 (w : zM) (F T V G gv f : Nat → Int32) : zuA (zO w F T V G gv) 17 f = zO w F T V f gv := by
  unfold zO
  rw [zA_c _ _ _ (by decide), zA_A]
theorem zO_u18 (w : zM) (F T V G gv f : Nat → Int32) : zuA (zO w F T V G gv) 18 f = zO w F T V G f := by
  unfold zO
  rw [zA_A]
theorem zO_un (w : zM) (F T V G gv f : Nat → Int32) {a : Nat} (ha : a < 14 ∨ 18 < a) : zuA (zO w F T V G gv) a f = zO (zuA w a f) F T V G gv := by
  unfold zO
  rw [zA_c _ _ _ (by omega), zA_c _ (a := 17) (b := a) _ _ (by omega), zA_c _ (a := 16) (b := a) _ _ (by omega), zA_c _ (a := 15) (b := a) _ _ (by omega), zA_c _ (a := 14) (b := a) _ _ (by omega)]
def zTc (F T : Nat → Int32) (n m : Nat) : Prop := F 3 = nI n ∧ n ≤ 8 ∧ F 4 = nI m ∧ m ≤ 4 ∧ ∀ t, t < n → ∃ y, y < m ∧ T (5 * t + 4) = nI y
theorem zHs14 : zHs 14 := Or.inr (Or.inr (Or.inl rfl))
theorem zHs1 : zHs 1 := Or.inl rfl
theorem zHs6 : zHs 6 := Or.inr (Or.inl rfl)
theorem zHs26 : zHs 26 := Or.inr (Or.inr (Or.inr rfl))
theorem zTc_C {w : zM} {F T V G gv : Nat → Int32} {n m : Nat} (C : zTc F T n m) : zHc (zO w F T V G gv) 14 n m := ⟨zHs14, by rw [zO_14]; exact C.1, C.2.1, by rw [zO_14]; exact C.2.2.1, C.2.2.2.1⟩
theorem zTc_V {w : zM} {F T V G gv : Nat → Int32} {n m : Nat} (C : zTc F T n m) : zHv (zO w F T V G gv) 14 n m := by
  intro t ht
  rw [zO_15]
  exact C.2.2.2.2 t ht
theorem zHc_O {w : zM} {F T V G gv : Nat → Int32} {n m : Nat} (C : zHc w 1 n m) : zHc (zO w F T V G gv) 1 n m := ⟨zHs1, by rw [zO_n _ _ _ _ _ _ (by decide)]; exact C.2.1, C.2.2.1, by rw [zO_n _ _ _ _ _ _ (by decide)]; exact C.2.2.2.1, C.2.2.2.2⟩
def zHz (w : zM) (h : Nat) : Prop := (∀ k, 40 ≤ k → w.1 (h + 1) k = 0) ∧ (∀ k, 24 ≤ k → w.1 (h + 2) k = 0) ∧ (∀ k, 5 ≤ k → w.1 (h + 3) k = 0) ∧ (∀ k, k < 3 ∨ 8 ≤ k → w.1 h k = 0)
theorem zcpy_z {f g : Nat → Int32} {n : Nat} (hf : ∀ k, n ≤ k → f k = 0) (hg : ∀ k, n ≤ k → g k = 0) : zcpy f g n = f := by
  funext k
  unfold zcpy
  by_cases h : k < n
  · rw [if_pos h]
  · rw [if_neg h, hf k (by omega), hg k (by omega)]
theorem zfld_z {f g : Nat → Int32} (hf : ∀ k, k < 3 ∨ 8 ≤ k → f k = 0) (hg : ∀ k, k < 3 ∨ 8 ≤ k → g k = 0) : upd (upd (upd (upd (upd f 3 (g 3)) 4 (g 4)) 5 (g 5)) 6 (g 6)) 7 (g 7) = g := by
  funext k
  unfold upd
  by_cases h7 : k = 7
  · rw [if_pos h7, h7]
  · by_cases h6 : k = 6
    · rw [if_neg h7, if_pos h6, h6]
    · by_cases h5 : k = 5
      · rw [if_neg h7, if_neg h6, if_pos h5, h5]
      · by_cases h4 : k = 4
        · rw [if_neg h7, if_neg h6, if_neg h5, if_pos h4, h4]
        · by_cases h3 : k = 3
          · rw [if_neg h7, if_neg h6, if_neg h5, if_neg h4, if_pos h3, h3]
          · rw [if_neg h7, if_neg h6, if_neg h5, if_neg h4, if_neg h3, hf k (by omega), hg k (by omega)]
def sHs (w : zM) (h : Nat) (F T V G : Nat → Int32) : zM := zuA (zuA (zuA (zuA w (h + 1) T) (h + 2) V) (h + 3) G) h F
theorem sBec_z {w : zM} {h k : Nat} (Hz : zHz w h) (Kz : zHz w k) : sBec w h k = sHs w h (w.1 k) (w.1 (k + 1)) (w.1 (k + 2)) (w.1 (k + 3)) := by
  unfold sBec sHs
  rw [zcpy_z Kz.1 Hz.1, zcpy_z Kz.2.1 Hz.2.1, zcpy_z Kz.2.2.1 Hz.2.2.1, zfld_z Hz.2.2.2 Kz.2.2.2]
theorem sHs_O (w : zM) (F T V G : Nat → Int32) : sHs w 14 F T V G = zO w F T V G (w.1 18) := by
  unfold sHs zO
  have e : (zuA (zuA (zuA (zuA w 14 F) 15 T) 16 V) 17 G).1 18 = w.1 18 := by
    rw [zA_n _ _ (by decide), zA_n _ _ (by decide), zA_n _ _ (by decide), zA_n _ _ (by decide)]
  rw [← e, zA_id]
  rw [zA_c _ _ _ (by decide), zA_c _ (a := 16) (b := 14) _ _ (by decide), zA_c _ (a := 15) (b := 14) _ _ (by decide)]
theorem t_become {d : Nat} {w : zM} (H1 : zHz w 1) (H14 : zHz w 14) : cal (d + 1) 1001 [.ref 14, .ref 1] w = some (none, zO w (w.1 1) (w.1 2) (w.1 3) (w.1 4) (w.1 18)) := by
  rw [q_becomeAs zHs14 zHs1 (by decide), sBec_z H14 H1, sHs_O]
theorem zsum_gv {f g : Nat → Int32} {n : Nat} (h : ∀ t, t < n → f t = g t) : zsum f n = zsum g n := zsum_c n h
theorem sOwn_g {T f g : Nat → Int32} {y : Int32} {n : Nat} (h : ∀ t, t < n → f t = g t) : zsum (sOwnF T f y) n = zsum (sOwnF T g y) n := zsum_c n (fun t ht => by unfold sOwnF; rw [h t ht])
theorem sShr_g {T V G f g : Nat → Int32} {n m y : Nat} (h : ∀ t, t < n → f t = g t) : sShr T V G f n m y = sShr T V G g n m y := by
  unfold sShr sPot sByP
  rw [zsum_gv h, sOwn_g h]
theorem sGain_g {T V G f g : Nat → Int32} {n m y : Nat} (h : ∀ t, t < n → f t = g t) : sGain T V G f n m y = sGain T V G g n m y := by
  unfold sGain
  rw [sShr_g h]
theorem zor_c {f g : Nat → Int32} : ∀ n, (∀ i, i < n → f i = g i) → zor f n = zor g n := by
  intro n
  induction n with
  | zero => intro _; rfl
  | succ n ih =>
    intro h
    show zor f n ||| f n = zor g n ||| g n
    rw [ih (fun i hi => h i (by omega)), h n (by omega)]
theorem sLv_g {T V G f g : Nat → Int32} {n m : Nat} (h : ∀ t, t < n → f t = g t) : zor (sLvF T V G f n m) m = zor (sLvF T V G g n m) m := zor_c m (fun j _ => by unfold sLvF; rw [sShr_g h])
theorem zcpy_lt (f g : Nat → Int32) (n : Nat) : ∀ t, t < n → zcpy f g n t = f t := fun t ht => if_pos ht
def sGn (T V G : Nat → Int32) (n m y : Nat) : Int32 := sGain T V G (sGv T V G) n m y
def sLv (T V G : Nat → Int32) (n m : Nat) : Int32 := zor (sLvF T V G (sGv T V G) n m) m
section TRL
variable {d n m : Nat} {w : zM} {F T V G gv : Nat → Int32}
theorem t_swp1 {y : Nat} {v : Int32} (hy : y < 4) : cal (d + 1) 1022 [.ref 14, .int (nI y), .int 1, .int v] (zO w F T V G gv) = some (none, zO w F T (upd V (6 * y + 1) v) G gv) := by
  rw [q_setWaiterPart_1 zHs14 hy, zO_16, zO_u16]
theorem t_swp3 {y : Nat} {v : Int32} (hy : y < 4) : cal (d + 1) 1022 [.ref 14, .int (nI y), .int 3, .int v] (zO w F T V G gv) = some (none, zO w F T (upd V (6 * y + 3) v) G gv) := by
  rw [q_setWaiterPart_3 zHs14 hy, zO_16, zO_u16]
theorem t_swp0 {y : Nat} {v : Int32} (hy : y < 4) : cal (d + 1) 1022 [.ref 14, .int (nI y), .int 0, .int v] (zO w F T V G gv) = some (none, zO w F T (upd V (6 * y + 0) v) G gv) := by
  rw [q_setWaiterPart_0 zHs14 hy, zO_16, zO_u16]
theorem t_srv {t : Nat} {v : Int32} (ht : t < 8) : cal (d + 2) 1020 [.ref 14, .int (nI t), .int v] (zO w F T V G gv) = some (none, zO w F (upd T (5 * t + 4) v) V G gv) := by
  rw [q_setServer zHs14 ht, zO_15, zO_u15]
theorem t_settle0 {v : Int32} : cal (d + 1) 1024 [.ref 14, .int 0, .int v] (zO w F T V G gv) = some (none, zO w F T V (upd G 0 v) gv) := by
  rw [q_settle_0 zHs14, zO_17, zO_u17]
theorem t_settle1 {v : Int32} : cal (d + 1) 1024 [.ref 14, .int 1, .int v] (zO w F T V G gv) = some (none, zO w F T V (upd G 1 v) gv) := by
  rw [q_settle_1 zHs14, zO_17, zO_u17]
theorem t_reckon (C : zTc F T n m) : cal (d + 4) 1034 [.ref 14] (zO w F T V G gv) = some (none, zO w F T V G (zcpy (sGv T V G) gv n)) := by
  rw [q_reckon (zTc_C C) (zTc_V C)]
  unfold sRk
  rw [zO_15, zO_16, zO_17, zO_18, zO_u18]
theorem t_gainOf {y : Nat} (C : zTc F T n m) (hy : y < m) : cal (d + 4) 1043 [.ref 14, .int (nI y)] (zO w F T V G (zcpy (sGv T V G) gv n)) = some (some (.int (sGn T V G n m y)), zO w F T V G (zcpy (sGv T V G) gv n)) := by
  rw [q_gainOf (zTc_C C) hy, zO_15, zO_16, zO_17, zO_18, sGain_g (zcpy_lt _ _ _)]
  rfl
theorem t_leaver (C : zTc F T n m) : cal (d + 4) 1044 [.ref 14] (zO w F T V G (zcpy (sGv T V G) gv n)) = some (some (.int (sLv T V G n m)), zO w F T V G (zcpy (sGv T V G) gv n)) := by
  rw [q_leaverBits (zTc_C C), zO_15, zO_16, zO_17, zO_18, sLv_g (zcpy_lt _ _ _)]
  rfl
theorem t_ownOf {y : Int32} (C : zTc F T n m) : cal (d + 2) 1039 [.ref 14, .int y] (zO w F T V G (zcpy (sGv T V G) gv n)) = some (some (.int (zsum (sOwnF T (sGv T V G) y) n)), zO w F T V G (zcpy (sGv T V G) gv n)) := by
  rw [q_ownOf (zTc_C C), zO_15, zO_18, sOwn_g (zcpy_lt _ _ _)]
theorem t_givenByAll (C : zTc F T n m) : cal (d + 1) 1038 [.ref 14] (zO w F T V G (zcpy (sGv T V G) gv n)) = some (some (.int (zsum (sGv T V G) n)), zO w F T V G (zcpy (sGv T V G) gv n)) := by
  rw [q_givenByAll (zTc_C C), zO_18, zsum_gv (zcpy_lt _ _ _)]
theorem t_waiterCount (C : zTc F T n m) : cal d 1003 [.ref 14] (zO w F T V G gv) = some (some (.int (nI m)), zO w F T V G gv) := by
  have e := C.2.2.1
  simp only [c_1003, e_1003_0, e_1003_1, e_1003_4, zk_int, zk_ref, zk_null, zk_none, zk_long, zisR_r, zisR_n, zcl_int, zcl_ref, zcl_null, zpush_s, zpush_n, zbs, zbn, true_or, or_true, not_false_eq_true, not_true_eq_false, ↓reduceIte, and_self, and_true, true_and, zt_14, zO_14, e]
theorem t_tableCount (C : zTc F T n m) : cal d 1002 [.ref 14] (zO w F T V G gv) = some (some (.int (nI n)), zO w F T V G gv) := by
  have e := C.1
  simp only [c_1002, e_1002_0, e_1002_1, e_1002_4, zk_int, zk_ref, zk_null, zk_none, zk_long, zisR_r, zisR_n, zcl_int, zcl_ref, zcl_null, zpush_s, zpush_n, zbs, zbn, true_or, or_true, not_false_eq_true, not_true_eq_false, ↓reduceIte, and_self, and_true, true_and, zt_14, zO_14, e]
end TRL
theorem q_gainWith {d n m y : Nat} {w : zM} {v : Int32} (H1 : zHz w 1) (H14 : zHz w 14) (C : zTc (w.1 1) (w.1 2) n m) (hy : y < m) : cal (d + 5) 2001 [.ref 13, .ref 1, .int (nI y), .int v] w = some (some (.int (sGn (w.1 2) (upd (w.1 3) (6 * y + 1) v) (w.1 4) n m y)), zO w (w.1 1) (w.1 2) (upd (w.1 3) (6 * y + 1) v) (w.1 4) (zcpy (sGv (w.1 2) (upd (w.1 3) (6 * y + 1) v) (w.1 4)) (w.1 18) n)) := by
  have hy4 : y < 4 := Nat.lt_of_lt_of_le hy C.2.2.2.1
  simp only [c_2001, e_2001_0, e_2001_1, e_2001_4, e_2001_5, e_2001_8, e_2001_9, e_2001_12, e_2001_13, e_2001_14, e_2001_15, e_2001_18, e_2001_19, e_2001_22, e_2001_25, e_2001_26, e_2001_29, e_2001_30, e_2001_33, zk_int, zk_ref, zk_null, zk_none, zk_long, zisR_r, zisR_n, zcl_int, zcl_ref, zcl_null, zpush_s, zpush_n, zbs, zbn, true_or, or_true, not_false_eq_true, not_true_eq_false, ↓reduceIte, and_self, and_true, true_and, zt_13, zr_13_0, zt_14, t_become H1 H14, t_swp1 hy4, t_reckon C, t_gainOf C hy]
def sSe (V : Nat → Int32) (e : Nat → Int32) (j : Nat) : Nat → Int32 := fun k => if k % 6 = 1 ∧ k / 6 < j then e (k / 6) else V k
theorem sSe_s (V e : Nat → Int32) (j : Nat) : upd (sSe V e j) (6 * j + 1) (e j) = sSe V e (j + 1) := by
  funext k
  unfold upd sSe
  by_cases h : k = 6 * j + 1
  · rw [if_pos h, if_pos (by omega)]
    congr 1
    omega
  · rw [if_neg h]
    by_cases h2 : k % 6 = 1 ∧ k / 6 < j
    · rw [if_pos h2, if_pos (by omega)]
    · rw [if_neg h2, if_neg (by omega)]
theorem sSe_0 (V e : Nat → Int32) : sSe V e 0 = V := by
  funext k
  exact if_neg (by omega)
theorem q_gainByTold {d n m y s z : Nat} {w : zM} (H1 : zHz w 1) (H14 : zHz w 14) (C : zTc (w.1 1) (w.1 2) n m) (hy : y < m) (S : zSs s) (hz : w.1 s 2 = nI z) (hz1 : z ≤ 160) (hm : m ≤ z) : ∃ gv, cal (d + 5) 2002 [.ref 13, .ref 1, .ref s, .int (nI y)] w = some (some (.int (sGn (w.1 2) (sSe (w.1 3) (fun v => (w.2 (s + 1) v).toInt32) m) (w.1 4) n m y)), zO w (w.1 1) (w.1 2) (sSe (w.1 3) (fun v => (w.2 (s + 1) v).toInt32) m) (w.1 4) gv) := by
  refine ⟨zcpy (sGv (w.1 2) (sSe (w.1 3) (fun v => (w.2 (s + 1) v).toInt32) m) (w.1 4)) (w.1 18) n, ?_⟩
  have hm4 : m ≤ 4 := C.2.2.2.1
  obtain ⟨s1, s2, s3, s4⟩ := zSs_f S
  have hs13 : s < 14 ∨ 18 < s := by unfold zSs at S; omega
  have key : ∀ r j, j + r = m → den (d + 5) 2002 11 [some (.ref 13), some (.ref 1), some (.ref s), some (.int (nI y)), some (.int (nI j))] [] (zO w (w.1 1) (w.1 2) (sSe (w.1 3) (fun v => (w.2 (s + 1) v).toInt32) j) (w.1 4) (w.1 18)) = some (some (.int (sGn (w.1 2) (sSe (w.1 3) (fun v => (w.2 (s + 1) v).toInt32) m) (w.1 4) n m y)), zO w (w.1 1) (w.1 2) (sSe (w.1 3) (fun v => (w.2 (s + 1) v).toInt32) m) (w.1 4) (zcpy (sGv (w.1 2) (sSe (w.1 3) (fun v => (w.2 (s + 1) v).toInt32) m) (w.1 4)) (w.1 18) n)) := by
    intro r
    induction r with
    | zero =>
      intro j hj
      have e : j = m := by omega
      subst e
      have l1 := nI_le_n (Nat.le_refl j) (by omega)
      simp only [c_2002, e_2002_0, e_2002_1, e_2002_4, e_2002_5, e_2002_8, e_2002_9, e_2002_11, e_2002_13, e_2002_14, e_2002_17, e_2002_20, e_2002_23, e_2002_24, e_2002_27, e_2002_29, e_2002_30, e_2002_31, e_2002_33, e_2002_36, e_2002_39, e_2002_42, e_2002_45, e_2002_46, e_2002_49, e_2002_52, e_2002_53, e_2002_56, e_2002_57, e_2002_60, zk_int, zk_ref, zk_null, zk_none, zk_long, zisR_r, zisR_n, zcl_int, zcl_ref, zcl_null, zpush_s, zpush_n, zbs, zbn, true_or, or_true, not_false_eq_true, not_true_eq_false, ↓reduceIte, and_self, and_true, true_and, zt_13, zr_13_0, zt_14, t_waiterCount C, l1, t_reckon C, t_gainOf C hy]
    | succ r ih =>
      intro j hj
      have hjm : j < m := by omega
      have hj4 : j < 4 := by omega
      have l1 := nI_ge_f hjm (by omega)
      have q1 := q_intAt (d := d + 3) (w := zO w (w.1 1) (w.1 2) (sSe (w.1 3) (fun v => (w.2 (s + 1) v).toInt32) j) (w.1 4) (w.1 18)) S (by rw [zO_n _ _ _ _ _ _ hs13]; exact hz) hz1 (j := j) (by omega)
      rw [zO_2] at q1
      have q2 := sSe_s (w.1 3) (fun v => (w.2 (s + 1) v).toInt32) j
      rw [e_2002_11]
      simp only [c_2002, e_2002_0, e_2002_1, e_2002_4, e_2002_5, e_2002_8, e_2002_9, e_2002_13, e_2002_14, e_2002_17, e_2002_20, e_2002_23, e_2002_24, e_2002_27, e_2002_29, e_2002_30, e_2002_31, e_2002_33, e_2002_36, e_2002_39, e_2002_42, e_2002_45, e_2002_46, e_2002_49, e_2002_52, e_2002_53, e_2002_56, e_2002_57, e_2002_60, zk_int, zk_ref, zk_null, zk_none, zk_long, zisR_r, zisR_n, zcl_int, zcl_ref, zcl_null, zpush_s, zpush_n, zbs, zbn, true_or, or_true, not_false_eq_true, not_true_eq_false, ↓reduceIte, and_self, and_true, true_and, zt_13, zr_13_0, zt_14, s1, t_waiterCount C, l1, q1, t_swp1 hj4, nI_1, q2]
      exact ih (j + 1) (by omega)
  have h1 := key m 0 (by omega)
  rw [sSe_0] at h1
  simp only [c_2002, e_2002_0, e_2002_1, e_2002_4, e_2002_5, e_2002_8, e_2002_9, e_2002_13, e_2002_14, e_2002_17, e_2002_20, e_2002_23, e_2002_24, e_2002_27, e_2002_29, e_2002_30, e_2002_31, e_2002_33, e_2002_36, e_2002_39, e_2002_42, e_2002_45, e_2002_46, e_2002_49, e_2002_52, e_2002_53, e_2002_56, e_2002_57, e_2002_60, zk_int, zk_ref, zk_null, zk_none, zk_long, zisR_r, zisR_n, zcl_int, zcl_ref, zcl_null, zpush_s, zpush_n, zbs, zbn, true_or, or_true, not_false_eq_true, not_true_eq_false, ↓reduceIte, and_self, and_true, true_and, zt_13, zr_13_0, zt_14, t_become H1 H14]
  exact h1
theorem q_worthOf {d n m y : Nat} {w : zM} (H1 : zHz w 1) (H14 : zHz w 14) (C : zTc (w.1 1) (w.1 2) n m) (C1 : zHc w 1 n m) (hy : y < m) : ∃ gv, cal (d + 5) 2029 [.ref 13, .ref 1, .int (nI y)] w = some (some (.int (zsum (sGv (w.1 2) (upd (w.1 3) (6 * y + 0) (w.1 3 (6 * y + 0) + 1)) (w.1 4)) n - zsum (sGv (w.1 2) (w.1 3) (w.1 4)) n)), zO w (w.1 1) (w.1 2) (upd (w.1 3) (6 * y + 0) (w.1 3 (6 * y + 0) + 1)) (w.1 4) gv) := by
  refine ⟨zcpy (sGv (w.1 2) (upd (w.1 3) (6 * y + 0) (w.1 3 (6 * y + 0) + 1)) (w.1 4)) (zcpy (sGv (w.1 2) (w.1 3) (w.1 4)) (w.1 18) n) n, ?_⟩
  have hy4 : y < 4 := Nat.lt_of_lt_of_le hy C.2.2.2.1
  have q1 := fun F T V G gv => q_waiterPart_0 (d := d + 3) (w := zO w F T V G gv) (zHc_O C1) hy
  have e3 : ∀ F T V G gv, (zO w F T V G gv).1 (1 + 2) = w.1 3 := fun F T V G gv => zO_n _ _ _ _ _ _ (by decide)
  simp only [e3] at q1
  simp only [c_2029, e_2029_0, e_2029_1, e_2029_4, e_2029_5, e_2029_8, e_2029_9, e_2029_12, e_2029_15, e_2029_16, e_2029_19, e_2029_22, e_2029_23, e_2029_24, e_2029_27, e_2029_28, e_2029_29, e_2029_30, e_2029_31, e_2029_32, e_2029_35, e_2029_36, e_2029_37, e_2029_40, e_2029_41, e_2029_44, e_2029_47, e_2029_48, e_2029_51, e_2029_54, e_2029_55, e_2029_56, zk_int, zk_ref, zk_null, zk_none, zk_long, zisR_r, zisR_n, zcl_int, zcl_ref, zcl_null, zpush_s, zpush_n, zbs, zbn, true_or, or_true, not_false_eq_true, not_true_eq_false, ↓reduceIte, and_self, and_true, true_and, zt_13, zr_13_0, zt_14, zt_1, t_become H1 H14, t_reckon C, t_givenByAll C, q1, t_swp0 hy4]
