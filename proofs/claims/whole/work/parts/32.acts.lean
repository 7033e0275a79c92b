def sPu (q : Nat × (Nat → Int32)) (b : Int32) : Nat × (Nat → Int32) := (q.1 + 1, if q.1 < 20 then upd q.2 q.1 b else q.2)
def sTS (c : Nat) (q : Nat × (Nat → Int32)) : Nat × (Nat → Int32) := match c with
  | 0 => sPu q 10
  | 4 => sPu q 10
  | 5 => sPu (sPu (sPu q 70) 20) 10
  | 6 => sPu (sPu (sPu q 51) 20) 10
  | _ => sPu (sPu q 20) 10
def sVS (c : Nat) (y m k : Int32) : Int32 := match c with
  | 0 => y + m + 0
  | 4 => y + m + 0
  | 5 => (y + m + k) * 2
  | 6 => y + m + k - m
  | _ => y + m + k
def sTG (c : Nat) (q : Nat × (Nat → Int32)) : Nat × (Nat → Int32) := match c with
  | 2 => sTS 2 (sPu (sPu q 30) 11)
  | 3 => sTS 3 (sPu (sPu q 40) 11)
  | 5 => sTS 5 (sPu (sPu q 71) 11)
  | 6 => sTS 6 (sPu (sPu q 40) 11)
  | c => sTS c (sPu q 11)
def sVG (c : Nat) (y m k : Int32) : Int32 := match c with
  | 2 => sVS 2 y m k * 2 * 3
  | 3 => sVS 3 (y + 1) m k * 2
  | 5 => sVS 5 (y - k) m k * 2
  | 6 => sVS 6 (y + 1) m k * 2
  | c => sVS c y m k * 2
def sTY (c : Nat) (q : Nat × (Nat → Int32)) : Nat × (Nat → Int32) := match c with
  | 6 => sTS 6 (sTG 6 (sPu (sPu q 50) 12))
  | 4 => sTS 4 (sTG 4 (sPu (sPu q 60) 12))
  | c => sTS c (sTG c (sPu q 12))
def sVY (c : Nat) (y m k : Int32) : Int32 := match c with
  | 6 => -(sVG 6 y m k ^^^ sVS 6 (y - k) m k)
  | 4 => (sVG 4 y m k ^^^ sVS 4 (y - k) m k) ^^^ 5
  | c => sVG c y m k ^^^ sVS c (y - k) m k
def sAcW (w : zM) (q : Nat × (Nat → Int32)) : zM := zuA (zuA w 11 (upd (w.1 11) 1 (nI q.1))) 12 q.2
theorem sAcW_1 (w : zM) (q : Nat × (Nat → Int32)) : (sAcW w q).1 11 1 = nI q.1 := by
  unfold sAcW
  rw [zA_n _ _ (by decide), zA_s]
  exact if_pos rfl
theorem sAcW_k (w : zM) (q : Nat × (Nat → Int32)) {k : Nat} (hk : k ≠ 1) : (sAcW w q).1 11 k = w.1 11 k := by
  unfold sAcW
  rw [zA_n _ _ (by decide), zA_s]
  exact if_neg hk
theorem sPu_le (q : Nat × (Nat → Int32)) (b : Int32) : (sPu q b).1 = q.1 + 1 := id rfl
theorem q_began {d : Nat} {w : zM} {q : Nat × (Nat → Int32)} {b : Int32} (hq : q.1 < 1000) : cal (d + 1) 5 [.ref 11, .int b] (sAcW w q) = some (none, sAcW w (sPu q b)) := by
  have e1 := sAcW_1 w q
  have q1 : cal d 5055 [.ref 12, .int (nI q.1), .int b] (sAcW w q) = some (none, sAcW w (q.1, (sPu q b).2)) := by
    unfold sPu
    by_cases h : q.1 < 20
    · rw [q_put zt_12 (by rw [zn_12]; exact h) (by rw [zn_12]; decide)]
      unfold sAcW
      rw [zA_s, zA_A, if_pos h]
    · rw [q_put_o zt_12 zn_12 (Or.inr (nI_le (by omega) (by omega)))]
      dsimp only
      rw [if_neg h]
  have e2 := sAcW_1 w (q.1, (sPu q b).2)
  have e3 : zuA (sAcW w (q.1, (sPu q b).2)) 11 (upd ((sAcW w (q.1, (sPu q b).2)).1 11) 1 (nI (q.1 + 1))) = sAcW w (sPu q b) := by
    unfold sAcW
    dsimp only
    rw [zA_n _ _ (by decide), zA_s, upd_u, zA_c _ _ _ (by decide), zA_A]
    rfl
  simp only [c_5, e_5_0, e_5_1, e_5_4, e_5_5, e_5_8, e_5_9, e_5_12, e_5_13, e_5_14, e_5_17, e_5_18, e_5_19, e_5_22, zk_int, zk_ref, zk_null, zk_none, zk_long, zisR_r, zisR_n, zcl_int, zcl_ref, zcl_null, zpush_s, zpush_n, zbs, zbn, true_or, or_true, not_false_eq_true, not_true_eq_false, ↓reduceIte, and_self, and_true, true_and, zt_11, zr_11_0, e1, q1, e2, zui_A, nI_1, e3]
theorem q_doServe_0 {d : Nat} {w : zM} {y : Int32} {q : Nat × (Nat → Int32)} (hk : w.1 11 2 = 0) (hq : q.1 < 900) : cal (d + 2) 6 [.ref 11, .int y] (sAcW w q) = some (some (.int (sVS 0 y (w.1 11 3) (w.1 11 4))), sAcW w (sTS 0 q)) := by
  have k2 : ∀ q, (sAcW w q).1 11 2 = 0 := fun q => (sAcW_k w q (by decide)).trans hk
  have k3 : ∀ q, (sAcW w q).1 11 3 = w.1 11 3 := fun q => sAcW_k w q (by decide)
  have k4 : ∀ q, (sAcW w q).1 11 4 = w.1 11 4 := fun q => sAcW_k w q (by decide)
  have z2 : ((0 : Int32) = 2) = False := by decide
  have z4 : ((0 : Int32) = 4) = False := by decide
  have z5 : ((0 : Int32) = 5) = False := by decide
  have z6 : ((0 : Int32) = 6) = False := by decide
  have zz : ((1 : Int32) = 0) = False := by decide
  have u : ∀ w : zM, cal (d + 1) 5053 [.int 0, .int 1] w = some (some (.int 0), w) := fun w => by rw [q_isUnder_0]; exact congrArg (fun z => some (some (Value.int z), w)) (if_neg (by decide))
  have b1 := fun b => q_began (d := d) (w := w) (q := q) (b := b) (by omega)
  have b2 := fun a b => q_began (d := d) (w := w) (q := sPu q a) (b := b) (by rw [sPu_le]; omega)
  have b3 := fun x a b => q_began (d := d) (w := w) (q := sPu (sPu q x) a) (b := b) (by rw [sPu_le, sPu_le]; omega)
  simp only [c_6, e_6_0, e_6_1, e_6_4, e_6_5, e_6_8, e_6_9, e_6_10, e_6_13, e_6_15, e_6_18, e_6_19, e_6_21, e_6_24, e_6_25, e_6_28, e_6_29, e_6_32, e_6_33, e_6_35, e_6_38, e_6_39, e_6_42, e_6_43, e_6_45, e_6_48, e_6_49, e_6_51, e_6_54, e_6_55, e_6_56, e_6_59, e_6_60, e_6_61, e_6_64, e_6_65, e_6_68, e_6_71, e_6_72, e_6_73, e_6_74, e_6_75, e_6_78, e_6_79, e_6_82, e_6_83, e_6_84, e_6_85, e_6_86, e_6_87, e_6_90, e_6_92, e_6_95, e_6_96, e_6_97, e_6_100, e_6_101, e_6_104, e_6_105, zk_int, zk_ref, zk_null, zk_none, zk_long, zisR_r, zisR_n, zcl_int, zcl_ref, zcl_null, zpush_s, zpush_n, zbs, zbn, true_or, or_true, not_false_eq_true, not_true_eq_false, ↓reduceIte, and_self, and_true, true_and, zt_11, k2, k3, k4, u, z2, z4, z5, z6, zz, b1, b2, b3]
  rfl
theorem q_doGive_0 {d : Nat} {w : zM} {y : Int32} {q : Nat × (Nat → Int32)} (hk : w.1 11 2 = 0) (hq : q.1 < 800) : cal (d + 3) 7 [.ref 11, .int y] (sAcW w q) = some (some (.int (sVG 0 y (w.1 11 3) (w.1 11 4))), sAcW w (sTG 0 q)) := by
  have k2 : ∀ q, (sAcW w q).1 11 2 = 0 := fun q => (sAcW_k w q (by decide)).trans hk
  have k3 : ∀ q, (sAcW w q).1 11 3 = w.1 11 3 := fun q => sAcW_k w q (by decide)
  have k4 : ∀ q, (sAcW w q).1 11 4 = w.1 11 4 := fun q => sAcW_k w q (by decide)
  have z2 : ((0 : Int32) = 2) = False := by decide
  have z4 : ((0 : Int32) = 4) = False := by decide
  have z5 : ((0 : Int32) = 5) = False := by decide
  have z6 : ((0 : Int32) = 6) = False := by decide
  have zz : ((1 : Int32) = 0) = False := by decide
  have u : ∀ w : zM, cal (d + 2) 5053 [.int 0, .int 3] w = some (some (.int 0), w) := fun w => by rw [q_isUnder_0]; exact congrArg (fun z => some (some (Value.int z), w)) (if_neg (by decide))
  have b1 := fun b => q_began (d := d + 1) (w := w) (q := q) (b := b) (by omega)
  have b2 := fun a b => q_began (d := d + 1) (w := w) (q := sPu q a) (b := b) (by rw [sPu_le]; omega)
  have s1 := fun y a => q_doServe_0 (d := d) (w := w) (y := y) (q := sPu q a) hk (by rw [sPu_le]; omega)
  have s2 := fun y a b => q_doServe_0 (d := d) (w := w) (y := y) (q := sPu (sPu q a) b) hk (by rw [sPu_le, sPu_le]; omega)
  simp only [c_7, e_7_0, e_7_1, e_7_2, e_7_3, e_7_6, e_7_7, e_7_10, e_7_11, e_7_13, e_7_16, e_7_17, e_7_20, e_7_21, e_7_24, e_7_25, e_7_27, e_7_30, e_7_31, e_7_32, e_7_35, e_7_36, e_7_37, e_7_38, e_7_41, e_7_42, e_7_45, e_7_48, e_7_49, e_7_51, e_7_54, e_7_57, e_7_58, e_7_60, e_7_63, e_7_64, e_7_65, e_7_68, e_7_69, e_7_70, e_7_71, e_7_72, e_7_75, e_7_76, e_7_79, e_7_80, e_7_81, e_7_82, e_7_85, e_7_86, zk_int, zk_ref, zk_null, zk_none, zk_long, zisR_r, zisR_n, zcl_int, zcl_ref, zcl_null, zpush_s, zpush_n, zbs, zbn, true_or, or_true, not_false_eq_true, not_true_eq_false, ↓reduceIte, and_self, and_true, true_and, zt_11, k2, k3, k4, u, z2, z4, z5, z6, zz, b1, b2, s1, s2]
  rfl
theorem q_doServe_1 {d : Nat} {w : zM} {y : Int32} {q : Nat × (Nat → Int32)} (hk : w.1 11 2 = 1) (hq : q.1 < 900) : cal (d + 2) 6 [.ref 11, .int y] (sAcW w q) = some (some (.int (sVS 1 y (w.1 11 3) (w.1 11 4))), sAcW w (sTS 1 q)) := by
  have k2 : ∀ q, (sAcW w q).1 11 2 = 1 := fun q => (sAcW_k w q (by decide)).trans hk
  have k3 : ∀ q, (sAcW w q).1 11 3 = w.1 11 3 := fun q => sAcW_k w q (by decide)
  have k4 : ∀ q, (sAcW w q).1 11 4 = w.1 11 4 := fun q => sAcW_k w q (by decide)
  have z2 : ((1 : Int32) = 2) = False := by decide
  have z4 : ((1 : Int32) = 4) = False := by decide
  have z5 : ((1 : Int32) = 5) = False := by decide
  have z6 : ((1 : Int32) = 6) = False := by decide
  have zz : ((1 : Int32) = 0) = False := by decide
  have u : ∀ w : zM, cal (d + 1) 5053 [.int 1, .int 1] w = some (some (.int 1), w) := fun w => by rw [q_isUnder_1]; exact congrArg (fun z => some (some (Value.int z), w)) (if_pos (by decide))
  have b1 := fun b => q_began (d := d) (w := w) (q := q) (b := b) (by omega)
  have b2 := fun a b => q_began (d := d) (w := w) (q := sPu q a) (b := b) (by rw [sPu_le]; omega)
  have b3 := fun x a b => q_began (d := d) (w := w) (q := sPu (sPu q x) a) (b := b) (by rw [sPu_le, sPu_le]; omega)
  simp only [c_6, e_6_0, e_6_1, e_6_4, e_6_5, e_6_8, e_6_9, e_6_10, e_6_13, e_6_15, e_6_18, e_6_19, e_6_21, e_6_24, e_6_25, e_6_28, e_6_29, e_6_32, e_6_33, e_6_35, e_6_38, e_6_39, e_6_42, e_6_43, e_6_45, e_6_48, e_6_49, e_6_51, e_6_54, e_6_55, e_6_56, e_6_59, e_6_60, e_6_61, e_6_64, e_6_65, e_6_68, e_6_71, e_6_72, e_6_73, e_6_74, e_6_75, e_6_78, e_6_79, e_6_82, e_6_83, e_6_84, e_6_85, e_6_86, e_6_87, e_6_90, e_6_92, e_6_95, e_6_96, e_6_97, e_6_100, e_6_101, e_6_104, e_6_105, zk_int, zk_ref, zk_null, zk_none, zk_long, zisR_r, zisR_n, zcl_int, zcl_ref, zcl_null, zpush_s, zpush_n, zbs, zbn, true_or, or_true, not_false_eq_true, not_true_eq_false, ↓reduceIte, and_self, and_true, true_and, zt_11, k2, k3, k4, u, z2, z4, z5, z6, zz, b1, b2, b3]
  rfl
theorem q_doGive_1 {d : Nat} {w : zM} {y : Int32} {q : Nat × (Nat → Int32)} (hk : w.1 11 2 = 1) (hq : q.1 < 800) : cal (d + 3) 7 [.ref 11, .int y] (sAcW w q) = some (some (.int (sVG 1 y (w.1 11 3) (w.1 11 4))), sAcW w (sTG 1 q)) := by
  have k2 : ∀ q, (sAcW w q).1 11 2 = 1 := fun q => (sAcW_k w q (by decide)).trans hk
  have k3 : ∀ q, (sAcW w q).1 11 3 = w.1 11 3 := fun q => sAcW_k w q (by decide)
  have k4 : ∀ q, (sAcW w q).1 11 4 = w.1 11 4 := fun q => sAcW_k w q (by decide)
  have z2 : ((1 : Int32) = 2) = False := by decide
  have z4 : ((1 : Int32) = 4) = False := by decide
  have z5 : ((1 : Int32) = 5) = False := by decide
  have z6 : ((1 : Int32) = 6) = False := by decide
  have zz : ((1 : Int32) = 0) = False := by decide
  have u : ∀ w : zM, cal (d + 2) 5053 [.int 1, .int 3] w = some (some (.int 0), w) := fun w => by rw [q_isUnder_1]; exact congrArg (fun z => some (some (Value.int z), w)) (if_neg (by decide))
  have b1 := fun b => q_began (d := d + 1) (w := w) (q := q) (b := b) (by omega)
  have b2 := fun a b => q_began (d := d + 1) (w := w) (q := sPu q a) (b := b) (by rw [sPu_le]; omega)
  have s1 := fun y a => q_doServe_1 (d := d) (w := w) (y := y) (q := sPu q a) hk (by rw [sPu_le]; omega)
  have s2 := fun y a b => q_doServe_1 (d := d) (w := w) (y := y) (q := sPu (sPu q a) b) hk (by rw [sPu_le, sPu_le]; omega)
  simp only [c_7, e_7_0, e_7_1, e_7_2, e_7_3, e_7_6, e_7_7, e_7_10, e_7_11, e_7_13, e_7_16, e_7_17, e_7_20, e_7_21, e_7_24, e_7_25, e_7_27, e_7_30, e_7_31, e_7_32, e_7_35, e_7_36, e_7_37, e_7_38, e_7_41, e_7_42, e_7_45, e_7_48, e_7_49, e_7_51, e_7_54, e_7_57, e_7_58, e_7_60, e_7_63, e_7_64, e_7_65, e_7_68, e_7_69, e_7_70, e_7_71, e_7_72, e_7_75, e_7_76, e_7_79, e_7_80, e_7_81, e_7_82, e_7_85, e_7_86, zk_int, zk_ref, zk_null, zk_none, zk_long, zisR_r, zisR_n, zcl_int, zcl_ref, zcl_null, zpush_s, zpush_n, zbs, zbn, true_or, or_true, not_false_eq_true, not_true_eq_false, ↓reduceIte, and_self, and_true, true_and, zt_11, k2, k3, k4, u, z2, z4, z5, z6, zz, b1, b2, s1, s2]
  rfl
theorem q_doServe_2 {d : Nat} {w : zM} {y : Int32} {q : Nat × (Nat → Int32)} (hk : w.1 11 2 = 2) (hq : q.1 < 900) : cal (d + 2) 6 [.ref 11, .int y] (sAcW w q) = some (some (.int (sVS 2 y (w.1 11 3) (w.1 11 4))), sAcW w (sTS 2 q)) := by
  have k2 : ∀ q, (sAcW w q).1 11 2 = 2 := fun q => (sAcW_k w q (by decide)).trans hk
  have k3 : ∀ q, (sAcW w q).1 11 3 = w.1 11 3 := fun q => sAcW_k w q (by decide)
  have k4 : ∀ q, (sAcW w q).1 11 4 = w.1 11 4 := fun q => sAcW_k w q (by decide)
  have z2 : ((2 : Int32) = 2) = True := by decide
  have z4 : ((2 : Int32) = 4) = False := by decide
  have z5 : ((2 : Int32) = 5) = False := by decide
  have z6 : ((2 : Int32) = 6) = False := by decide
  have zz : ((1 : Int32) = 0) = False := by decide
  have u : ∀ w : zM, cal (d + 1) 5053 [.int 2, .int 1] w = some (some (.int 1), w) := fun w => by rw [q_isUnder_2]; exact congrArg (fun z => some (some (Value.int z), w)) (if_pos (by decide))
  have b1 := fun b => q_began (d := d) (w := w) (q := q) (b := b) (by omega)
  have b2 := fun a b => q_began (d := d) (w := w) (q := sPu q a) (b := b) (by rw [sPu_le]; omega)
  have b3 := fun x a b => q_began (d := d) (w := w) (q := sPu (sPu q x) a) (b := b) (by rw [sPu_le, sPu_le]; omega)
  simp only [c_6, e_6_0, e_6_1, e_6_4, e_6_5, e_6_8, e_6_9, e_6_10, e_6_13, e_6_15, e_6_18, e_6_19, e_6_21, e_6_24, e_6_25, e_6_28, e_6_29, e_6_32, e_6_33, e_6_35, e_6_38, e_6_39, e_6_42, e_6_43, e_6_45, e_6_48, e_6_49, e_6_51, e_6_54, e_6_55, e_6_56, e_6_59, e_6_60, e_6_61, e_6_64, e_6_65, e_6_68, e_6_71, e_6_72, e_6_73, e_6_74, e_6_75, e_6_78, e_6_79, e_6_82, e_6_83, e_6_84, e_6_85, e_6_86, e_6_87, e_6_90, e_6_92, e_6_95, e_6_96, e_6_97, e_6_100, e_6_101, e_6_104, e_6_105, zk_int, zk_ref, zk_null, zk_none, zk_long, zisR_r, zisR_n, zcl_int, zcl_ref, zcl_null, zpush_s, zpush_n, zbs, zbn, true_or, or_true, not_false_eq_true, not_true_eq_false, ↓reduceIte, and_self, and_true, true_and, zt_11, k2, k3, k4, u, z2, z4, z5, z6, zz, b1, b2, b3]
  rfl
theorem q_doGive_2 {d : Nat} {w : zM} {y : Int32} {q : Nat × (Nat → Int32)} (hk : w.1 11 2 = 2) (hq : q.1 < 800) : cal (d + 3) 7 [.ref 11, .int y] (sAcW w q) = some (some (.int (sVG 2 y (w.1 11 3) (w.1 11 4))), sAcW w (sTG 2 q)) := by
  have k2 : ∀ q, (sAcW w q).1 11 2 = 2 := fun q => (sAcW_k w q (by decide)).trans hk
  have k3 : ∀ q, (sAcW w q).1 11 3 = w.1 11 3 := fun q => sAcW_k w q (by decide)
  have k4 : ∀ q, (sAcW w q).1 11 4 = w.1 11 4 := fun q => sAcW_k w q (by decide)
  have z2 : ((2 : Int32) = 2) = True := by decide
  have z4 : ((2 : Int32) = 4) = False := by decide
  have z5 : ((2 : Int32) = 5) = False := by decide
  have z6 : ((2 : Int32) = 6) = False := by decide
  have zz : ((1 : Int32) = 0) = False := by decide
  have u : ∀ w : zM, cal (d + 2) 5053 [.int 2, .int 3] w = some (some (.int 0), w) := fun w => by rw [q_isUnder_2]; exact congrArg (fun z => some (some (Value.int z), w)) (if_neg (by decide))
  have b1 := fun b => q_began (d := d + 1) (w := w) (q := q) (b := b) (by omega)
  have b2 := fun a b => q_began (d := d + 1) (w := w) (q := sPu q a) (b := b) (by rw [sPu_le]; omega)
  have s1 := fun y a => q_doServe_2 (d := d) (w := w) (y := y) (q := sPu q a) hk (by rw [sPu_le]; omega)
  have s2 := fun y a b => q_doServe_2 (d := d) (w := w) (y := y) (q := sPu (sPu q a) b) hk (by rw [sPu_le, sPu_le]; omega)
  simp only [c_7, e_7_0, e_7_1, e_7_2, e_7_3, e_7_6, e_7_7, e_7_10, e_7_11, e_7_13, e_7_16, e_7_17, e_7_20, e_7_21, e_7_24, e_7_25, e_7_27, e_7_30, e_7_31, e_7_32, e_7_35, e_7_36, e_7_37, e_7_38, e_7_41, e_7_42, e_7_45, e_7_48, e_7_49, e_7_51, e_7_54, e_7_57, e_7_58, e_7_60, e_7_63, e_7_64, e_7_65, e_7_68, e_7_69, e_7_70, e_7_71, e_7_72, e_7_75, e_7_76, e_7_79, e_7_80, e_7_81, e_7_82, e_7_85, e_7_86, zk_int, zk_ref, zk_null, zk_none, zk_long, zisR_r, zisR_n, zcl_int, zcl_ref, zcl_null, zpush_s, zpush_n, zbs, zbn, true_or, or_true, not_false_eq_true, not_true_eq_false, ↓reduceIte, and_self, and_true, true_and, zt_11, k2, k3, k4, u, z2, z4, z5, z6, zz, b1, b2, s1, s2]
  rfl
theorem q_doServe_3 {d : Nat} {w : zM} {y : Int32} {q : Nat × (Nat → Int32)} (hk : w.1 11 2 = 3) (hq : q.1 < 900) : cal (d + 2) 6 [.ref 11, .int y] (sAcW w q) = some (some (.int (sVS 3 y (w.1 11 3) (w.1 11 4))), sAcW w (sTS 3 q)) := by
  have k2 : ∀ q, (sAcW w q).1 11 2 = 3 := fun q => (sAcW_k w q (by decide)).trans hk
  have k3 : ∀ q, (sAcW w q).1 11 3 = w.1 11 3 := fun q => sAcW_k w q (by decide)
  have k4 : ∀ q, (sAcW w q).1 11 4 = w.1 11 4 := fun q => sAcW_k w q (by decide)
  have z2 : ((3 : Int32) = 2) = False := by decide
  have z4 : ((3 : Int32) = 4) = False := by decide
  have z5 : ((3 : Int32) = 5) = False := by decide
  have z6 : ((3 : Int32) = 6) = False := by decide
  have zz : ((1 : Int32) = 0) = False := by decide
  have u : ∀ w : zM, cal (d + 1) 5053 [.int 3, .int 1] w = some (some (.int 1), w) := fun w => by rw [q_isUnder_3]; exact congrArg (fun z => some (some (Value.int z), w)) (if_pos (by decide))
  have b1 := fun b => q_began (d := d) (w := w) (q := q) (b := b) (by omega)
  have b2 := fun a b => q_began (d := d) (w := w) (q := sPu q a) (b := b) (by rw [sPu_le]; omega)
  have b3 := fun x a b => q_began (d := d) (w := w) (q := sPu (sPu q x) a) (b := b) (by rw [sPu_le, sPu_le]; omega)
  simp only [c_6, e_6_0, e_6_1, e_6_4, e_6_5, e_6_8, e_6_9, e_6_10, e_6_13, e_6_15, e_6_18, e_6_19, e_6_21, e_6_24, e_6_25, e_6_28, e_6_29, e_6_32, e_6_33, e_6_35, e_6_38, e_6_39, e_6_42, e_6_43, e_6_45, e_6_48, e_6_49, e_6_51, e_6_54, e_6_55, e_6_56, e_6_59, e_6_60, e_6_61, e_6_64, e_6_65, e_6_68, e_6_71, e_6_72, e_6_73, e_6_74, e_6_75, e_6_78, e_6_79, e_6_82, e_6_83, e_6_84, e_6_85, e_6_86, e_6_87, e_6_90, e_6_92, e_6_95, e_6_96, e_6_97, e_6_100, e_6_101, e_6_104, e_6_105, zk_int, zk_ref, zk_null, zk_none, zk_long, zisR_r, zisR_n, zcl_int, zcl_ref, zcl_null, zpush_s, zpush_n, zbs, zbn, true_or, or_true, not_false_eq_true, not_true_eq_false, ↓reduceIte, and_self, and_true, true_and, zt_11, k2, k3, k4, u, z2, z4, z5, z6, zz, b1, b2, b3]
  rfl
theorem q_doGive_3 {d : Nat} {w : zM} {y : Int32} {q : Nat × (Nat → Int32)} (hk : w.1 11 2 = 3) (hq : q.1 < 800) : cal (d + 3) 7 [.ref 11, .int y] (sAcW w q) = some (some (.int (sVG 3 y (w.1 11 3) (w.1 11 4))), sAcW w (sTG 3 q)) := by
  have k2 : ∀ q, (sAcW w q).1 11 2 = 3 := fun q => (sAcW_k w q (by decide)).trans hk
  have k3 : ∀ q, (sAcW w q).1 11 3 = w.1 11 3 := fun q => sAcW_k w q (by decide)
  have k4 : ∀ q, (sAcW w q).1 11 4 = w.1 11 4 := fun q => sAcW_k w q (by decide)
  have z2 : ((3 : Int32) = 2) = False := by decide
  have z4 : ((3 : Int32) = 4) = False := by decide
  have z5 : ((3 : Int32) = 5) = False := by decide
  have z6 : ((3 : Int32) = 6) = False := by decide
  have zz : ((1 : Int32) = 0) = False := by decide
  have u : ∀ w : zM, cal (d + 2) 5053 [.int 3, .int 3] w = some (some (.int 1), w) := fun w => by rw [q_isUnder_3]; exact congrArg (fun z => some (some (Value.int z), w)) (if_pos (by decide))
  have b1 := fun b => q_began (d := d + 1) (w := w) (q := q) (b := b) (by omega)
  have b2 := fun a b => q_began (d := d + 1) (w := w) (q := sPu q a) (b := b) (by rw [sPu_le]; omega)
  have s1 := fun y a => q_doServe_3 (d := d) (w := w) (y := y) (q := sPu q a) hk (by rw [sPu_le]; omega)
  have s2 := fun y a b => q_doServe_3 (d := d) (w := w) (y := y) (q := sPu (sPu q a) b) hk (by rw [sPu_le, sPu_le]; omega)
  simp only [c_7, e_7_0, e_7_1, e_7_2, e_7_3, e_7_6, e_7_7, e_7_10, e_7_11, e_7_13, e_7_16, e_7_17, e_7_20, e_7_21, e_7_24, e_7_25, e_7_27, e_7_30, e_7_31, e_7_32, e_7_35, e_7_36, e_7_37, e_7_38, e_7_41, e_7_42, e_7_45, e_7_48, e_7_49, e_7_51, e_7_54, e_7_57, e_7_58, e_7_60, e_7_63, e_7_64, e_7_65, e_7_68, e_7_69, e_7_70, e_7_71, e_7_72, e_7_75, e_7_76, e_7_79, e_7_80, e_7_81, e_7_82, e_7_85, e_7_86, zk_int, zk_ref, zk_null, zk_none, zk_long, zisR_r, zisR_n, zcl_int, zcl_ref, zcl_null, zpush_s, zpush_n, zbs, zbn, true_or, or_true, not_false_eq_true, not_true_eq_false, ↓reduceIte, and_self, and_true, true_and, zt_11, k2, k3, k4, u, z2, z4, z5, z6, zz, b1, b2, s1, s2]
  rfl
theorem q_doServe_4 {d : Nat} {w : zM} {y : Int32} {q : Nat × (Nat → Int32)} (hk : w.1 11 2 = 4) (hq : q.1 < 900) : cal (d + 2) 6 [.ref 11, .int y] (sAcW w q) = some (some (.int (sVS 4 y (w.1 11 3) (w.1 11 4))), sAcW w (sTS 4 q)) := by
  have k2 : ∀ q, (sAcW w q).1 11 2 = 4 := fun q => (sAcW_k w q (by decide)).trans hk
  have k3 : ∀ q, (sAcW w q).1 11 3 = w.1 11 3 := fun q => sAcW_k w q (by decide)
  have k4 : ∀ q, (sAcW w q).1 11 4 = w.1 11 4 := fun q => sAcW_k w q (by decide)
  have z2 : ((4 : Int32) = 2) = False := by decide
  have z4 : ((4 : Int32) = 4) = True := by decide
  have z5 : ((4 : Int32) = 5) = False := by decide
  have z6 : ((4 : Int32) = 6) = False := by decide
  have zz : ((1 : Int32) = 0) = False := by decide
  have u : ∀ w : zM, cal (d + 1) 5053 [.int 4, .int 1] w = some (some (.int 0), w) := fun w => by rw [q_isUnder_4]; exact congrArg (fun z => some (some (Value.int z), w)) (if_neg (by decide))
  have b1 := fun b => q_began (d := d) (w := w) (q := q) (b := b) (by omega)
  have b2 := fun a b => q_began (d := d) (w := w) (q := sPu q a) (b := b) (by rw [sPu_le]; omega)
  have b3 := fun x a b => q_began (d := d) (w := w) (q := sPu (sPu q x) a) (b := b) (by rw [sPu_le, sPu_le]; omega)
  simp only [c_6, e_6_0, e_6_1, e_6_4, e_6_5, e_6_8, e_6_9, e_6_10, e_6_13, e_6_15, e_6_18, e_6_19, e_6_21, e_6_24, e_6_25, e_6_28, e_6_29, e_6_32, e_6_33, e_6_35, e_6_38, e_6_39, e_6_42, e_6_43, e_6_45, e_6_48, e_6_49, e_6_51, e_6_54, e_6_55, e_6_56, e_6_59, e_6_60, e_6_61, e_6_64, e_6_65, e_6_68, e_6_71, e_6_72, e_6_73, e_6_74, e_6_75, e_6_78, e_6_79, e_6_82, e_6_83, e_6_84, e_6_85, e_6_86, e_6_87, e_6_90, e_6_92, e_6_95, e_6_96, e_6_97, e_6_100, e_6_101, e_6_104, e_6_105, zk_int, zk_ref, zk_null, zk_none, zk_long, zisR_r, zisR_n, zcl_int, zcl_ref, zcl_null, zpush_s, zpush_n, zbs, zbn, true_or, or_true, not_false_eq_true, not_true_eq_false, ↓reduceIte, and_self, and_true, true_and, zt_11, k2, k3, k4, u, z2, z4, z5, z6, zz, b1, b2, b3]
  rfl
theorem q_doGive_4 {d : Nat} {w : zM} {y : Int32} {q : Nat × (Nat → Int32)} (hk : w.1 11 2 = 4) (hq : q.1 < 800) : cal (d + 3) 7 [.ref 11, .int y] (sAcW w q) = some (some (.int (sVG 4 y (w.1 11 3) (w.1 11 4))), sAcW w (sTG 4 q)) := by
  have k2 : ∀ q, (sAcW w q).1 11 2 = 4 := fun q => (sAcW_k w q (by decide)).trans hk
  have k3 : ∀ q, (sAcW w q).1 11 3 = w.1 11 3 := fun q => sAcW_k w q (by decide)
  have k4 : ∀ q, (sAcW w q).1 11 4 = w.1 11 4 := fun q => sAcW_k w q (by decide)
  have z2 : ((4 : Int32) = 2) = False := by decide
  have z4 : ((4 : Int32) = 4) = True := by decide
  have z5 : ((4 : Int32) = 5) = False := by decide
  have z6 : ((4 : Int32) = 6) = False := by decide
  have zz : ((1 : Int32) = 0) = False := by decide
  have u : ∀ w : zM, cal (d + 2) 5053 [.int 4, .int 3] w = some (some (.int 0), w) := fun w => by rw [q_isUnder_4]; exact congrArg (fun z => some (some (Value.int z), w)) (if_neg (by decide))
  have b1 := fun b => q_began (d := d + 1) (w := w) (q := q) (b := b) (by omega)
  have b2 := fun a b => q_began (d := d + 1) (w := w) (q := sPu q a) (b := b) (by rw [sPu_le]; omega)
  have s1 := fun y a => q_doServe_4 (d := d) (w := w) (y := y) (q := sPu q a) hk (by rw [sPu_le]; omega)
  have s2 := fun y a b => q_doServe_4 (d := d) (w := w) (y := y) (q := sPu (sPu q a) b) hk (by rw [sPu_le, sPu_le]; omega)
  simp only [c_7, e_7_0, e_7_1, e_7_2, e_7_3, e_7_6, e_7_7, e_7_10, e_7_11, e_7_13, e_7_16, e_7_17, e_7_20, e_7_21, e_7_24, e_7_25, e_7_27, e_7_30, e_7_31, e_7_32, e_7_35, e_7_36, e_7_37, e_7_38, e_7_41, e_7_42, e_7_45, e_7_48, e_7_49, e_7_51, e_7_54, e_7_57, e_7_58, e_7_60, e_7_63, e_7_64, e_7_65, e_7_68, e_7_69, e_7_70, e_7_71, e_7_72, e_7_75, e_7_76, e_7_79, e_7_80, e_7_81, e_7_82, e_7_85, e_7_86, zk_int, zk_ref, zk_null, zk_none, zk_long, zisR_r, zisR_n, zcl_int, zcl_ref, zcl_null, zpush_s, zpush_n, zbs, zbn, true_or, or_true, not_false_eq_true, not_true_eq_false, ↓reduceIte, and_self, and_true, true_and, zt_11, k2, k3, k4, u, z2, z4, z5, z6, zz, b1, b2, s1, s2]
  rfl
theorem q_doServe_5 {d : Nat} {w : zM} {y : Int32} {q : Nat × (Nat → Int32)} (hk : w.1 11 2 = 5) (hq : q.1 < 900) : cal (d + 2) 6 [.ref 11, .int y] (sAcW w q) = some (some (.int (sVS 5 y (w.1 11 3) (w.1 11 4))), sAcW w (sTS 5 q)) := by
  have k2 : ∀ q, (sAcW w q).1 11 2 = 5 := fun q => (sAcW_k w q (by decide)).trans hk
  have k3 : ∀ q, (sAcW w q).1 11 3 = w.1 11 3 := fun q => sAcW_k w q (by decide)
  have k4 : ∀ q, (sAcW w q).1 11 4 = w.1 11 4 := fun q => sAcW_k w q (by decide)
  have z2 : ((5 : Int32) = 2) = False := by decide
  have z4 : ((5 : Int32) = 4) = False := by decide
  have z5 : ((5 : Int32) = 5) = True := by decide
  have z6 : ((5 : Int32) = 6) = False := by decide
  have zz : ((1 : Int32) = 0) = False := by decide
  have u : ∀ w : zM, cal (d + 1) 5053 [.int 5, .int 1] w = some (some (.int 1), w) := fun w => by rw [q_isUnder_5]; exact congrArg (fun z => some (some (Value.int z), w)) (if_pos (by decide))
  have b1 := fun b => q_began (d := d) (w := w) (q := q) (b := b) (by omega)
  have b2 := fun a b => q_began (d := d) (w := w) (q := sPu q a) (b := b) (by rw [sPu_le]; omega)
  have b3 := fun x a b => q_began (d := d) (w := w) (q := sPu (sPu q x) a) (b := b) (by rw [sPu_le, sPu_le]; omega)
  simp only [c_6, e_6_0, e_6_1, e_6_4, e_6_5, e_6_8, e_6_9, e_6_10, e_6_13, e_6_15, e_6_18, e_6_19, e_6_21, e_6_24, e_6_25, e_6_28, e_6_29, e_6_32, e_6_33, e_6_35, e_6_38, e_6_39, e_6_42, e_6_43, e_6_45, e_6_48, e_6_49, e_6_51, e_6_54, e_6_55, e_6_56, e_6_59, e_6_60, e_6_61, e_6_64, e_6_65, e_6_68, e_6_71, e_6_72, e_6_73, e_6_74, e_6_75, e_6_78, e_6_79, e_6_82, e_6_83, e_6_84, e_6_85, e_6_86, e_6_87, e_6_90, e_6_92, e_6_95, e_6_96, e_6_97, e_6_100, e_6_101, e_6_104, e_6_105, zk_int, zk_ref, zk_null, zk_none, zk_long, zisR_r, zisR_n, zcl_int, zcl_ref, zcl_null, zpush_s, zpush_n, zbs, zbn, true_or, or_true, not_false_eq_true, not_true_eq_false, ↓reduceIte, and_self, and_true, true_and, zt_11, k2, k3, k4, u, z2, z4, z5, z6, zz, b1, b2, b3]
  rfl
theorem q_doGive_5 {d : Nat} {w : zM} {y : Int32} {q : Nat × (Nat → Int32)} (hk : w.1 11 2 = 5) (hq : q.1 < 800) : cal (d + 3) 7 [.ref 11, .int y] (sAcW w q) = some (some (.int (sVG 5 y (w.1 11 3) (w.1 11 4))), sAcW w (sTG 5 q)) := by
  have k2 : ∀ q, (sAcW w q).1 11 2 = 5 := fun q => (sAcW_k w q (by decide)).trans hk
  have k3 : ∀ q, (sAcW w q).1 11 3 = w.1 11 3 := fun q => sAcW_k w q (by decide)
  have k4 : ∀ q, (sAcW w q).1 11 4 = w.1 11 4 := fun q => sAcW_k w q (by decide)
  have z2 : ((5 : Int32) = 2) = False := by decide
  have z4 : ((5 : Int32) = 4) = False := by decide
  have z5 : ((5 : Int32) = 5) = True := by decide
  have z6 : ((5 : Int32) = 6) = False := by decide
  have zz : ((1 : Int32) = 0) = False := by decide
  have u : ∀ w : zM, cal (d + 2) 5053 [.int 5, .int 3] w = some (some (.int 0), w) := fun w => by rw [q_isUnder_5]; exact congrArg (fun z => some (some (Value.int z), w)) (if_neg (by decide))
  have b1 := fun b => q_began (d := d + 1) (w := w) (q := q) (b := b) (by omega)
  have b2 := fun a b => q_began (d := d + 1) (w := w) (q := sPu q a) (b := b) (by rw [sPu_le]; omega)
  have s1 := fun y a => q_doServe_5 (d := d) (w := w) (y := y) (q := sPu q a) hk (by rw [sPu_le]; omega)
  have s2 := fun y a b => q_doServe_5 (d := d) (w := w) (y := y) (q := sPu (sPu q a) b) hk (by rw [sPu_le, sPu_le]; omega)
  simp only [c_7, e_7_0, e_7_1, e_7_2, e_7_3, e_7_6, e_7_7, e_7_10, e_7_11, e_7_13, e_7_16, e_7_17, e_7_20, e_7_21, e_7_24, e_7_25, e_7_27, e_7_30, e_7_31, e_7_32, e_7_35, e_7_36, e_7_37, e_7_38, e_7_41, e_7_42, e_7_45, e_7_48, e_7_49, e_7_51, e_7_54, e_7_57, e_7_58, e_7_60, e_7_63, e_7_64, e_7_65, e_7_68, e_7_69, e_7_70, e_7_71, e_7_72, e_7_75, e_7_76, e_7_79, e_7_80, e_7_81, e_7_82, e_7_85, e_7_86, zk_int, zk_ref, zk_null, zk_none, zk_long, zisR_r, zisR_n, zcl_int, zcl_ref, zcl_null, zpush_s, zpush_n, zbs, zbn, true_or, or_true, not_false_eq_true, not_true_eq_false, ↓reduceIte, and_self, and_true, true_and, zt_11, k2, k3, k4, u, z2, z4, z5, z6, zz, b1, b2, s1, s2]
  rfl
theorem q_doServe_6 {d : Nat} {w : zM} {y : Int32} {q : Nat × (Nat → Int32)} (hk : w.1 11 2 = 6) (hq : q.1 < 900) : cal (d + 2) 6 [.ref 11, .int y] (sAcW w q) = some (some (.int (sVS 6 y (w.1 11 3) (w.1 11 4))), sAcW w (sTS 6 q)) := by
  have k2 : ∀ q, (sAcW w q).1 11 2 = 6 := fun q => (sAcW_k w q (by decide)).trans hk
  have k3 : ∀ q, (sAcW w q).1 11 3 = w.1 11 3 := fun q => sAcW_k w q (by decide)
  have k4 : ∀ q, (sAcW w q).1 11 4 = w.1 11 4 := fun q => sAcW_k w q (by decide)
  have z2 : ((6 : Int32) = 2) = False := by decide
  have z4 : ((6 : Int32) = 4) = False := by decide
  have z5 : ((6 : Int32) = 5) = False := by decide
  have z6 : ((6 : Int32) = 6) = True := by decide
  have zz : ((1 : Int32) = 0) = False := by decide
  have u : ∀ w : zM, cal (d + 1) 5053 [.int 6, .int 1] w = some (some (.int 1), w) := fun w => by rw [q_isUnder_6]; exact congrArg (fun z => some (some (Value.int z), w)) (if_pos (by decide))
  have b1 := fun b => q_began (d := d) (w := w) (q := q) (b := b) (by omega)
  have b2 := fun a b => q_began (d := d) (w := w) (q := sPu q a) (b := b) (by rw [sPu_le]; omega)
  have b3 := fun x a b => q_began (d := d) (w := w) (q := sPu (sPu q x) a) (b := b) (by rw [sPu_le, sPu_le]; omega)
  simp only [c_6, e_6_0, e_6_1, e_6_4, e_6_5, e_6_8, e_6_9, e_6_10, e_6_13, e_6_15, e_6_18, e_6_19, e_6_21, e_6_24, e_6_25, e_6_28, e_6_29, e_6_32, e_6_33, e_6_35, e_6_38, e_6_39, e_6_42, e_6_43, e_6_45, e_6_48, e_6_49, e_6_51, e_6_54, e_6_55, e_6_56, e_6_59, e_6_60, e_6_61, e_6_64, e_6_65, e_6_68, e_6_71, e_6_72, e_6_73, e_6_74, e_6_75, e_6_78, e_6_79, e_6_82, e_6_83, e_6_84, e_6_85, e_6_86, e_6_87, e_6_90, e_6_92, e_6_95, e_6_96, e_6_97, e_6_100, e_6_101, e_6_104, e_6_105, zk_int, zk_ref, zk_null, zk_none, zk_long, zisR_r, zisR_n, zcl_int, zcl_ref, zcl_null, zpush_s, zpush_n, zbs, zbn, true_or, or_true, not_false_eq_true, not_true_eq_false, ↓reduceIte, and_self, and_true, true_and, zt_11, k2, k3, k4, u, z2, z4, z5, z6, zz, b1, b2, b3]
  rfl
theorem q_doGive_6 {d : Nat} {w : zM} {y : Int32} {q : Nat × (Nat → Int32)} (hk : w.1 11 2 = 6) (hq : q.1 < 800) : cal (d + 3) 7 [.ref 11, .int y] (sAcW w q) = some (some (.int (sVG 6 y (w.1 11 3) (w.1 11 4))), sAcW w (sTG 6 q)) := by
  have k2 : ∀ q, (sAcW w q).1 11 2 = 6 := fun q => (sAcW_k w q (by decide)).trans hk
  have k3 : ∀ q, (sAcW w q).1 11 3 = w.1 11 3 := fun q => sAcW_k w q (by decide)
  have k4 : ∀ q, (sAcW w q).1 11 4 = w.1 11 4 := fun q => sAcW_k w q (by decide)
  have z2 : ((6 : Int32) = 2) = False := by decide
  have z4 : ((6 : Int32) = 4) = False := by decide
  have z5 : ((6 : Int32) = 5) = False := by decide
  have z6 : ((6 : Int32) = 6) = True := by decide
  have zz : ((1 : Int32) = 0) = False := by decide
  have u : ∀ w : zM, cal (d + 2) 5053 [.int 6, .int 3] w = some (some (.int 1), w) := fun w => by rw [q_isUnder_6]; exact congrArg (fun z => some (some (Value.int z), w)) (if_pos (by decide))
  have b1 := fun b => q_began (d := d + 1) (w := w) (q := q) (b := b) (by omega)
  have b2 := fun a b => q_began (d := d + 1) (w := w) (q := sPu q a) (b := b) (by rw [sPu_le]; omega)
  have s1 := fun y a => q_doServe_6 (d := d) (w := w) (y := y) (q := sPu q a) hk (by rw [sPu_le]; omega)
  have s2 := fun y a b => q_doServe_6 (d := d) (w := w) (y := y) (q := sPu (sPu q a) b) hk (by rw [sPu_le, sPu_le]; omega)
  simp only [c_7, e_7_0, e_7_1, e_7_2, e_7_3, e_7_6, e_7_7, e_7_10, e_7_11, e_7_13, e_7_16, e_7_17, e_7_20, e_7_21, e_7_24, e_7_25, e_7_27, e_7_30, e_7_31, e_7_32, e_7_35, e_7_36, e_7_37, e_7_38, e_7_41, e_7_42, e_7_45, e_7_48, e_7_49, e_7_51, e_7_54, e_7_57, e_7_58, e_7_60, e_7_63, e_7_64, e_7_65, e_7_68, e_7_69, e_7_70, e_7_71, e_7_72, e_7_75, e_7_76, e_7_79, e_7_80, e_7_81, e_7_82, e_7_85, e_7_86, zk_int, zk_ref, zk_null, zk_none, zk_long, zisR_r, zisR_n, zcl_int, zcl_ref, zcl_null, zpush_s, zpush_n, zbs, zbn, true_or, or_true, not_false_eq_true, not_true_eq_false, ↓reduceIte, and_self, and_true, true_and, zt_11, k2, k3, k4, u, z2, z4, z5, z6, zz, b1, b2, s1, s2]
  rfl
theorem sTS_le (c : Nat) (q : Nat × (Nat → Int32)) : (sTS c q).1 ≤ q.1 + 3 := by
  unfold sTS
  split <;> simp only [sPu_le] <;> omega
theorem sTG_le (c : Nat) (q : Nat × (Nat → Int32)) : (sTG c q).1 ≤ q.1 + 5 := by
  unfold sTG
  split <;> (refine Nat.le_trans (sTS_le _ _) ?_) <;> simp only [sPu_le] <;> omega
theorem q_doStay_0 {d : Nat} {w : zM} {y : Int32} {q : Nat × (Nat → Int32)} (hk : w.1 11 2 = 0) (hq : q.1 < 700) : cal (d + 4) 8 [.ref 11, .int y] (sAcW w q) = some (some (.int (sVY 0 y (w.1 11 3) (w.1 11 4))), sAcW w (sTY 0 q)) := by
  have k2 : ∀ q, (sAcW w q).1 11 2 = 0 := fun q => (sAcW_k w q (by decide)).trans hk
  have k3 : ∀ q, (sAcW w q).1 11 3 = w.1 11 3 := fun q => sAcW_k w q (by decide)
  have k4 : ∀ q, (sAcW w q).1 11 4 = w.1 11 4 := fun q => sAcW_k w q (by decide)
  have z2 : ((0 : Int32) = 2) = False := by decide
  have z4 : ((0 : Int32) = 4) = False := by decide
  have z5 : ((0 : Int32) = 5) = False := by decide
  have z6 : ((0 : Int32) = 6) = False := by decide
  have b1 := fun b => q_began (d := d + 2) (w := w) (q := q) (b := b) (by omega)
  have b2 := fun a b => q_began (d := d + 2) (w := w) (q := sPu q a) (b := b) (by rw [sPu_le]; omega)
  have s1 := fun y a => q_doGive_0 (d := d) (w := w) (y := y) (q := sPu q a) hk (by rw [sPu_le]; omega)
  have s2 := fun y a b => q_doGive_0 (d := d) (w := w) (y := y) (q := sPu (sPu q a) b) hk (by rw [sPu_le, sPu_le]; omega)
  have s3 := fun y a => q_doServe_0 (d := d + 1) (w := w) (y := y) (q := sTG 0 (sPu q a)) hk (by have := sTG_le 0 (sPu q a); rw [sPu_le] at this; omega)
  have s4 := fun y a b => q_doServe_0 (d := d + 1) (w := w) (y := y) (q := sTG 0 (sPu (sPu q a) b)) hk (by have := sTG_le 0 (sPu (sPu q a) b); rw [sPu_le, sPu_le] at this; omega)
  simp only [c_8, e_8_0, e_8_1, e_8_4, e_8_6, e_8_9, e_8_10, e_8_12, e_8_15, e_8_16, e_8_19, e_8_20, e_8_23, e_8_24, e_8_26, e_8_29, e_8_30, e_8_32, e_8_35, e_8_36, e_8_37, e_8_40, e_8_41, e_8_42, e_8_43, e_8_44, e_8_45, e_8_48, e_8_49, e_8_52, e_8_53, e_8_54, e_8_55, e_8_58, e_8_60, e_8_63, e_8_64, e_8_65, e_8_66, e_8_67, e_8_70, e_8_71, e_8_74, e_8_75, e_8_76, e_8_77, e_8_80, e_8_81, zk_int, zk_ref, zk_null, zk_none, zk_long, zisR_r, zisR_n, zcl_int, zcl_ref, zcl_null, zpush_s, zpush_n, zbs, zbn, true_or, or_true, not_false_eq_true, not_true_eq_false, ↓reduceIte, and_self, and_true, true_and, zt_11, k2, k3, k4, z2, z4, z5, z6, b1, b2, s1, s2, s3, s4]
  rfl
theorem q_doStay_1 {d : Nat} {w : zM} {y : Int32} {q : Nat × (Nat → Int32)} (hk : w.1 11 2 = 1) (hq : q.1 < 700) : cal (d + 4) 8 [.ref 11, .int y] (sAcW w q) = some (some (.int (sVY 1 y (w.1 11 3) (w.1 11 4))), sAcW w (sTY 1 q)) := by
  have k2 : ∀ q, (sAcW w q).1 11 2 = 1 := fun q => (sAcW_k w q (by decide)).trans hk
  have k3 : ∀ q, (sAcW w q).1 11 3 = w.1 11 3 := fun q => sAcW_k w q (by decide)
  have k4 : ∀ q, (sAcW w q).1 11 4 = w.1 11 4 := fun q => sAcW_k w q (by decide)
  have z2 : ((1 : Int32) = 2) = False := by decide
  have z4 : ((1 : Int32) = 4) = False := by decide
  have z5 : ((1 : Int32) = 5) = False := by decide
  have z6 : ((1 : Int32) = 6) = False := by decide
  have b1 := fun b => q_began (d := d + 2) (w := w) (q := q) (b := b) (by omega)
  have b2 := fun a b => q_began (d := d + 2) (w := w) (q := sPu q a) (b := b) (by rw [sPu_le]; omega)
  have s1 := fun y a => q_doGive_1 (d := d) (w := w) (y := y) (q := sPu q a) hk (by rw [sPu_le]; omega)
  have s2 := fun y a b => q_doGive_1 (d := d) (w := w) (y := y) (q := sPu (sPu q a) b) hk (by rw [sPu_le, sPu_le]; omega)
  have s3 := fun y a => q_doServe_1 (d := d + 1) (w := w) (y := y) (q := sTG 1 (sPu q a)) hk (by have := sTG_le 1 (sPu q a); rw [sPu_le] at this; omega)
  have s4 := fun y a b => q_doServe_1 (d := d + 1) (w := w) (y := y) (q := sTG 1 (sPu (sPu q a) b)) hk (by have := sTG_le 1 (sPu (sPu q a) b); rw [sPu_le, sPu_le] at this; omega)
  simp only [c_8, e_8_0, e_8_1, e_8_4, e_8_6, e_8_9, e_8_10, e_8_12, e_8_15, e_8_16, e_8_19, e_8_20, e_8_23, e_8_24, e_8_26, e_8_29, e_8_30, e_8_32, e_8_35, e_8_36, e_8_37, e_8_40, e_8_41, e_8_42, e_8_43, e_8_44, e_8_45, e_8_48, e_8_49, e_8_52, e_8_53, e_8_54, e_8_55, e_8_58, e_8_60, e_8_63, e_8_64, e_8_65, e_8_66, e_8_67, e_8_70, e_8_71, e_8_74, e_8_75, e_8_76, e_8_77, e_8_80, e_8_81, zk_int, zk_ref, zk_null, zk_none, zk_long, zisR_r, zisR_n, zcl_int, zcl_ref, zcl_null, zpush_s, zpush_n, zbs, zbn, true_or, or_true, not_false_eq_true, not_true_eq_false, ↓reduceIte, and_self, and_true, true_and, zt_11, k2, k3, k4, z2, z4, z5, z6, b1, b2, s1, s2, s3, s4]
  rfl
theorem q_doStay_2 {d : Nat} {w : zM} {y : Int32} {q : Nat × (Nat → Int32)} (hk : w.1 11 2 = 2) (hq : q.1 < 700) : cal (d + 4) 8 [.ref 11, .int y] (sAcW w q) = some (some (.int (sVY 2 y (w.1 11 3) (w.1 11 4))), sAcW w (sTY 2 q)) := by
  have k2 : ∀ q, (sAcW w q).1 11 2 = 2 := fun q => (sAcW_k w q (by decide)).trans hk
  have k3 : ∀ q, (sAcW w q).1 11 3 = w.1 11 3 := fun q => sAcW_k w q (by decide)
  have k4 : ∀ q, (sAcW w q).1 11 4 = w.1 11 4 := fun q => sAcW_k w q (by decide)
  have z2 : ((2 : Int32) = 2) = True := by decide
  have z4 : ((2 : Int32) = 4) = False := by decide
  have z5 : ((2 : Int32) = 5) = False := by decide
  have z6 : ((2 : Int32) = 6) = False := by decide
  have b1 := fun b => q_began (d := d + 2) (w := w) (q := q) (b := b) (by omega)
  have b2 := fun a b => q_began (d := d + 2) (w := w) (q := sPu q a) (b := b) (by rw [sPu_le]; omega)
  have s1 := fun y a => q_doGive_2 (d := d) (w := w) (y := y) (q := sPu q a) hk (by rw [sPu_le]; omega)
  have s2 := fun y a b => q_doGive_2 (d := d) (w := w) (y := y) (q := sPu (sPu q a) b) hk (by rw [sPu_le, sPu_le]; omega)
  have s3 := fun y a => q_doServe_2 (d := d + 1) (w := w) (y := y) (q := sTG 2 (sPu q a)) hk (by have := sTG_le 2 (sPu q a); rw [sPu_le] at this; omega)
  have s4 := fun y a b => q_doServe_2 (d := d + 1) (w := w) (y := y) (q := sTG 2 (sPu (sPu q a) b)) hk (by have := sTG_le 2 (sPu (sPu q a) b); rw [sPu_le, sPu_le] at this; omega)
  simp only [c_8, e_8_0, e_8_1, e_8_4, e_8_6, e_8_9, e_8_10, e_8_12, e_8_15, e_8_16, e_8_19, e_8_20, e_8_23, e_8_24, e_8_26, e_8_29, e_8_30, e_8_32, e_8_35, e_8_36, e_8_37, e_8_40, e_8_41, e_8_42, e_8_43, e_8_44, e_8_45, e_8_48, e_8_49, e_8_52, e_8_53, e_8_54, e_8_55, e_8_58, e_8_60, e_8_63, e_8_64, e_8_65, e_8_66, e_8_67, e_8_70, e_8_71, e_8_74, e_8_75, e_8_76, e_8_77, e_8_80, e_8_81, zk_int, zk_ref, zk_null, zk_none, zk_long, zisR_r, zisR_n, zcl_int, zcl_ref, zcl_null, zpush_s, zpush_n, zbs, zbn, true_or, or_true, not_false_eq_true, not_true_eq_false, ↓reduceIte, and_self, and_true, true_and, zt_11, k2, k3, k4, z2, z4, z5, z6, b1, b2, s1, s2, s3, s4]
  rfl
theorem q_doStay_3 {d : Nat} {w : zM} {y : Int32} {q : Nat × (Nat → Int32)} (hk : w.1 11 2 = 3) (hq : q.1 < 700) : cal (d + 4) 8 [.ref 11, .int y] (sAcW w q) = some (some (.int (sVY 3 y (w.1 11 3) (w.1 11 4))), sAcW w (sTY 3 q)) := by
  have k2 : ∀ q, (sAcW w q).1 11 2 = 3 := fun q => (sAcW_k w q (by decide)).trans hk
  have k3 : ∀ q, (sAcW w q).1 11 3 = w.1 11 3 := fun q => sAcW_k w q (by decide)
  have k4 : ∀ q, (sAcW w q).1 11 4 = w.1 11 4 := fun q => sAcW_k w q (by decide)
  have z2 : ((3 : Int32) = 2) = False := by decide
  have z4 : ((3 : Int32) = 4) = False := by decide
  have z5 : ((3 : Int32) = 5) = False := by decide
  have z6 : ((3 : Int32) = 6) = False := by decide
  have b1 := fun b => q_began (d := d + 2) (w := w) (q := q) (b := b) (by omega)
  have b2 := fun a b => q_began (d := d + 2) (w := w) (q := sPu q a) (b := b) (by rw [sPu_le]; omega)
  have s1 := fun y a => q_doGive_3 (d := d) (w := w) (y := y) (q := sPu q a) hk (by rw [sPu_le]; omega)
  have s2 := fun y a b => q_doGive_3 (d := d) (w := w) (y := y) (q := sPu (sPu q a) b) hk (by rw [sPu_le, sPu_le]; omega)
  have s3 := fun y a => q_doServe_3 (d := d + 1) (w := w) (y := y) (q := sTG 3 (sPu q a)) hk (by have := sTG_le 3 (sPu q a); rw [sPu_le] at this; omega)
  have s4 := fun y a b => q_doServe_3 (d := d + 1) (w := w) (y := y) (q := sTG 3 (sPu (sPu q a) b)) hk (by have := sTG_le 3 (sPu (sPu q a) b); rw [sPu_le, sPu_le] at this; omega)
  simp only [c_8, e_8_0, e_8_1, e_8_4, e_8_6, e_8_9, e_8_10, e_8_12, e_8_15, e_8_16, e_8_19, e_8_20, e_8_23, e_8_24, e_8_26, e_8_29, e_8_30, e_8_32, e_8_35, e_8_36, e_8_37, e_8_40, e_8_41, e_8_42, e_8_43, e_8_44, e_8_45, e_8_48, e_8_49, e_8_52, e_8_53, e_8_54, e_8_55, e_8_58, e_8_60, e_8_63, e_8_64, e_8_65, e_8_66, e_8_67, e_8_70, e_8_71, e_8_74, e_8_75, e_8_76, e_8_77, e_8_80, e_8_81, zk_int, zk_ref, zk_null, zk_none, zk_long, zisR_r, zisR_n, zcl_int, zcl_ref, zcl_null, zpush_s, zpush_n, zbs, zbn, true_or, or_true, not_false_eq_true, not_true_eq_false, ↓reduceIte, and_self, and_true, true_and, zt_11, k2, k3, k4, z2, z4, z5, z6, b1, b2, s1, s2, s3, s4]
  rfl
theorem q_doStay_4 {d : Nat} {w : zM} {y : Int32} {q : Nat × (Nat → Int32)} (hk : w.1 11 2 = 4) (hq : q.1 < 700) : cal (d + 4) 8 [.ref 11, .int y] (sAcW w q) = some (some (.int (sVY 4 y (w.1 11 3) (w.1 11 4))), sAcW w (sTY 4 q)) := by
  have k2 : ∀ q, (sAcW w q).1 11 2 = 4 := fun q => (sAcW_k w q (by decide)).trans hk
  have k3 : ∀ q, (sAcW w q).1 11 3 = w.1 11 3 := fun q => sAcW_k w q (by decide)
  have k4 : ∀ q, (sAcW w q).1 11 4 = w.1 11 4 := fun q => sAcW_k w q (by decide)
  have z2 : ((4 : Int32) = 2) = False := by decide
  have z4 : ((4 : Int32) = 4) = True := by decide
  have z5 : ((4 : Int32) = 5) = False := by decide
  have z6 : ((4 : Int32) = 6) = False := by decide
  have b1 := fun b => q_began (d := d + 2) (w := w) (q := q) (b := b) (by omega)
  have b2 := fun a b => q_began (d := d + 2) (w := w) (q := sPu q a) (b := b) (by rw [sPu_le]; omega)
  have s1 := fun y a => q_doGive_4 (d := d) (w := w) (y := y) (q := sPu q a) hk (by rw [sPu_le]; omega)
  have s2 := fun y a b => q_doGive_4 (d := d) (w := w) (y := y) (q := sPu (sPu q a) b) hk (by rw [sPu_le, sPu_le]; omega)
  have s3 := fun y a => q_doServe_4 (d := d + 1) (w := w) (y := y) (q := sTG 4 (sPu q a)) hk (by have := sTG_le 4 (sPu q a); rw [sPu_le] at this; omega)
  have s4 := fun y a b => q_doServe_4 (d := d + 1) (w := w) (y := y) (q := sTG 4 (sPu (sPu q a) b)) hk (by have := sTG_le 4 (sPu (sPu q a) b); rw [sPu_le, sPu_le] at this; omega)
  simp only [c_8, e_8_0, e_8_1, e_8_4, e_8_6, e_8_9, e_8_10, e_8_12, e_8_15, e_8_16, e_8_19, e_8_20, e_8_23, e_8_24, e_8_26, e_8_29, e_8_30, e_8_32, e_8_35, e_8_36, e_8_37, e_8_40, e_8_41, e_8_42, e_8_43, e_8_44, e_8_45, e_8_48, e_8_49, e_8_52, e_8_53, e_8_54, e_8_55, e_8_58, e_8_60, e_8_63, e_8_64, e_8_65, e_8_66, e_8_67, e_8_70, e_8_71, e_8_74, e_8_75, e_8_76, e_8_77, e_8_80, e_8_81, zk_int, zk_ref, zk_null, zk_none, zk_long, zisR_r, zisR_n, zcl_int, zcl_ref, zcl_null, zpush_s, zpush_n, zbs, zbn, true_or, or_true, not_false_eq_true, not_true_eq_false, ↓reduceIte, and_self, and_true, true_and, zt_11, k2, k3, k4, z2, z4, z5, z6, b1, b2, s1, s2, s3, s4]
  rfl
theorem q_doStay_5 {d : Nat} {w : zM} {y : Int32} {q : Nat × (Nat → Int32)} (hk : w.1 11 2 = 5) (hq : q.1 < 700) : cal (d + 4) 8 [.ref 11, .int y] (sAcW w q) = some (some (.int (sVY 5 y (w.1 11 3) (w.1 11 4))), sAcW w (sTY 5 q)) := by
  have k2 : ∀ q, (sAcW w q).1 11 2 = 5 := fun q => (sAcW_k w q (by decide)).trans hk
  have k3 : ∀ q, (sAcW w q).1 11 3 = w.1 11 3 := fun q => sAcW_k w q (by decide)
  have k4 : ∀ q, (sAcW w q).1 11 4 = w.1 11 4 := fun q => sAcW_k w q (by decide)
  have z2 : ((5 : Int32) = 2) = False := by decide
  have z4 : ((5 : Int32) = 4) = False := by decide
  have z5 : ((5 : Int32) = 5) = True := by decide
  have z6 : ((5 : Int32) = 6) = False := by decide
  have b1 := fun b => q_began (d := d + 2) (w := w) (q := q) (b := b) (by omega)
  have b2 := fun a b => q_began (d := d + 2) (w := w) (q := sPu q a) (b := b) (by rw [sPu_le]; omega)
  have s1 := fun y a => q_doGive_5 (d := d) (w := w) (y := y) (q := sPu q a) hk (by rw [sPu_le]; omega)
  have s2 := fun y a b => q_doGive_5 (d := d) (w := w) (y := y) (q := sPu (sPu q a) b) hk (by rw [sPu_le, sPu_le]; omega)
  have s3 := fun y a => q_doServe_5 (d := d + 1) (w := w) (y := y) (q := sTG 5 (sPu q a)) hk (by have := sTG_le 5 (sPu q a); rw [sPu_le] at this; omega)
  have s4 := fun y a b => q_doServe_5 (d := d + 1) (w := w) (y := y) (q := sTG 5 (sPu (sPu q a) b)) hk (by have := sTG_le 5 (sPu (sPu q a) b); rw [sPu_le, sPu_le] at this; omega)
  simp only [c_8, e_8_0, e_8_1, e_8_4, e_8_6, e_8_9, e_8_10, e_8_12, e_8_15, e_8_16, e_8_19, e_8_20, e_8_23, e_8_24, e_8_26, e_8_29, e_8_30, e_8_32, e_8_35, e_8_36, e_8_37, e_8_40, e_8_41, e_8_42, e_8_43, e_8_44, e_8_45, e_8_48, e_8_49, e_8_52, e_8_53, e_8_54, e_8_55, e_8_58, e_8_60, e_8_63, e_8_64, e_8_65, e_8_66, e_8_67, e_8_70, e_8_71, e_8_74, e_8_75, e_8_76, e_8_77, e_8_80, e_8_81, zk_int, zk_ref, zk_null, zk_none, zk_long, zisR_r, zisR_n, zcl_int, zcl_ref, zcl_null, zpush_s, zpush_n, zbs, zbn, true_or, or_true, not_false_eq_true, not_true_eq_false, ↓reduceIte, and_self, and_true, true_and, zt_11, k2, k3, k4, z2, z4, z5, z6, b1, b2, s1, s2, s3, s4]
  rfl
theorem q_doStay_6 {d : Nat} {w : zM} {y : Int32} {q : Nat × (Nat → Int32)} (hk : w.1 11 2 = 6) (hq : q.1 < 700) : cal (d + 4) 8 [.ref 11, .int y] (sAcW w q) = some (some (.int (sVY 6 y (w.1 11 3) (w.1 11 4))), sAcW w (sTY 6 q)) := by
  have k2 : ∀ q, (sAcW w q).1 11 2 = 6 := fun q => (sAcW_k w q (by decide)).trans hk
  have k3 : ∀ q, (sAcW w q).1 11 3 = w.1 11 3 := fun q => sAcW_k w q (by decide)
  have k4 : ∀ q, (sAcW w q).1 11 4 = w.1 11 4 := fun q => sAcW_k w q (by decide)
  have z2 : ((6 : Int32) = 2) = False := by decide
  have z4 : ((6 : Int32) = 4) = False := by decide
  have z5 : ((6 : Int32) = 5) = False := by decide
  have z6 : ((6 : Int32) = 6) = True := by decide
  have b1 := fun b => q_began (d := d + 2) (w := w) (q := q) (b := b) (by omega)
  have b2 := fun a b => q_began (d := d + 2) (w := w) (q := sPu q a) (b := b) (by rw [sPu_le]; omega)
  have s1 := fun y a => q_doGive_6 (d := d) (w := w) (y := y) (q := sPu q a) hk (by rw [sPu_le]; omega)
  have s2 := fun y a b => q_doGive_6 (d := d) (w := w) (y := y) (q := sPu (sPu q a) b) hk (by rw [sPu_le, sPu_le]; omega)
  have s3 := fun y a => q_doServe_6 (d := d + 1) (w := w) (y := y) (q := sTG 6 (sPu q a)) hk (by have := sTG_le 6 (sPu q a); rw [sPu_le] at this; omega)
  have s4 := fun y a b => q_doServe_6 (d := d + 1) (w := w) (y := y) (q := sTG 6 (sPu (sPu q a) b)) hk (by have := sTG_le 6 (sPu (sPu q a) b); rw [sPu_le, sPu_le] at this; omega)
  simp only [c_8, e_8_0, e_8_1, e_8_4, e_8_6, e_8_9, e_8_10, e_8_12, e_8_15, e_8_16, e_8_19, e_8_20, e_8_23, e_8_24, e_8_26, e_8_29, e_8_30, e_8_32, e_8_35, e_8_36, e_8_37, e_8_40, e_8_41, e_8_42, e_8_43, e_8_44, e_8_45, e_8_48, e_8_49, e_8_52, e_8_53, e_8_54, e_8_55, e_8_58, e_8_60, e_8_63, e_8_64, e_8_65, e_8_66, e_8_67, e_8_70, e_8_71, e_8_74, e_8_75, e_8_76, e_8_77, e_8_80, e_8_81, zk_int, zk_ref, zk_null, zk_none, zk_long, zisR_r, zisR_n, zcl_int, zcl_ref, zcl_null, zpush_s, zpush_n, zbs, zbn, true_or, or_true, not_false_eq_true, not_true_eq_false, ↓reduceIte, and_self, and_true, true_and, zt_11, k2, k3, k4, z2, z4, z5, z6, b1, b2, s1, s2, s3, s4]
  rfl
theorem q_bodyAt {d k j : Nat} {w : zM} (hk : w.1 11 1 = nI k) (hk2 : k < 1000) (hj : j < k) (hj2 : j < 20) : cal d 4 [.ref 11, .int (nI j)] w = some (some (.int (w.1 12 j)), w) := by
  have g0 := nI_lt0 (a := j) (by omega)
  have g1 := nI_ge_f hj (by omega)
  have g2 : (Int32.ofNat 20 ≤ nI j) = False := nI_ge_f (a := j) (b := 20) (by omega) (by omega)
  have g3 : zis (nI j) 20 = true := zis_nI (by omega) (by omega)
  have g4 : (nI j).toNatClampNeg = j := nI_clamp (by omega)
  have e9 : zld w 12 j = w.1 12 j := zld_A zt_12
  simp only [c_4, e_4_0, e_4_1, e_4_4, e_4_5, e_4_6, e_4_9, e_4_12, e_4_13, e_4_14, e_4_17, e_4_18, e_4_21, e_4_22, e_4_25, e_4_26, e_4_27, e_4_30, e_4_31, zk_int, zk_ref, zk_null, zk_none, zk_long, zisR_r, zisR_n, zcl_int, zcl_ref, zcl_null, zpush_s, zpush_n, zbs, zbn, true_or, or_true, not_false_eq_true, not_true_eq_false, ↓reduceIte, and_self, and_true, true_and, zt_11, zt_12, zn_12, zr_11_0, hk, g0, g1, g2, g3, g4, e9]
theorem q_bodyAt_o {d : Nat} {w : zM} {i : Int32} (hi : i < 0 ∨ w.1 11 1 ≤ i ∨ 20 ≤ i) : cal d 4 [.ref 11, .int i] w = some (some (.int (-1)), w) := by
  have e : Int32.ofNat 20 = 20 := by decide
  by_cases h0 : i < 0
  · simp only [c_4, e_4_0, e_4_1, e_4_4, e_4_5, e_4_6, e_4_9, e_4_12, e_4_13, e_4_14, e_4_17, e_4_18, e_4_21, e_4_22, e_4_25, e_4_26, e_4_27, e_4_30, e_4_31, zk_int, zk_ref, zk_null, zk_none, zk_long, zisR_r, zisR_n, zcl_int, zcl_ref, zcl_null, zpush_s, zpush_n, zbs, zbn, true_or, or_true, not_false_eq_true, not_true_eq_false, ↓reduceIte, and_self, and_true, true_and, zt_11, zt_12, zn_12, zr_11_0, h0]
  · by_cases h1 : w.1 11 1 ≤ i
    · simp only [c_4, e_4_0, e_4_1, e_4_4, e_4_5, e_4_6, e_4_9, e_4_12, e_4_13, e_4_14, e_4_17, e_4_18, e_4_21, e_4_22, e_4_25, e_4_26, e_4_27, e_4_30, e_4_31, zk_int, zk_ref, zk_null, zk_none, zk_long, zisR_r, zisR_n, zcl_int, zcl_ref, zcl_null, zpush_s, zpush_n, zbs, zbn, true_or, or_true, not_false_eq_true, not_true_eq_false, ↓reduceIte, and_self, and_true, true_and, zt_11, zt_12, zn_12, zr_11_0, h0, h1]
    · have h2 : 20 ≤ i := (hi.resolve_left h0).resolve_left h1
      simp only [c_4, e_4_0, e_4_1, e_4_4, e_4_5, e_4_6, e_4_9, e_4_12, e_4_13, e_4_14, e_4_17, e_4_18, e_4_21, e_4_22, e_4_25, e_4_26, e_4_27, e_4_30, e_4_31, zk_int, zk_ref, zk_null, zk_none, zk_long, zisR_r, zisR_n, zcl_int, zcl_ref, zcl_null, zpush_s, zpush_n, zbs, zbn, true_or, or_true, not_false_eq_true, not_true_eq_false, ↓reduceIte, and_self, and_true, true_and, zt_11, zt_12, zn_12, zr_11_0, h0, h1, e, h2]
