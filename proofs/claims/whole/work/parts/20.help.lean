theorem zk_int {x : Int32} : zkill (some (.int x)) = some (.int x) := rfl
theorem zk_ref {x : Nat} : zkill (some (.ref x)) = some (.ref x) := rfl
theorem zk_null : zkill (some .null) = some .null := rfl
theorem zk_none : zkill none = none := rfl
theorem zk_long {x : Int64} : zkill (some (.long x)) = none := rfl
theorem zisR_r {a : Nat} : zisR (.ref a) = true := eq_true_of_ne_false (fun h => by cases h)
theorem zisR_n : zisR .null = true := eq_true_of_ne_false (fun h => by cases h)
theorem zcl_int {x : Int32} : zcl2 (.int x) = true := eq_true_of_ne_false (fun h => by cases h)
theorem zcl_ref {x : Nat} : zcl2 (.ref x) = true := eq_true_of_ne_false (fun h => by cases h)
theorem zcl_null : zcl2 .null = true := eq_true_of_ne_false (fun h => by cases h)
theorem zpush_s {v : Value} {st : List Value} : zpush (some v) st = v :: st := rfl
theorem zpush_n {st : List Value} : zpush none st = st := rfl
theorem zbs {r : Option Value × zM} {f : Option Value × zM → Option (Option Value × zM)} : (some r).bind f = f r := rfl
theorem zbn {f : Option Value × zM → Option (Option Value × zM)} : Option.bind none f = none := rfl

def zuA (w : zM) (a : Nat) (f : Nat → Int32) : zM := (fun a' k' => if a' = a then f k' else w.1 a' k', w.2)
def zuB (w : zM) (a : Nat) (f : Nat → Int64) : zM := (w.1, fun a' k' => if a' = a then f k' else w.2 a' k')
theorem zui_A (w : zM) (a k : Nat) (v : Int32) : zui w a k v = zuA w a (upd (w.1 a) k v) := by
  unfold zui zuA upd
  refine Prod.ext ?_ rfl
  funext a' k'
  dsimp only
  by_cases h : a' = a
  · subst h
    by_cases hk : k' = k
    · rw [if_pos ⟨rfl, hk⟩, if_pos rfl, if_pos hk]
    · rw [if_neg (fun z => hk z.2), if_pos rfl, if_neg hk]
  · rw [if_neg (fun z => h z.1), if_neg h]
theorem zul_B (w : zM) (a k : Nat) (v : Int64) : zul w a k v = zuB w a (vp_updL (w.2 a) k v) := by
  unfold zul zuB vp_updL
  refine Prod.ext rfl ?_
  funext a' k'
  dsimp only
  by_cases h : a' = a
  · subst h
    by_cases hk : k' = k
    · rw [if_pos ⟨rfl, hk⟩, if_pos rfl, if_pos hk]
    · rw [if_neg (fun z => hk z.2), if_pos rfl, if_neg hk]
  · rw [if_neg (fun z => h z.1), if_neg h]
theorem zA_s (w : zM) (a : Nat) (f : Nat → Int32) : (zuA w a f).1 a = f := by
  funext k
  exact if_pos rfl
theorem zA_n (w : zM) {a b : Nat} (f : Nat → Int32) (h : b ≠ a) : (zuA w a f).1 b = w.1 b := by
  funext k
  exact if_neg h
theorem zA_2 (w : zM) (a : Nat) (f : Nat → Int32) : (zuA w a f).2 = w.2 := id rfl
theorem zB_s (w : zM) (a : Nat) (f : Nat → Int64) : (zuB w a f).2 a = f := by
  funext k
  exact if_pos rfl
theorem zB_n (w : zM) {a b : Nat} (f : Nat → Int64) (h : b ≠ a) : (zuB w a f).2 b = w.2 b := by
  funext k
  exact if_neg h
theorem zB_1 (w : zM) (a : Nat) (f : Nat → Int64) : (zuB w a f).1 = w.1 := id rfl
theorem zA_A (w : zM) (a : Nat) (f g : Nat → Int32) : zuA (zuA w a f) a g = zuA w a g := by
  refine Prod.ext ?_ rfl
  funext a' k'
  show (if a' = a then g k' else if a' = a then f k' else w.1 a' k') = if a' = a then g k' else w.1 a' k'
  by_cases h : a' = a
  · rw [if_pos h, if_pos h]
  · rw [if_neg h, if_neg h, if_neg h]
theorem zA_id (w : zM) (a : Nat) : zuA w a (w.1 a) = w := by
  refine Prod.ext ?_ rfl
  funext a' k'
  show (if a' = a then w.1 a k' else w.1 a' k') = w.1 a' k'
  by_cases h : a' = a
  · rw [if_pos h, h]
  · rw [if_neg h]
theorem zA_c (w : zM) {a b : Nat} (f g : Nat → Int32) (h : a ≠ b) : zuA (zuA w a f) b g = zuA (zuA w b g) a f := by
  refine Prod.ext ?_ rfl
  funext a' k'
  show (if a' = b then g k' else if a' = a then f k' else w.1 a' k') = if a' = a then f k' else if a' = b then g k' else w.1 a' k'
  by_cases ha : a' = a
  · rw [if_neg (fun e => h (ha.symm.trans e)), if_pos ha, if_pos ha]
  · rw [if_neg ha, if_neg ha]
theorem zB_B (w : zM) (a : Nat) (f g : Nat → Int64) : zuB (zuB w a f) a g = zuB w a g := by
  refine Prod.ext rfl ?_
  funext a' k'
  show (if a' = a then g k' else if a' = a then f k' else w.2 a' k') = if a' = a then g k' else w.2 a' k'
  by_cases h : a' = a
  · rw [if_pos h, if_pos h]
  · rw [if_neg h, if_neg h, if_neg h]
theorem zis_nI {j n : Nat} (h : j < n) (hn : n < 2 ^ 31) : zis (nI j) n = true := by
  unfold zis
  rw [decide_eq_true_eq]
  exact vp_in_nI h hn
theorem zld_A {w : zM} {a j : Nat} (h : zTag a = 10) : zld w a j = w.1 a j := by
  unfold zld
  rw [if_neg (by rw [h]; decide)]
theorem zld_S {w : zM} {a j : Nat} (h : zTag a = 20) : zld w a j = ztab a j := by
  unfold zld
  rw [if_pos h]
theorem ztA_or {a : Nat} (h : zTag a = 10) : zTag a = 10 ∨ zTag a = 20 := Or.inl h
theorem ztS_or {a : Nat} (h : zTag a = 20) : zTag a = 10 ∨ zTag a = 20 := Or.inr h
theorem ztA_ol {a : Nat} (h : zTag a = 10) : zTag a = 10 ∨ zTag a = 11 ∨ zTag a = 12 ∨ zTag a = 20 := Or.inl h
theorem ztS_ol {a : Nat} (h : zTag a = 20) : zTag a = 10 ∨ zTag a = 11 ∨ zTag a = 12 ∨ zTag a = 20 := Or.inr (Or.inr (Or.inr h))
theorem zt_0 : zTag 0 = 5 := by decide +kernel
theorem zn_0 : zLen 0 = 8 := by decide +kernel
theorem zt_1 : zTag 1 = 1 := by decide +kernel
theorem zn_1 : zLen 1 = 9 := by decide +kernel
theorem zt_2 : zTag 2 = 10 := by decide +kernel
theorem zn_2 : zLen 2 = 40 := by decide +kernel
theorem zt_3 : zTag 3 = 10 := by decide +kernel
theorem zn_3 : zLen 3 = 24 := by decide +kernel
theorem zt_4 : zTag 4 = 10 := by decide +kernel
theorem zn_4 : zLen 4 = 5 := by decide +kernel
theorem zt_5 : zTag 5 = 10 := by decide +kernel
theorem zn_5 : zLen 5 = 8 := by decide +kernel
theorem zt_6 : zTag 6 = 1 := by decide +kernel
theorem zn_6 : zLen 6 = 9 := by decide +kernel
theorem zt_7 : zTag 7 = 10 := by decide +kernel
theorem zn_7 : zLen 7 = 40 := by decide +kernel
theorem zt_8 : zTag 8 = 10 := by decide +kernel
theorem zn_8 : zLen 8 = 24 := by decide +kernel
theorem zt_9 : zTag 9 = 10 := by decide +kernel
theorem zn_9 : zLen 9 = 5 := by decide +kernel
theorem zt_10 : zTag 10 = 10 := by decide +kernel
theorem zn_10 : zLen 10 = 8 := by decide +kernel
theorem zt_11 : zTag 11 = 0 := by decide +kernel
theorem zn_11 : zLen 11 = 5 := by decide +kernel
theorem zt_12 : zTag 12 = 10 := by decide +kernel
theorem zn_12 : zLen 12 = 20 := by decide +kernel
theorem zt_13 : zTag 13 = 2 := by decide +kernel
theorem zn_13 : zLen 13 = 11 := by decide +kernel
theorem zt_14 : zTag 14 = 1 := by decide +kernel
theorem zn_14 : zLen 14 = 9 := by decide +kernel
theorem zt_15 : zTag 15 = 10 := by decide +kernel
theorem zn_15 : zLen 15 = 40 := by decide +kernel
theorem zt_16 : zTag 16 = 10 := by decide +kernel
theorem zn_16 : zLen 16 = 24 := by decide +kernel
theorem zt_17 : zTag 17 = 10 := by decide +kernel
theorem zn_17 : zLen 17 = 5 := by decide +kernel
theorem zt_18 : zTag 18 = 10 := by decide +kernel
theorem zn_18 : zLen 18 = 8 := by decide +kernel
theorem zt_19 : zTag 19 = 10 := by decide +kernel
theorem zn_19 : zLen 19 = 1024 := by decide +kernel
theorem zt_20 : zTag 20 = 10 := by decide +kernel
theorem zn_20 : zLen 20 = 4 := by decide +kernel
theorem zt_21 : zTag 21 = 10 := by decide +kernel
theorem zn_21 : zLen 21 = 4 := by decide +kernel
theorem zt_22 : zTag 22 = 10 := by decide +kernel
theorem zn_22 : zLen 22 = 9 := by decide +kernel
theorem zt_23 : zTag 23 = 10 := by decide +kernel
theorem zn_23 : zLen 23 = 8 := by decide +kernel
theorem zt_24 : zTag 24 = 10 := by decide +kernel
theorem zn_24 : zLen 24 = 8 := by decide +kernel
theorem zt_25 : zTag 25 = 3 := by decide +kernel
theorem zn_25 : zLen 25 = 4 := by decide +kernel
theorem zt_26 : zTag 26 = 1 := by decide +kernel
theorem zn_26 : zLen 26 = 9 := by decide +kernel
theorem zt_27 : zTag 27 = 10 := by decide +kernel
theorem zn_27 : zLen 27 = 40 := by decide +kernel
theorem zt_28 : zTag 28 = 10 := by decide +kernel
theorem zn_28 : zLen 28 = 24 := by decide +kernel
theorem zt_29 : zTag 29 = 10 := by decide +kernel
theorem zn_29 : zLen 29 = 5 := by decide +kernel
theorem zt_30 : zTag 30 = 10 := by decide +kernel
theorem zn_30 : zLen 30 = 8 := by decide +kernel
theorem zt_31 : zTag 31 = 10 := by decide +kernel
theorem zn_31 : zLen 31 = 5 := by decide +kernel
theorem zt_32 : zTag 32 = 12 := by decide +kernel
theorem zn_32 : zLen 32 = 8 := by decide +kernel
theorem zt_33 : zTag 33 = 10 := by decide +kernel
theorem zn_33 : zLen 33 = 8 := by decide +kernel
theorem zt_34 : zTag 34 = 4 := by decide +kernel
theorem zn_34 : zLen 34 = 3 := by decide +kernel
theorem zt_35 : zTag 35 = 11 := by decide +kernel
theorem zn_35 : zLen 35 = 160 := by decide +kernel
theorem zt_36 : zTag 36 = 4 := by decide +kernel
theorem zn_36 : zLen 36 = 3 := by decide +kernel
theorem zt_37 : zTag 37 = 11 := by decide +kernel
theorem zn_37 : zLen 37 = 160 := by decide +kernel
theorem zt_38 : zTag 38 = 4 := by decide +kernel
theorem zn_38 : zLen 38 = 3 := by decide +kernel
theorem zt_39 : zTag 39 = 11 := by decide +kernel
theorem zn_39 : zLen 39 = 160 := by decide +kernel
theorem zt_40 : zTag 40 = 4 := by decide +kernel
theorem zn_40 : zLen 40 = 3 := by decide +kernel
theorem zt_41 : zTag 41 = 11 := by decide +kernel
theorem zn_41 : zLen 41 = 160 := by decide +kernel
theorem zt_42 : zTag 42 = 4 := by decide +kernel
theorem zn_42 : zLen 42 = 3 := by decide +kernel
theorem zt_43 : zTag 43 = 11 := by decide +kernel
theorem zn_43 : zLen 43 = 160 := by decide +kernel
theorem zt_44 : zTag 44 = 4 := by decide +kernel
theorem zn_44 : zLen 44 = 3 := by decide +kernel
theorem zt_45 : zTag 45 = 11 := by decide +kernel
theorem zn_45 : zLen 45 = 160 := by decide +kernel
theorem zt_46 : zTag 46 = 4 := by decide +kernel
theorem zn_46 : zLen 46 = 3 := by decide +kernel
theorem zt_47 : zTag 47 = 11 := by decide +kernel
theorem zn_47 : zLen 47 = 160 := by decide +kernel
theorem zt_48 : zTag 48 = 4 := by decide +kernel
theorem zn_48 : zLen 48 = 3 := by decide +kernel
theorem zt_49 : zTag 49 = 11 := by decide +kernel
theorem zn_49 : zLen 49 = 160 := by decide +kernel
theorem zt_50 : zTag 50 = 6 := by decide +kernel
theorem zn_50 : zLen 50 = 48 := by decide +kernel
theorem zt_51 : zTag 51 = 10 := by decide +kernel
theorem zn_51 : zLen 51 = 8 := by decide +kernel
theorem zt_52 : zTag 52 = 10 := by decide +kernel
theorem zn_52 : zLen 52 = 8 := by decide +kernel
theorem zt_53 : zTag 53 = 10 := by decide +kernel
theorem zn_53 : zLen 53 = 8 := by decide +kernel
theorem zt_54 : zTag 54 = 10 := by decide +kernel
theorem zn_54 : zLen 54 = 8 := by decide +kernel
theorem zt_55 : zTag 55 = 10 := by decide +kernel
theorem zn_55 : zLen 55 = 8 := by decide +kernel
theorem zt_56 : zTag 56 = 10 := by decide +kernel
theorem zn_56 : zLen 56 = 8 := by decide +kernel
theorem zt_57 : zTag 57 = 10 := by decide +kernel
theorem zn_57 : zLen 57 = 4 := by decide +kernel
theorem zt_58 : zTag 58 = 10 := by decide +kernel
theorem zn_58 : zLen 58 = 4 := by decide +kernel
theorem zt_59 : zTag 59 = 10 := by decide +kernel
theorem zn_59 : zLen 59 = 4 := by decide +kernel
theorem zt_60 : zTag 60 = 10 := by decide +kernel
theorem zn_60 : zLen 60 = 4 := by decide +kernel
theorem zt_61 : zTag 61 = 10 := by decide +kernel
theorem zn_61 : zLen 61 = 4 := by decide +kernel
theorem zt_62 : zTag 62 = 10 := by decide +kernel
theorem zn_62 : zLen 62 = 4 := by decide +kernel
theorem zt_63 : zTag 63 = 10 := by decide +kernel
theorem zn_63 : zLen 63 = 3 := by decide +kernel
theorem zt_64 : zTag 64 = 10 := by decide +kernel
theorem zn_64 : zLen 64 = 8 := by decide +kernel
theorem zt_65 : zTag 65 = 10 := by decide +kernel
theorem zn_65 : zLen 65 = 8 := by decide +kernel
theorem zt_66 : zTag 66 = 10 := by decide +kernel
theorem zn_66 : zLen 66 = 8 := by decide +kernel
theorem zt_67 : zTag 67 = 10 := by decide +kernel
theorem zn_67 : zLen 67 = 8 := by decide +kernel
theorem zt_68 : zTag 68 = 11 := by decide +kernel
theorem zn_68 : zLen 68 = 1280 := by decide +kernel
theorem zt_69 : zTag 69 = 11 := by decide +kernel
theorem zn_69 : zLen 69 = 160 := by decide +kernel
theorem zt_70 : zTag 70 = 10 := by decide +kernel
theorem zn_70 : zLen 70 = 40 := by decide +kernel
theorem zt_71 : zTag 71 = 10 := by decide +kernel
theorem zn_71 : zLen 71 = 5 := by decide +kernel
theorem zt_72 : zTag 72 = 10 := by decide +kernel
theorem zn_72 : zLen 72 = 100 := by decide +kernel
theorem zt_73 : zTag 73 = 10 := by decide +kernel
theorem zn_73 : zLen 73 = 100 := by decide +kernel
theorem zt_74 : zTag 74 = 10 := by decide +kernel
theorem zn_74 : zLen 74 = 4 := by decide +kernel
theorem zt_75 : zTag 75 = 10 := by decide +kernel
theorem zn_75 : zLen 75 = 4 := by decide +kernel
theorem zt_76 : zTag 76 = 10 := by decide +kernel
theorem zn_76 : zLen 76 = 8 := by decide +kernel
theorem zt_77 : zTag 77 = 10 := by decide +kernel
theorem zn_77 : zLen 77 = 8 := by decide +kernel
theorem zt_78 : zTag 78 = 10 := by decide +kernel
theorem zn_78 : zLen 78 = 4 := by decide +kernel
theorem zt_79 : zTag 79 = 10 := by decide +kernel
theorem zn_79 : zLen 79 = 20 := by decide +kernel
theorem zt_999 : zTag 999 = 21 := by decide +kernel
theorem zt_1000 : zTag 1000 = 20 := by decide +kernel
theorem zn_1000 : zLen 1000 = 7 := by decide +kernel
theorem zt_1001 : zTag 1001 = 20 := by decide +kernel
theorem zn_1001 : zLen 1001 = 4 := by decide +kernel
theorem zt_1002 : zTag 1002 = 20 := by decide +kernel
theorem zn_1002 : zLen 1002 = 4 := by decide +kernel
theorem zt_1003 : zTag 1003 = 20 := by decide +kernel
theorem zn_1003 : zLen 1003 = 5 := by decide +kernel
theorem zt_1004 : zTag 1004 = 20 := by decide +kernel
theorem zn_1004 : zLen 1004 = 5 := by decide +kernel
theorem zt_1005 : zTag 1005 = 20 := by decide +kernel
theorem zn_1005 : zLen 1005 = 5 := by decide +kernel
theorem zt_1006 : zTag 1006 = 20 := by decide +kernel
theorem zn_1006 : zLen 1006 = 5 := by decide +kernel
theorem zt_2000 : zTag 2000 = 22 := by decide +kernel
theorem zn_2000 : zLen 2000 = 6 := by decide +kernel
theorem zt_2001 : zTag 2001 = 22 := by decide +kernel
theorem zn_2001 : zLen 2001 = 5 := by decide +kernel
theorem zt_2002 : zTag 2002 = 22 := by decide +kernel
theorem zn_2002 : zLen 2002 = 7 := by decide +kernel
theorem zt_2003 : zTag 2003 = 22 := by decide +kernel
theorem zn_2003 : zLen 2003 = 5 := by decide +kernel
theorem zt_2004 : zTag 2004 = 22 := by decide +kernel
theorem zn_2004 : zLen 2004 = 7 := by decide +kernel
theorem zr_0_0 : zref 0 0 = 1 := by decide +kernel
theorem zr_0_1 : zref 0 1 = 6 := by decide +kernel
theorem zr_0_2 : zref 0 2 = 11 := by decide +kernel
theorem zr_0_3 : zref 0 3 = 13 := by decide +kernel
theorem zr_0_4 : zref 0 4 = 25 := by decide +kernel
theorem zr_0_5 : zref 0 5 = 32 := by decide +kernel
theorem zr_0_6 : zref 0 6 = 33 := by decide +kernel
theorem zr_1_0 : zref 1 0 = 2 := by decide +kernel
theorem zr_1_1 : zref 1 1 = 3 := by decide +kernel
theorem zr_1_2 : zref 1 2 = 4 := by decide +kernel
theorem zr_1_8 : zref 1 8 = 5 := by decide +kernel
theorem zr_6_0 : zref 6 0 = 7 := by decide +kernel
theorem zr_6_1 : zref 6 1 = 8 := by decide +kernel
theorem zr_6_2 : zref 6 2 = 9 := by decide +kernel
theorem zr_6_8 : zref 6 8 = 10 := by decide +kernel
theorem zr_11_0 : zref 11 0 = 12 := by decide +kernel
theorem zr_13_0 : zref 13 0 = 14 := by decide +kernel
theorem zr_13_1 : zref 13 1 = 19 := by decide +kernel
theorem zr_13_4 : zref 13 4 = 20 := by decide +kernel
theorem zr_13_5 : zref 13 5 = 21 := by decide +kernel
theorem zr_13_6 : zref 13 6 = 22 := by decide +kernel
theorem zr_13_7 : zref 13 7 = 23 := by decide +kernel
theorem zr_13_8 : zref 13 8 = 24 := by decide +kernel
theorem zr_14_0 : zref 14 0 = 15 := by decide +kernel
theorem zr_14_1 : zref 14 1 = 16 := by decide +kernel
theorem zr_14_2 : zref 14 2 = 17 := by decide +kernel
theorem zr_14_8 : zref 14 8 = 18 := by decide +kernel
theorem zr_25_0 : zref 25 0 = 26 := by decide +kernel
theorem zr_25_1 : zref 25 1 = 31 := by decide +kernel
theorem zr_26_0 : zref 26 0 = 27 := by decide +kernel
theorem zr_26_1 : zref 26 1 = 28 := by decide +kernel
theorem zr_26_2 : zref 26 2 = 29 := by decide +kernel
theorem zr_26_8 : zref 26 8 = 30 := by decide +kernel
theorem zr_32_0 : zref 32 0 = 34 := by decide +kernel
theorem zr_32_1 : zref 32 1 = 36 := by decide +kernel
theorem zr_32_2 : zref 32 2 = 38 := by decide +kernel
theorem zr_32_3 : zref 32 3 = 40 := by decide +kernel
theorem zr_32_4 : zref 32 4 = 42 := by decide +kernel
theorem zr_32_5 : zref 32 5 = 44 := by decide +kernel
theorem zr_32_6 : zref 32 6 = 46 := by decide +kernel
theorem zr_32_7 : zref 32 7 = 48 := by decide +kernel
theorem zr_34_0 : zref 34 0 = 35 := by decide +kernel
theorem zr_36_0 : zref 36 0 = 37 := by decide +kernel
theorem zr_38_0 : zref 38 0 = 39 := by decide +kernel
theorem zr_40_0 : zref 40 0 = 41 := by decide +kernel
theorem zr_42_0 : zref 42 0 = 43 := by decide +kernel
theorem zr_44_0 : zref 44 0 = 45 := by decide +kernel
theorem zr_46_0 : zref 46 0 = 47 := by decide +kernel
theorem zr_48_0 : zref 48 0 = 49 := by decide +kernel
theorem zr_50_8 : zref 50 8 = 51 := by decide +kernel
theorem zr_50_9 : zref 50 9 = 52 := by decide +kernel
theorem zr_50_10 : zref 50 10 = 53 := by decide +kernel
theorem zr_50_11 : zref 50 11 = 54 := by decide +kernel
theorem zr_50_12 : zref 50 12 = 55 := by decide +kernel
theorem zr_50_13 : zref 50 13 = 56 := by decide +kernel
theorem zr_50_14 : zref 50 14 = 57 := by decide +kernel
theorem zr_50_15 : zref 50 15 = 58 := by decide +kernel
theorem zr_50_16 : zref 50 16 = 59 := by decide +kernel
theorem zr_50_17 : zref 50 17 = 60 := by decide +kernel
theorem zr_50_18 : zref 50 18 = 61 := by decide +kernel
theorem zr_50_19 : zref 50 19 = 62 := by decide +kernel
theorem zr_50_20 : zref 50 20 = 63 := by decide +kernel
theorem zr_50_21 : zref 50 21 = 64 := by decide +kernel
theorem zr_50_22 : zref 50 22 = 65 := by decide +kernel
theorem zr_50_23 : zref 50 23 = 66 := by decide +kernel
theorem zr_50_24 : zref 50 24 = 67 := by decide +kernel
theorem zr_50_25 : zref 50 25 = 68 := by decide +kernel
theorem zr_50_26 : zref 50 26 = 69 := by decide +kernel
theorem zr_50_27 : zref 50 27 = 70 := by decide +kernel
theorem zr_50_28 : zref 50 28 = 71 := by decide +kernel
theorem zr_50_34 : zref 50 34 = 72 := by decide +kernel
theorem zr_50_35 : zref 50 35 = 73 := by decide +kernel
theorem zr_50_36 : zref 50 36 = 74 := by decide +kernel
theorem zr_50_37 : zref 50 37 = 75 := by decide +kernel
theorem zr_50_38 : zref 50 38 = 76 := by decide +kernel
theorem zr_50_39 : zref 50 39 = 77 := by decide +kernel
theorem zr_50_44 : zref 50 44 = 78 := by decide +kernel
theorem zr_50_45 : zref 50 45 = 79 := by decide +kernel
def zHs (h : Nat) : Prop := h = 1 ∨ h = 6 ∨ h = 14 ∨ h = 26
theorem zHs_f {h : Nat} (H : zHs h) : zTag h = 1 ∧ zref h 0 = h + 1 ∧ zref h 1 = h + 2 ∧ zref h 2 = h + 3 ∧ zref h 8 = h + 4 ∧ zTag (h + 1) = 10 ∧ zTag (h + 2) = 10 ∧ zTag (h + 3) = 10 ∧ zTag (h + 4) = 10 ∧ zLen (h + 1) = 40 ∧ zLen (h + 2) = 24 ∧ zLen (h + 3) = 5 ∧ zLen (h + 4) = 8 := by
  rcases H with rfl | rfl | rfl | rfl <;> decide +kernel
def zSs (h : Nat) : Prop := h = 34 ∨ h = 36 ∨ h = 38 ∨ h = 40 ∨ h = 42 ∨ h = 44 ∨ h = 46 ∨ h = 48
theorem zSs_f {h : Nat} (H : zSs h) : zTag h = 4 ∧ zref h 0 = h + 1 ∧ zTag (h + 1) = 11 ∧ zLen (h + 1) = 160 := by
  rcases H with rfl | rfl | rfl | rfl | rfl | rfl | rfl | rfl <;> decide +kernel
