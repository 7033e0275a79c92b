theorem i32_100 : ((100 : Int32) = 0) = False := eq_false (by decide)
theorem i32_10 : ((10 : Int32) = 0) = False := eq_false (by decide)
theorem i32_2 : ((2 : Int32) = 0) = False := eq_false (by decide)
theorem zo_51 : zTag 51 = 10 ∨ zTag 51 = 20 := Or.inl zt_51
theorem zl_51 {w : zM} {j : Nat} : zld w 51 j = w.1 51 j := zld_A zt_51
theorem zq_51 : zTag 51 = 10 ∨ zTag 51 = 11 ∨ zTag 51 = 12 ∨ zTag 51 = 20 := Or.inl zt_51
theorem zo_52 : zTag 52 = 10 ∨ zTag 52 = 20 := Or.inl zt_52
theorem zl_52 {w : zM} {j : Nat} : zld w 52 j = w.1 52 j := zld_A zt_52
theorem zq_52 : zTag 52 = 10 ∨ zTag 52 = 11 ∨ zTag 52 = 12 ∨ zTag 52 = 20 := Or.inl zt_52
theorem zo_53 : zTag 53 = 10 ∨ zTag 53 = 20 := Or.inl zt_53
theorem zl_53 {w : zM} {j : Nat} : zld w 53 j = w.1 53 j := zld_A zt_53
theorem zq_53 : zTag 53 = 10 ∨ zTag 53 = 11 ∨ zTag 53 = 12 ∨ zTag 53 = 20 := Or.inl zt_53
theorem zo_54 : zTag 54 = 10 ∨ zTag 54 = 20 := Or.inl zt_54
theorem zl_54 {w : zM} {j : Nat} : zld w 54 j = w.1 54 j := zld_A zt_54
theorem zq_54 : zTag 54 = 10 ∨ zTag 54 = 11 ∨ zTag 54 = 12 ∨ zTag 54 = 20 := Or.inl zt_54
theorem zo_55 : zTag 55 = 10 ∨ zTag 55 = 20 := Or.inl zt_55
theorem zl_55 {w : zM} {j : Nat} : zld w 55 j = w.1 55 j := zld_A zt_55
theorem zq_55 : zTag 55 = 10 ∨ zTag 55 = 11 ∨ zTag 55 = 12 ∨ zTag 55 = 20 := Or.inl zt_55
theorem zo_56 : zTag 56 = 10 ∨ zTag 56 = 20 := Or.inl zt_56
theorem zl_56 {w : zM} {j : Nat} : zld w 56 j = w.1 56 j := zld_A zt_56
theorem zq_56 : zTag 56 = 10 ∨ zTag 56 = 11 ∨ zTag 56 = 12 ∨ zTag 56 = 20 := Or.inl zt_56
theorem zo_57 : zTag 57 = 10 ∨ zTag 57 = 20 := Or.inl zt_57
theorem zl_57 {w : zM} {j : Nat} : zld w 57 j = w.1 57 j := zld_A zt_57
theorem zq_57 : zTag 57 = 10 ∨ zTag 57 = 11 ∨ zTag 57 = 12 ∨ zTag 57 = 20 := Or.inl zt_57
theorem zo_58 : zTag 58 = 10 ∨ zTag 58 = 20 := Or.inl zt_58
theorem zl_58 {w : zM} {j : Nat} : zld w 58 j = w.1 58 j := zld_A zt_58
theorem zq_58 : zTag 58 = 10 ∨ zTag 58 = 11 ∨ zTag 58 = 12 ∨ zTag 58 = 20 := Or.inl zt_58
theorem zo_59 : zTag 59 = 10 ∨ zTag 59 = 20 := Or.inl zt_59
theorem zl_59 {w : zM} {j : Nat} : zld w 59 j = w.1 59 j := zld_A zt_59
theorem zq_59 : zTag 59 = 10 ∨ zTag 59 = 11 ∨ zTag 59 = 12 ∨ zTag 59 = 20 := Or.inl zt_59
theorem zo_60 : zTag 60 = 10 ∨ zTag 60 = 20 := Or.inl zt_60
theorem zl_60 {w : zM} {j : Nat} : zld w 60 j = w.1 60 j := zld_A zt_60
theorem zq_60 : zTag 60 = 10 ∨ zTag 60 = 11 ∨ zTag 60 = 12 ∨ zTag 60 = 20 := Or.inl zt_60
theorem zo_61 : zTag 61 = 10 ∨ zTag 61 = 20 := Or.inl zt_61
theorem zl_61 {w : zM} {j : Nat} : zld w 61 j = w.1 61 j := zld_A zt_61
theorem zq_61 : zTag 61 = 10 ∨ zTag 61 = 11 ∨ zTag 61 = 12 ∨ zTag 61 = 20 := Or.inl zt_61
theorem zo_62 : zTag 62 = 10 ∨ zTag 62 = 20 := Or.inl zt_62
theorem zl_62 {w : zM} {j : Nat} : zld w 62 j = w.1 62 j := zld_A zt_62
theorem zq_62 : zTag 62 = 10 ∨ zTag 62 = 11 ∨ zTag 62 = 12 ∨ zTag 62 = 20 := Or.inl zt_62
theorem zo_63 : zTag 63 = 10 ∨ zTag 63 = 20 := Or.inl zt_63
theorem zl_63 {w : zM} {j : Nat} : zld w 63 j = w.1 63 j := zld_A zt_63
theorem zq_63 : zTag 63 = 10 ∨ zTag 63 = 11 ∨ zTag 63 = 12 ∨ zTag 63 = 20 := Or.inl zt_63
theorem zo_64 : zTag 64 = 10 ∨ zTag 64 = 20 := Or.inl zt_64
theorem zl_64 {w : zM} {j : Nat} : zld w 64 j = w.1 64 j := zld_A zt_64
theorem zq_64 : zTag 64 = 10 ∨ zTag 64 = 11 ∨ zTag 64 = 12 ∨ zTag 64 = 20 := Or.inl zt_64
theorem zo_65 : zTag 65 = 10 ∨ zTag 65 = 20 := Or.inl zt_65
theorem zl_65 {w : zM} {j : Nat} : zld w 65 j = w.1 65 j := zld_A zt_65
theorem zq_65 : zTag 65 = 10 ∨ zTag 65 = 11 ∨ zTag 65 = 12 ∨ zTag 65 = 20 := Or.inl zt_65
theorem zo_66 : zTag 66 = 10 ∨ zTag 66 = 20 := Or.inl zt_66
theorem zl_66 {w : zM} {j : Nat} : zld w 66 j = w.1 66 j := zld_A zt_66
theorem zq_66 : zTag 66 = 10 ∨ zTag 66 = 11 ∨ zTag 66 = 12 ∨ zTag 66 = 20 := Or.inl zt_66
theorem zo_67 : zTag 67 = 10 ∨ zTag 67 = 20 := Or.inl zt_67
theorem zl_67 {w : zM} {j : Nat} : zld w 67 j = w.1 67 j := zld_A zt_67
theorem zq_67 : zTag 67 = 10 ∨ zTag 67 = 11 ∨ zTag 67 = 12 ∨ zTag 67 = 20 := Or.inl zt_67
theorem zq_68 : zTag 68 = 10 ∨ zTag 68 = 11 ∨ zTag 68 = 12 ∨ zTag 68 = 20 := Or.inr (Or.inl zt_68)
theorem zq_69 : zTag 69 = 10 ∨ zTag 69 = 11 ∨ zTag 69 = 12 ∨ zTag 69 = 20 := Or.inr (Or.inl zt_69)
theorem zo_70 : zTag 70 = 10 ∨ zTag 70 = 20 := Or.inl zt_70
theorem zl_70 {w : zM} {j : Nat} : zld w 70 j = w.1 70 j := zld_A zt_70
theorem zq_70 : zTag 70 = 10 ∨ zTag 70 = 11 ∨ zTag 70 = 12 ∨ zTag 70 = 20 := Or.inl zt_70
theorem zo_71 : zTag 71 = 10 ∨ zTag 71 = 20 := Or.inl zt_71
theorem zl_71 {w : zM} {j : Nat} : zld w 71 j = w.1 71 j := zld_A zt_71
theorem zq_71 : zTag 71 = 10 ∨ zTag 71 = 11 ∨ zTag 71 = 12 ∨ zTag 71 = 20 := Or.inl zt_71
theorem zo_72 : zTag 72 = 10 ∨ zTag 72 = 20 := Or.inl zt_72
theorem zl_72 {w : zM} {j : Nat} : zld w 72 j = w.1 72 j := zld_A zt_72
theorem zq_72 : zTag 72 = 10 ∨ zTag 72 = 11 ∨ zTag 72 = 12 ∨ zTag 72 = 20 := Or.inl zt_72
theorem zo_73 : zTag 73 = 10 ∨ zTag 73 = 20 := Or.inl zt_73
theorem zl_73 {w : zM} {j : Nat} : zld w 73 j = w.1 73 j := zld_A zt_73
theorem zq_73 : zTag 73 = 10 ∨ zTag 73 = 11 ∨ zTag 73 = 12 ∨ zTag 73 = 20 := Or.inl zt_73
theorem zo_74 : zTag 74 = 10 ∨ zTag 74 = 20 := Or.inl zt_74
theorem zl_74 {w : zM} {j : Nat} : zld w 74 j = w.1 74 j := zld_A zt_74
theorem zq_74 : zTag 74 = 10 ∨ zTag 74 = 11 ∨ zTag 74 = 12 ∨ zTag 74 = 20 := Or.inl zt_74
theorem zo_75 : zTag 75 = 10 ∨ zTag 75 = 20 := Or.inl zt_75
theorem zl_75 {w : zM} {j : Nat} : zld w 75 j = w.1 75 j := zld_A zt_75
theorem zq_75 : zTag 75 = 10 ∨ zTag 75 = 11 ∨ zTag 75 = 12 ∨ zTag 75 = 20 := Or.inl zt_75
theorem zo_76 : zTag 76 = 10 ∨ zTag 76 = 20 := Or.inl zt_76
theorem zl_76 {w : zM} {j : Nat} : zld w 76 j = w.1 76 j := zld_A zt_76
theorem zq_76 : zTag 76 = 10 ∨ zTag 76 = 11 ∨ zTag 76 = 12 ∨ zTag 76 = 20 := Or.inl zt_76
theorem zo_77 : zTag 77 = 10 ∨ zTag 77 = 20 := Or.inl zt_77
theorem zl_77 {w : zM} {j : Nat} : zld w 77 j = w.1 77 j := zld_A zt_77
theorem zq_77 : zTag 77 = 10 ∨ zTag 77 = 11 ∨ zTag 77 = 12 ∨ zTag 77 = 20 := Or.inl zt_77
theorem zo_78 : zTag 78 = 10 ∨ zTag 78 = 20 := Or.inl zt_78
theorem zl_78 {w : zM} {j : Nat} : zld w 78 j = w.1 78 j := zld_A zt_78
theorem zq_78 : zTag 78 = 10 ∨ zTag 78 = 11 ∨ zTag 78 = 12 ∨ zTag 78 = 20 := Or.inl zt_78
theorem zo_79 : zTag 79 = 10 ∨ zTag 79 = 20 := Or.inl zt_79
theorem zl_79 {w : zM} {j : Nat} : zld w 79 j = w.1 79 j := zld_A zt_79
theorem zq_79 : zTag 79 = 10 ∨ zTag 79 = 11 ∨ zTag 79 = 12 ∨ zTag 79 = 20 := Or.inl zt_79
theorem bm_small {z : Int} (h0 : -2147483648 ≤ z) (h1 : z < 2147483648) : Int.bmod z (2 ^ 32) = z := by
  rw [Int.bmod_def]
  have e : ((2 ^ 32 : Nat) : Int) = 4294967296 := by decide
  rw [e]
  omega
theorem ti_add {x y : Int32} (h0 : -2147483648 ≤ x.toInt + y.toInt) (h1 : x.toInt + y.toInt < 2147483648) : (x + y).toInt = x.toInt + y.toInt := by
  rw [Int32.toInt_add]; exact bm_small h0 h1
theorem ti_sub {x y : Int32} (h0 : -2147483648 ≤ x.toInt - y.toInt) (h1 : x.toInt - y.toInt < 2147483648) : (x - y).toInt = x.toInt - y.toInt := by
  rw [Int32.toInt_sub]; exact bm_small h0 h1
theorem ti_mul {x y : Int32} (h0 : -2147483648 ≤ x.toInt * y.toInt) (h1 : x.toInt * y.toInt < 2147483648) : (x * y).toInt = x.toInt * y.toInt := by
  rw [Int32.toInt_mul]; exact bm_small h0 h1
theorem ti_div {x y : Int32} (hx : 0 ≤ x.toInt) (hy : 0 < y.toInt) : (x / y).toInt = x.toInt / y.toInt := by
  have h1 := Int32.toInt_lt x
  rw [Int32.toInt_div, Int.tdiv_eq_ediv_of_nonneg hx]
  have h2 : 0 ≤ x.toInt / y.toInt := Int.ediv_nonneg hx (by omega)
  have h3 : x.toInt / y.toInt ≤ x.toInt := Int.ediv_le_self _ hx
  exact bm_small (by omega) (by omega)
theorem ti_le {x y : Int32} : x ≤ y ↔ x.toInt ≤ y.toInt := Int32.le_iff_toInt_le
theorem ti_lt {x y : Int32} : x < y ↔ x.toInt < y.toInt := Int32.lt_iff_toInt_lt
theorem ti_eq {x y : Int32} : x = y ↔ x.toInt = y.toInt := Int32.toInt_inj.symm
theorem ti_0 : (0 : Int32).toInt = 0 := by decide
theorem ti_1 : (1 : Int32).toInt = 1 := by decide
theorem ti_5 : (5 : Int32).toInt = 5 := by decide
theorem ti_9 : (9 : Int32).toInt = 9 := by decide
theorem ti_10 : (10 : Int32).toInt = 10 := by decide
theorem ti_100 : (100 : Int32).toInt = 100 := by decide
theorem ti_max {x y : Int32} : (imax x y).toInt = max x.toInt y.toInt := by
  unfold imax
  by_cases h : x < y
  · rw [if_pos h]; rw [ti_lt] at h; omega
  · rw [if_neg h]; rw [ti_lt] at h; omega
theorem ti_min {x y : Int32} : (imin x y).toInt = min x.toInt y.toInt := by
  unfold imin
  by_cases h : y < x
  · rw [if_pos h]; rw [ti_lt] at h; omega
  · rw [if_neg h]; rw [ti_lt] at h; omega
def zBt (x : Int32) (a b : Int) : Prop := a ≤ x.toInt ∧ x.toInt ≤ b
def zRg (T V G : Nat → Int32) (n m : Nat) : Prop :=
  (∀ t, t < n → zBt (T (5 * t + 0)) 0 6 ∧ zBt (T (5 * t + 1)) 1 999 ∧ zBt (T (5 * t + 2)) 1 9 ∧ zBt (T (5 * t + 3)) 0 99 ∧ ∃ y, y < m ∧ T (5 * t + 4) = nI y) ∧
  (∀ x, x < m → zBt (V (6 * x + 0)) 0 7 ∧ zBt (V (6 * x + 1)) 0 3 ∧ zBt (V (6 * x + 3)) 1 9) ∧ zBt (G 0) 0 3 ∧ zBt (G 1) 0 30 ∧ zBt (G 2) 0 99 ∧ zBt (G 3) 0 99 ∧ zBt (G 4) 0 99 ∧ n ≤ 8 ∧ m ≤ 4
theorem mul_bd {a b A B : Int} (h0 : 0 ≤ a) (h1 : a ≤ A) (h2 : 0 ≤ b) (h3 : b ≤ B) : 0 ≤ a * b ∧ a * b ≤ A * B :=
  ⟨Int.mul_nonneg h0 h2, Int.mul_le_mul h1 h3 h2 (by omega)⟩
theorem sCus_b {T V G : Nat → Int32} {n m t : Nat} (R : zRg T V G n m) (ht : t < n) : (T (5 * t + 1) * T (5 * t + 3)).toInt = (T (5 * t + 1)).toInt * (T (5 * t + 3)).toInt ∧ zBt (sCus T t) 0 989 := by
  obtain ⟨⟨k0, k1⟩, ⟨b0, b1⟩, ⟨p0, p1⟩, ⟨a0, a1⟩, -⟩ := R.1 t ht
  have h := mul_bd (by omega : 0 ≤ (T (5 * t + 1)).toInt) b1 a0 a1
  have e := ti_mul (x := T (5 * t + 1)) (y := T (5 * t + 3)) (by omega) (by omega)
  refine ⟨e, ?_⟩
  unfold zBt sCus
  rw [ti_div (by omega) (by decide), e, ti_100]
  omega
theorem sAdd_b {T V G : Nat → Int32} {n m t : Nat} (R : zRg T V G n m) (ht : t < n) : zBt (T (5 * t + 1) * G 1 / 100) 0 299 := by
  obtain ⟨⟨k0, k1⟩, ⟨b0, b1⟩, ⟨p0, p1⟩, ⟨a0, a1⟩, -⟩ := R.1 t ht
  obtain ⟨-, -, -, ⟨g0, g1⟩, -⟩ := R
  have h := mul_bd (by omega : 0 ≤ (T (5 * t + 1)).toInt) b1 g0 g1
  have e := ti_mul (x := T (5 * t + 1)) (y := G 1) (by omega) (by omega)
  unfold zBt
  rw [ti_div (by omega) (by decide), e, ti_100]
  omega
theorem sMid_b {T V G : Nat → Int32} {n m : Nat} (R : zRg T V G n m) : zBt (sMid G) 0 99 := by
  obtain ⟨-, -, -, -, ⟨g0, g1⟩, ⟨h0, h1⟩, ⟨i0, i1⟩, -⟩ := R
  unfold zBt sMid
  rw [ti_max, ti_min, ti_min, ti_max]
  omega
theorem sSvc_b {T V G : Nat → Int32} {n m x : Nat} (R : zRg T V G n m) (hx : x < m) : zBt (sSvc V x) 0 10 := by
  obtain ⟨-, rv, -⟩ := R
  obtain ⟨⟨s0, s1⟩, ⟨e0, e1⟩, -⟩ := rv x hx
  unfold zBt sSvc
  rw [ti_add (by omega) (by omega)]
  omega
theorem sLack_b {q : Int32} (h : zBt q 0 10) : (sLack q).toInt = max (5 - q.toInt) 0 := by
  obtain ⟨h0, h1⟩ := h
  unfold sLack
  rw [ti_max, ti_sub (by rw [ti_5]; omega) (by rw [ti_5]; omega), ti_5, ti_0]
theorem sServ_b {T V G : Nat → Int32} {n m t : Nat} {q : Int32} (R : zRg T V G n m) (ht : t < n) (hq : zBt q 0 10) : (sCus T t + q * T (5 * t + 2)).toInt = (sCus T t).toInt + (q * T (5 * t + 2)).toInt ∧ zBt (sCus T t + q * T (5 * t + 2)) 0 1079 := by
  obtain ⟨⟨k0, k1⟩, ⟨b0, b1⟩, ⟨p0, p1⟩, ⟨a0, a1⟩, -⟩ := R.1 t ht
  obtain ⟨-, c0, c1⟩ := sCus_b R ht
  obtain ⟨q0, q1⟩ := hq
  have h := mul_bd q0 q1 (by omega : 0 ≤ (T (5 * t + 2)).toInt) p1
  have e := ti_mul (x := q) (y := T (5 * t + 2)) (by omega) (by omega)
  have e2 := ti_add (x := sCus T t) (y := q * T (5 * t + 2)) (by omega) (by omega)
  refine ⟨e2, ?_⟩
  unfold zBt
  rw [e2, e]
  omega
theorem sWould_b {T V G : Nat → Int32} {n m t : Nat} {q a : Int32} (R : zRg T V G n m) (ht : t < n) (hq : zBt q 0 10) (ha : zBt a 0 2000) : zBt (sWould T G t q a) 0 2000 := by
  obtain ⟨⟨k0, k1⟩, ⟨b0, b1⟩, ⟨p0, p1⟩, ⟨a0, a1⟩, -⟩ := R.1 t ht
  obtain ⟨-, c0, c1⟩ := sCus_b R ht
  obtain ⟨-, s0, s1⟩ := sServ_b R ht hq
  have hl := sLack_b hq
  obtain ⟨m0, m1⟩ := sMid_b R
  obtain ⟨q0, q1⟩ := hq
  obtain ⟨h0, h1⟩ := ha
  unfold sWould
  split
  · unfold zBt; omega
  split
  · unfold zBt; omega
  split
  · have e1 := ti_add (x := T (5 * t + 1)) (y := sCus T t) (by omega) (by omega)
    have e2 := ti_add (x := T (5 * t + 1) + sCus T t) (y := 9) (by rw [ti_9]; omega) (by rw [ti_9]; omega)
    rw [ti_9, e1] at e2
    have e3 := ti_div (x := T (5 * t + 1) + sCus T t + 9) (y := 10) (by omega) (by decide)
    rw [ti_10, e2] at e3
    have e4 := ti_mul (x := (T (5 * t + 1) + sCus T t + 9) / 10) (y := 10) (by rw [ti_10]; omega) (by rw [ti_10]; omega)
    rw [ti_10, e3] at e4
    unfold zBt
    rw [ti_sub (by omega) (by omega), e4]
    omega
  split
  · unfold zBt; omega
  split
  · have h := mul_bd (by omega : 0 ≤ (T (5 * t + 1)).toInt) b1 m0 m1
    have e := ti_mul (x := T (5 * t + 1)) (y := sMid G) (by omega) (by omega)
    unfold zBt
    rw [ti_div (by omega) (by decide), e, ti_100]
    omega
  split
  · unfold zBt
    rw [ti_max]
    omega
  split
  · have h := mul_bd a0 a1 (by omega : 0 ≤ (sLack q).toInt) (by omega : (sLack q).toInt ≤ 5)
    have e := ti_mul (x := T (5 * t + 3)) (y := sLack q) (by omega) (by omega)
    unfold zBt
    rw [ti_max, ti_sub (by omega) (by omega), e, ti_0]
    omega
  · unfold zBt; omega
theorem sGift_m {T V G : Nat → Int32} {n m t : Nat} {q a : Int32} (R : zRg T V G n m) (ht : t < n) (hq : zBt q 0 10) (ha : zBt a 0 2000) : zBt (sGift T G t q a) 0 2000 ∧ sGift T G t q a = if sWould T G t q a ≤ T (5 * t + 1) * G 1 / 100 then T (5 * t + 1) * G 1 / 100 else sWould T G t q a := by
  obtain ⟨w0, w1⟩ := sWould_b R ht hq ha
  obtain ⟨d0, d1⟩ := sAdd_b R ht
  have e1 := ti_sub (x := sWould T G t q a) (y := T (5 * t + 1) * G 1 / 100) (by omega) (by omega)
  have e2 : (imax (sWould T G t q a - T (5 * t + 1) * G 1 / 100) 0).toInt = max ((sWould T G t q a).toInt - (T (5 * t + 1) * G 1 / 100).toInt) 0 := by rw [ti_max, e1, ti_0]
  have e3 := ti_add (x := T (5 * t + 1) * G 1 / 100) (y := imax (sWould T G t q a - T (5 * t + 1) * G 1 / 100) 0) (by omega) (by omega)
  constructor
  · unfold zBt sGift
    rw [e3]
    omega
  · unfold sGift
    rw [ti_eq, e3, e2]
    split
    · rename_i h
      rw [ti_le] at h
      omega
    · rename_i h
      rw [ti_le] at h
      omega
theorem sSrv_b {T V G : Nat → Int32} {n m t : Nat} (R : zRg T V G n m) (ht : t < n) : sSrv T t < m ∧ T (5 * t + 4) = nI (sSrv T t) := by
  obtain ⟨rt, -, -, -, -, -, -, rn, rm⟩ := R
  obtain ⟨-, -, -, -, y, h1, h2⟩ := rt t ht
  unfold sSrv
  rw [h2, nI_clamp (by omega)]
  exact ⟨h1, rfl⟩
theorem sGv_b {T V G : Nat → Int32} {n m : Nat} (R : zRg T V G n m) : ∀ t, t < n → zBt (sGv T V G t) 0 2000 := by
  intro t
  induction t with
  | zero =>
    intro ht
    exact (sGift_m R ht (sSvc_b R (sSrv_b R ht).1) (by unfold zBt; rw [ti_0]; omega)).1
  | succ t ih =>
    intro ht
    exact (sGift_m R ht (sSvc_b R (sSrv_b R ht).1) (ih (by omega))).1
theorem sAhd_b {T V G : Nat → Int32} {n m t : Nat} (R : zRg T V G n m) (ht : t < n) : zBt (sAhd (sGv T V G) t) 0 2000 := by
  cases t with
  | zero => unfold zBt sAhd; rw [ti_0]; omega
  | succ t => exact sGv_b R t (by omega)
theorem ie_0_1 : ((0 : Int32) = 1) = False := eq_false (by decide)
theorem ie_0_2 : ((0 : Int32) = 2) = False := eq_false (by decide)
theorem ie_0_3 : ((0 : Int32) = 3) = False := eq_false (by decide)
theorem ie_0_4 : ((0 : Int32) = 4) = False := eq_false (by decide)
theorem ie_0_5 : ((0 : Int32) = 5) = False := eq_false (by decide)
theorem ie_0_6 : ((0 : Int32) = 6) = False := eq_false (by decide)
theorem ie_0_7 : ((0 : Int32) = 7) = False := eq_false (by decide)
theorem ie_1_0 : ((1 : Int32) = 0) = False := eq_false (by decide)
theorem ie_1_2 : ((1 : Int32) = 2) = False := eq_false (by decide)
theorem ie_1_3 : ((1 : Int32) = 3) = False := eq_false (by decide)
theorem ie_1_4 : ((1 : Int32) = 4) = False := eq_false (by decide)
theorem ie_1_5 : ((1 : Int32) = 5) = False := eq_false (by decide)
theorem ie_1_6 : ((1 : Int32) = 6) = False := eq_false (by decide)
theorem ie_1_7 : ((1 : Int32) = 7) = False := eq_false (by decide)
theorem ie_2_0 : ((2 : Int32) = 0) = False := eq_false (by decide)
theorem ie_2_1 : ((2 : Int32) = 1) = False := eq_false (by decide)
theorem ie_2_3 : ((2 : Int32) = 3) = False := eq_false (by decide)
theorem ie_2_4 : ((2 : Int32) = 4) = False := eq_false (by decide)
theorem ie_2_5 : ((2 : Int32) = 5) = False := eq_false (by decide)
theorem ie_2_6 : ((2 : Int32) = 6) = False := eq_false (by decide)
theorem ie_2_7 : ((2 : Int32) = 7) = False := eq_false (by decide)
theorem ie_3_0 : ((3 : Int32) = 0) = False := eq_false (by decide)
theorem ie_3_1 : ((3 : Int32) = 1) = False := eq_false (by decide)
theorem ie_3_2 : ((3 : Int32) = 2) = False := eq_false (by decide)
theorem ie_3_4 : ((3 : Int32) = 4) = False := eq_false (by decide)
theorem ie_3_5 : ((3 : Int32) = 5) = False := eq_false (by decide)
theorem ie_3_6 : ((3 : Int32) = 6) = False := eq_false (by decide)
theorem ie_3_7 : ((3 : Int32) = 7) = False := eq_false (by decide)
theorem ie_4_0 : ((4 : Int32) = 0) = False := eq_false (by decide)
theorem ie_4_1 : ((4 : Int32) = 1) = False := eq_false (by decide)
theorem ie_4_2 : ((4 : Int32) = 2) = False := eq_false (by decide)
theorem ie_4_3 : ((4 : Int32) = 3) = False := eq_false (by decide)
theorem ie_4_5 : ((4 : Int32) = 5) = False := eq_false (by decide)
theorem ie_4_6 : ((4 : Int32) = 6) = False := eq_false (by decide)
theorem ie_4_7 : ((4 : Int32) = 7) = False := eq_false (by decide)
theorem ie_5_0 : ((5 : Int32) = 0) = False := eq_false (by decide)
theorem ie_5_1 : ((5 : Int32) = 1) = False := eq_false (by decide)
theorem ie_5_2 : ((5 : Int32) = 2) = False := eq_false (by decide)
theorem ie_5_3 : ((5 : Int32) = 3) = False := eq_false (by decide)
theorem ie_5_4 : ((5 : Int32) = 4) = False := eq_false (by decide)
theorem ie_5_6 : ((5 : Int32) = 6) = False := eq_false (by decide)
theorem ie_5_7 : ((5 : Int32) = 7) = False := eq_false (by decide)
theorem ie_6_0 : ((6 : Int32) = 0) = False := eq_false (by decide)
theorem ie_6_1 : ((6 : Int32) = 1) = False := eq_false (by decide)
theorem ie_6_2 : ((6 : Int32) = 2) = False := eq_false (by decide)
theorem ie_6_3 : ((6 : Int32) = 3) = False := eq_false (by decide)
theorem ie_6_4 : ((6 : Int32) = 4) = False := eq_false (by decide)
theorem ie_6_5 : ((6 : Int32) = 5) = False := eq_false (by decide)
theorem ie_6_7 : ((6 : Int32) = 7) = False := eq_false (by decide)
theorem ie_7_0 : ((7 : Int32) = 0) = False := eq_false (by decide)
theorem ie_7_1 : ((7 : Int32) = 1) = False := eq_false (by decide)
theorem ie_7_2 : ((7 : Int32) = 2) = False := eq_false (by decide)
theorem ie_7_3 : ((7 : Int32) = 3) = False := eq_false (by decide)
theorem ie_7_4 : ((7 : Int32) = 4) = False := eq_false (by decide)
theorem ie_7_5 : ((7 : Int32) = 5) = False := eq_false (by decide)
theorem ie_7_6 : ((7 : Int32) = 6) = False := eq_false (by decide)
