section WA
variable {n m : Nat} {T V G : Nat → Int32}
theorem sTs_4 {S : Nat → Int32} {i : Nat} (hi : i < n) : sTs T S n (5 * i + 4) = S i := by
  unfold sTs
  rw [if_pos (by omega)]
  congr 1
  omega
theorem sTs_k {S : Nat → Int32} {i k : Nat} (hk : k < 4) : sTs T S n (5 * i + k) = T (5 * i + k) := if_neg (by omega)
theorem sGift_Ts {S : Nat → Int32} {i : Nat} {q a : Int32} : sGift (sTs T S n) G i q a = sGift T G i q a := by
  have h0 := sTs_k (n := n) (T := T) (S := S) (i := i) (k := 0) (by decide)
  have h1 := sTs_k (n := n) (T := T) (S := S) (i := i) (k := 1) (by decide)
  have h2 := sTs_k (n := n) (T := T) (S := S) (i := i) (k := 2) (by decide)
  have h3 := sTs_k (n := n) (T := T) (S := S) (i := i) (k := 3) (by decide)
  unfold sGift sWould sCus
  rw [h0, h1, h2, h3]
def gc (n : Nat) (T V G S : Nat → Int32) : Nat → Int32 := sGv (sTs T S n) V G
theorem gc_s {S : Nat → Int32} {i : Nat} (hi : i < n) : gc n T V G S i = sGf T V G i (S i).toNatClampNeg (sAhd (gc n T V G S) i) := by
  unfold gc
  rw [sGv_eq, sGift_Ts]
  unfold sGf sSrv
  rw [sTs_4 hi]
theorem gc_c {S S' : Nat → Int32} : ∀ i, i < n → (∀ j, j ≤ i → S j = S' j) → gc n T V G S i = gc n T V G S' i := by
  intro i
  induction i with
  | zero =>
    intro hi h
    rw [gc_s hi, gc_s hi, h 0 (Nat.le_refl _), sAhd_0, sAhd_0]
  | succ i ih =>
    intro hi h
    rw [gc_s hi, gc_s hi, h (i + 1) (Nat.le_refl _), sAhd_s, sAhd_s, ih (by omega) (fun j hj => h j (by omega))]
theorem gc_ac {S S' : Nat → Int32} {t : Nat} (ht : t ≤ n) (h : ∀ j, j < t → S j = S' j) : sAhd (gc n T V G S) t = sAhd (gc n T V G S') t := by
  cases t with
  | zero => rw [sAhd_0, sAhd_0]
  | succ t => rw [sAhd_s, sAhd_s]; exact gc_c t (by omega) (fun j hj => h j (by omega))
def vS (m t : Nat) (S : Nat → Int32) : Prop := ∀ i, i < t → ∃ y, y < m ∧ S i = nI y
theorem gc_b {S : Nat → Int32} {t : Nat} (R : zRg T V G n m) (ht : t ≤ n) (v : vS m t S) : ∀ i, i < t → zBt (gc n T V G S i) 0 2000 := by
  have hm4 : m ≤ 4 := R.2.2.2.2.2.2.2.2
  intro i
  induction i with
  | zero =>
    intro hi
    obtain ⟨y, h1, h2⟩ := v 0 hi
    rw [gc_s (by omega), h2, nI_clamp (by omega)]
    rw [sAhd_0]
    exact (sGift_m R (by omega) (sSvc_b R h1) (by unfold zBt; rw [ti_0]; omega)).1
  | succ i ih =>
    intro hi
    obtain ⟨y, h1, h2⟩ := v (i + 1) hi
    rw [gc_s (by omega), h2, nI_clamp (by omega)]
    rw [sAhd_s]
    exact (sGift_m R (by omega) (sSvc_b R h1) (ih (by omega))).1
theorem gc_ab {S : Nat → Int32} {t : Nat} (R : zRg T V G n m) (ht : t ≤ n) (v : vS m t S) : zBt (sAhd (gc n T V G S) t) 0 2000 := by
  cases t with
  | zero => unfold zBt; rw [sAhd_0, ti_0]; omega
  | succ t => rw [sAhd_s]; exact gc_b R ht v t (by omega)
def ow (n : Nat) (T V G S : Nat → Int32) (t y : Nat) : Int32 := zsum (fun i => if S i = nI y then gc n T V G S i else 0) t
theorem ow_c {S S' : Nat → Int32} {t y : Nat} (ht : t ≤ n) (h : ∀ j, j < t → S j = S' j) : ow n T V G S t y = ow n T V G S' t y := by
  unfold ow
  apply zsum_c
  intro i hi
  rw [h i hi, gc_c i (by omega) (fun j hj => h j (by omega))]
theorem ow_e {S : Nat → Int32} {y : Nat} : ow n T V G S n y = sOw (sTs T S n) V G n y := by
  unfold ow sOw
  apply zsum_c
  intro i hi
  unfold sOwnF
  rw [sTs_4 hi]
  rfl
theorem tCn_c {S S' : Nat → Int32} {y : Nat} : ∀ t, (∀ j, j < t → S j = S' j) → tCn S y t = tCn S' y t := by
  intro t
  induction t with
  | zero => intro _; rfl
  | succ t ih =>
    intro h
    show (if S t = nI y then tCn S y t + 1 else tCn S y t) = (if S' t = nI y then tCn S' y t + 1 else tCn S' y t)
    rw [h t (by omega), ih (fun j hj => h j (by omega))]
theorem zs_b {f : Nat → Int32} : ∀ n, n ≤ 8 → (∀ i, i < n → zBt (f i) 0 16000) → zBt (zsum f n) 0 (16000 * n) := by
  intro n
  induction n with
  | zero =>
    intro _ _
    unfold zBt zsum
    rw [ti_0]
    omega
  | succ n ih =>
    intro h8 h
    obtain ⟨i0, i1⟩ := ih (by omega) (fun i hi => h i (by omega))
    obtain ⟨f0, f1⟩ := h n (by omega)
    unfold zBt
    rw [← zsum_s, ti_add (by omega) (by omega)]
    omega
theorem zs_s {f : Nat → Int32} {n : Nat} (h8 : n < 8) (h : ∀ i, i ≤ n → zBt (f i) 0 16000) : (zsum f (n + 1)).toInt = (zsum f n).toInt + (f n).toInt := by
  obtain ⟨i0, i1⟩ := zs_b n (by omega) (fun i hi => h i (by omega))
  obtain ⟨f0, f1⟩ := h n (Nat.le_refl _)
  rw [← zsum_s, ti_add (by omega) (by omega)]
theorem zs_2 {f : Nat → Int32} : ∀ n, n ≤ 8 → (∀ i, i < n → zBt (f i) 0 2000) → zBt (zsum f n) 0 (2000 * n) := by
  intro n
  induction n with
  | zero =>
    intro _ _
    unfold zBt zsum
    rw [ti_0]
    omega
  | succ n ih =>
    intro h8 h
    obtain ⟨i0, i1⟩ := ih (by omega) (fun i hi => h i (by omega))
    obtain ⟨f0, f1⟩ := h n (by omega)
    unfold zBt
    rw [← zsum_s, ti_add (by omega) (by omega)]
    omega
theorem ow_b {S : Nat → Int32} {t y : Nat} (R : zRg T V G n m) (ht : t ≤ n) (v : vS m t S) : zBt (ow n T V G S t y) 0 (2000 * t) := by
  have hn8 : n ≤ 8 := R.2.2.2.2.2.2.2.1
  refine zs_2 t (by omega) (fun i hi => ?_)
  by_cases h : S i = nI y
  · rw [if_pos h]; exact gc_b R ht v i hi
  · rw [if_neg h]; unfold zBt; rw [ti_0]; omega
theorem ow_m {S : Nat → Int32} {y : Nat} (R : zRg T V G n m) : ∀ q t, t + q ≤ n → vS m (t + q) S → (ow n T V G S t y).toInt ≤ (ow n T V G S (t + q) y).toInt := by
  have hn8 : n ≤ 8 := R.2.2.2.2.2.2.2.1
  intro q
  induction q with
  | zero => intro t _ _; exact Int.le_refl _
  | succ q ih =>
    intro t ht v
    have i1 := ih t (by omega) (fun i hi => v i (by omega))
    have hb : ∀ i, i ≤ t + q → zBt (if S i = nI y then gc n T V G S i else 0) 0 2000 := by
      intro i hi
      by_cases h : S i = nI y
      · rw [if_pos h]; exact gc_b R ht v i (by omega)
      · rw [if_neg h]; unfold zBt; rw [ti_0]; omega
    have e := zs_s (f := fun i => if S i = nI y then gc n T V G S i else 0) (n := t + q) (by omega) (fun i hi => by
      obtain ⟨a, b⟩ := hb i hi
      exact ⟨a, by omega⟩)
    obtain ⟨a, b⟩ := hb (t + q) (Nat.le_refl _)
    have e2 : (ow n T V G S (t + (q + 1)) y).toInt = (ow n T V G S (t + q) y).toInt + (if S (t + q) = nI y then gc n T V G S (t + q) else 0).toInt := e
    rw [e2]
    omega
theorem zsum_add (f g : Nat → Int32) : ∀ n, zsum (fun i => f i + g i) n = zsum f n + zsum g n := by
  intro n
  induction n with
  | zero => rfl
  | succ n ih =>
    rw [← zsum_s, ← zsum_s, ← zsum_s, ih]
    grind
theorem zsum_1 {y0 : Nat} {g : Int32} : ∀ m, m ≤ 100 → y0 < 100 → zsum (fun y => if (nI y0 : Int32) = nI y then g else 0) m = if y0 < m then g else 0 := by
  intro m
  induction m with
  | zero => intro _ _; rfl
  | succ m ih =>
    intro hm hy
    rw [← zsum_s, ih (by omega) hy]
    by_cases h : y0 = m
    · subst h
      rw [if_neg (by omega), if_pos rfl, if_pos (by omega)]
      grind
    · have h2 : ¬ (nI y0 = nI m) := fun e => h ((nI_eq (by omega) (by omega)).mp e)
      rw [if_neg h2]
      by_cases h3 : y0 < m
      · rw [if_pos h3, if_pos (by omega)]; grind
      · rw [if_neg h3, if_neg (by omega)]; grind
theorem zsum_z : ∀ m, zsum (fun _ => (0 : Int32)) m = 0 := by
  intro m
  induction m with
  | zero => rfl
  | succ m ih => rw [← zsum_s, ih]; rfl
theorem ow_tot {S : Nat → Int32} (hm4 : m ≤ 4) : ∀ t, vS m t S → zsum (fun y => ow n T V G S t y) m = zsum (gc n T V G S) t := by
  intro t
  induction t with
  | zero => intro _; exact zsum_z m
  | succ t ih =>
    intro v
    obtain ⟨y0, h1, h2⟩ := v t (by omega)
    have e : (fun y => ow n T V G S (t + 1) y) = fun y => ow n T V G S t y + (if (nI y0 : Int32) = nI y then gc n T V G S t else 0) := by
      funext y
      show zsum _ (t + 1) = _
      rw [← zsum_s, h2]
      rfl
    rw [e, zsum_add, ih (fun i hi => v i (by omega)), zsum_1 m (by omega) (by omega), if_pos h1, zsum_s]
theorem mx_c {f g : Nat → Int32} : ∀ j, (∀ y, y ≤ j → f y = g y) → sMx f j = sMx g j := by
  intro j
  induction j with
  | zero => intro h; exact h 0 (Nat.le_refl _)
  | succ j ih => intro h; show imax _ _ = imax _ _; rw [ih (fun y hy => h y (by omega)), h (j + 1) (Nat.le_refl _)]
theorem mn_c {f g : Nat → Int32} : ∀ j, (∀ y, y ≤ j → f y = g y) → sMn f j = sMn g j := by
  intro j
  induction j with
  | zero => intro h; exact h 0 (Nat.le_refl _)
  | succ j ih => intro h; show imin _ _ = imin _ _; rw [ih (fun y hy => h y (by omega)), h (j + 1) (Nat.le_refl _)]
theorem mx_b {f : Nat → Int32} {B : Int} : ∀ j, (∀ y, y ≤ j → zBt (f y) 0 B) → zBt (sMx f j) 0 B ∧ ∀ y, y ≤ j → (f y).toInt ≤ (sMx f j).toInt := by
  intro j
  induction j with
  | zero =>
    intro h
    refine ⟨h 0 (Nat.le_refl _), fun y hy => ?_⟩
    have e : y = 0 := by omega
    subst e
    exact Int.le_refl _
  | succ j ih =>
    intro h
    obtain ⟨⟨a, b⟩, c⟩ := ih (fun y hy => h y (by omega))
    obtain ⟨p, q⟩ := h (j + 1) (Nat.le_refl _)
    have e : (sMx f (j + 1)).toInt = max (sMx f j).toInt (f (j + 1)).toInt := ti_max
    refine ⟨?_, fun y hy => ?_⟩
    · unfold zBt; rw [e]; omega
    · rw [e]
      by_cases hy2 : y ≤ j
      · have := c y hy2; omega
      · have e2 : y = j + 1 := by omega
        subst e2
        omega
theorem mn_b {f : Nat → Int32} {B : Int} : ∀ j, (∀ y, y ≤ j → zBt (f y) 0 B) → zBt (sMn f j) 0 B ∧ ∀ y, y ≤ j → (sMn f j).toInt ≤ (f y).toInt := by
  intro j
  induction j with
  | zero =>
    intro h
    refine ⟨h 0 (Nat.le_refl _), fun y hy => ?_⟩
    have e : y = 0 := by omega
    subst e
    exact Int.le_refl _
  | succ j ih =>
    intro h
    obtain ⟨⟨a, b⟩, c⟩ := ih (fun y hy => h y (by omega))
    obtain ⟨p, q⟩ := h (j + 1) (Nat.le_refl _)
    have e : (sMn f (j + 1)).toInt = min (sMn f j).toInt (f (j + 1)).toInt := ti_min
    refine ⟨?_, fun y hy => ?_⟩
    · unfold zBt; rw [e]; omega
    · rw [e]
      by_cases hy2 : y ≤ j
      · have := c y hy2; omega
      · have e2 : y = j + 1 := by omega
        subst e2
        omega
theorem mx_mono {f g : Nat → Int32} : ∀ j, (∀ y, y ≤ j → (f y).toInt ≤ (g y).toInt) → (sMx f j).toInt ≤ (sMx g j).toInt := by
  intro j
  induction j with
  | zero => intro h; exact h 0 (Nat.le_refl _)
  | succ j ih =>
    intro h
    have a := ih (fun y hy => h y (by omega))
    have b := h (j + 1) (Nat.le_refl _)
    show (imax _ _).toInt ≤ (imax _ _).toInt
    rw [ti_max, ti_max]
    omega
theorem zs_lb {f : Nat → Int32} {c : Int} : ∀ j, j < 8 → (∀ y, y ≤ j → zBt (f y) 0 16000 ∧ c ≤ (f y).toInt) → c * ((j : Int) + 1) ≤ (zsum f (j + 1)).toInt := by
  intro j
  induction j with
  | zero =>
    intro _ h
    rw [zs_s (by omega) (fun i hi => (h i hi).1)]
    have := (h 0 (Nat.le_refl _)).2
    have e : (zsum f 0).toInt = 0 := ti_0
    rw [e]
    omega
  | succ j ih =>
    intro h8 h
    have a := ih (by omega) (fun y hy => h y (by omega))
    have b := (h (j + 1) (Nat.le_refl _)).2
    rw [zs_s (by omega) (fun i hi => (h i hi).1)]
    have e : c * (((j + 1 : Nat) : Int) + 1) = c * ((j : Int) + 1) + c := by
      rw [Int.mul_add, Int.mul_one]
      congr 1
    rw [e]
    omega
end WA
