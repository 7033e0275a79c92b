theorem ti_neg {x : Int32} (h : -2147483648 < x.toInt) : (-x).toInt = - x.toInt := by
  have h2 := Int32.toInt_lt x
  rw [Int32.toInt_neg]
  exact bm_small (by omega) (by omega)
theorem zfoldl_Q {σ : Type} {f : σ → Nat → σ} {s : σ} (P : σ → Prop) (h0 : P s) : ∀ n, (∀ s y, y < n → P s → P (f s y)) → P (zfoldl f s n) := by
  intro n
  induction n with
  | zero => intro _; exact h0
  | succ n ih => intro hf; exact hf _ n (by omega) (ih (fun s y hy h => hf s y (by omega) h))
section WB
variable {n m : Nat} {T V G : Nat → Int32}
theorem sWould_mono {t : Nat} {q a b : Int32} (h : a.toInt ≤ b.toInt) : (sWould T G t q a).toInt ≤ (sWould T G t q b).toInt := by
  by_cases h5 : T (5 * t + 0) = 5
  · have e : ∀ x, sWould T G t q x = imax (sCus T t) x := fun x => by
      unfold sWould
      simp only [h5, ie_5_0, ie_5_1, ie_5_2, ie_5_3, ie_5_4, ↓reduceIte]
    rw [e, e, ti_max, ti_max]
    omega
  · have e : ∀ x, sWould T G t q x = sWould T G t q a := fun x => by
      unfold sWould
      simp only [h5, ↓reduceIte]
    rw [e b]
    exact Int.le_refl _
theorem sGift_t {t : Nat} {q a : Int32} (R : zRg T V G n m) (ht : t < n) (hq : zBt q 0 10) (ha : zBt a 0 2000) : (sGift T G t q a).toInt = max (T (5 * t + 1) * G 1 / 100).toInt (sWould T G t q a).toInt := by
  rw [(sGift_m R ht hq ha).2]
  by_cases h : sWould T G t q a ≤ T (5 * t + 1) * G 1 / 100
  · rw [if_pos h]; rw [ti_le] at h; omega
  · rw [if_neg h]; rw [ti_le] at h; omega
theorem sGf_b {t y : Nat} {a : Int32} (R : zRg T V G n m) (ht : t < n) (hy : y < m) (ha : zBt a 0 2000) : zBt (sGf T V G t y a) 0 2000 := (sGift_m R ht (sSvc_b R hy) ha).1
theorem sGf_mono {t y : Nat} {a b : Int32} (R : zRg T V G n m) (ht : t < n) (hy : y < m) (ha : zBt a 0 2000) (hb : zBt b 0 2000) (h : a.toInt ≤ b.toInt) : (sGf T V G t y a).toInt ≤ (sGf T V G t y b).toInt := by
  unfold sGf
  rw [sGift_t R ht (sSvc_b R hy) ha, sGift_t R ht (sSvc_b R hy) hb]
  have := sWould_mono (T := T) (G := G) (t := t) (q := sSvc V y) h
  omega
theorem hiM_b {t : Nat} {a : Int32} (R : zRg T V G n m) (ht : t < n) (ha : zBt a 0 2000) : ∀ j, j ≤ m → zBt (sHiM T V G t a j) 0 2000 ∧ ∀ y, y < j → (sGf T V G t y a).toInt ≤ (sHiM T V G t a j).toInt := by
  intro j
  induction j with
  | zero => intro _; exact ⟨by unfold zBt; rw [show sHiM T V G t a 0 = 0 from rfl, ti_0]; omega, fun y hy => by omega⟩
  | succ j ih =>
    intro hj
    obtain ⟨⟨i0, i1⟩, i2⟩ := ih (by omega)
    obtain ⟨g0, g1⟩ := sGf_b R ht (by omega : j < m) ha
    have e : (sHiM T V G t a (j + 1)).toInt = max (sHiM T V G t a j).toInt (sGf T V G t j a).toInt := ti_max
    refine ⟨?_, fun y hy => ?_⟩
    · unfold zBt; rw [e]; omega
    · rw [e]
      by_cases h : y < j
      · have := i2 y h; omega
      · have e2 : y = j := by omega
        subst e2
        omega
theorem hi_b (R : zRg T V G n m) : ∀ t, t < n → zBt (sHi T V G m t) 0 2000 := by
  intro t
  induction t with
  | zero =>
    intro ht
    rw [sHi_eq, sAhd_0]
    exact (hiM_b R ht (by unfold zBt; rw [ti_0]; omega) m (Nat.le_refl _)).1
  | succ t ih =>
    intro ht
    rw [sHi_eq, sAhd_s]
    exact (hiM_b R ht (ih (by omega)) m (Nat.le_refl _)).1
theorem hi_ub {S : Nat → Int32} (R : zRg T V G n m) (v : vS m n S) : ∀ i, i < n → (gc n T V G S i).toInt ≤ (sHi T V G m i).toInt := by
  have hm4 : m ≤ 4 := R.2.2.2.2.2.2.2.2
  intro i
  induction i with
  | zero =>
    intro hi
    obtain ⟨y, h1, h2⟩ := v 0 hi
    rw [gc_s hi, h2, nI_clamp (by omega), sHi_eq, sAhd_0, sAhd_0]
    exact (hiM_b R hi (by unfold zBt; rw [ti_0]; omega) m (Nat.le_refl _)).2 y h1
  | succ i ih =>
    intro hi
    obtain ⟨y, h1, h2⟩ := v (i + 1) hi
    rw [gc_s hi, h2, nI_clamp (by omega), sHi_eq, sAhd_s, sAhd_s]
    have hb := hi_b R i (by omega)
    have a := sGf_mono R hi h1 (gc_b R (Nat.le_refl _) v i (by omega)) hb (ih (by omega))
    have b := (hiM_b R hi hb m (Nat.le_refl _)).2 y h1
    omega
theorem su_b {S : Nat → Int32} (R : zRg T V G n m) (v : vS m n S) : ∀ j, j ≤ n → zBt (sSu T V G n m j) 0 (2000 * j) ∧ (zsum (gc n T V G S) n).toInt ≤ (zsum (gc n T V G S) (n - j)).toInt + (sSu T V G n m j).toInt := by
  have hn8 : n ≤ 8 := R.2.2.2.2.2.2.2.1
  intro j
  induction j with
  | zero =>
    intro _
    have e : sSu T V G n m 0 = 0 := rfl
    refine ⟨?_, ?_⟩
    · unfold zBt; rw [e, ti_0]; omega
    · rw [e, ti_0, Nat.sub_zero]; omega
  | succ j ih =>
    intro hj
    obtain ⟨⟨i0, i1⟩, i2⟩ := ih (by omega)
    obtain ⟨h0, h1⟩ := hi_b R (n - 1 - j) (by omega)
    have e : (sSu T V G n m (j + 1)).toInt = (sHi T V G m (n - 1 - j)).toInt + (sSu T V G n m j).toInt := by
      show (sHi T V G m (n - 1 - j) + sSu T V G n m j).toInt = _
      exact ti_add (by omega) (by omega)
    have hu := hi_ub R v (n - 1 - j) (by omega)
    have hb := gc_b R (Nat.le_refl _) v
    have es := zs_s (f := gc n T V G S) (n := n - 1 - j) (by omega) (fun i hi => by
      obtain ⟨a, b⟩ := hb i (by omega)
      exact ⟨a, by omega⟩)
    have e1 : n - 1 - j + 1 = n - j := by omega
    have e2 : n - (j + 1) = n - 1 - j := by omega
    rw [e1] at es
    refine ⟨?_, ?_⟩
    · unfold zBt; rw [e]; omega
    · rw [e2, e]; omega
theorem spr_t {S : Nat → Int32} (R : zRg T V G n m) (v : vS m n S) : (sSpr (sTs T S n) V G n m).toInt = (sMx (sOw (sTs T S n) V G n) (m - 1)).toInt - (sMn (sOw (sTs T S n) V G n) (m - 1)).toInt ∧ zBt (sSpr (sTs T S n) V G n m) 0 16000 := by
  have hn8 : n ≤ 8 := R.2.2.2.2.2.2.2.1
  have hb : ∀ y, zBt (sOw (sTs T S n) V G n y) 0 16000 := fun y => by
    obtain ⟨a, b⟩ := ow_b (y := y) R (Nat.le_refl _) v
    rw [ow_e] at a b
    exact ⟨a, by omega⟩
  obtain ⟨⟨x0, x1⟩, x2⟩ := mx_b (m - 1) (fun y _ => hb y)
  obtain ⟨⟨y0, y1⟩, y2⟩ := mn_b (m - 1) (fun y _ => hb y)
  have a := x2 0 (Nat.zero_le _)
  have b := y2 0 (Nat.zero_le _)
  have e := ti_sub (x := sMx (sOw (sTs T S n) V G n) (m - 1)) (y := sMn (sOw (sTs T S n) V G n) (m - 1)) (by omega) (by omega)
  refine ⟨e, ?_⟩
  unfold zBt sSpr
  rw [e]
  omega
theorem prune {S S' O Q : Nat → Int32} {t : Nat} {ev : Int32} {s : zSt4} (R : zRg T V G n m) (hev : ev = 0 ∨ ev = 1) (ht : t ≤ n) (hm : 0 < m) (v : vS m n S') (ag : ∀ i, i < t → S i = S' i) (hO : ∀ y, y < m → O y = ow n T V G S t y) (hQ : Q t = sSu T V G n m (n - t)) (hv : zBt s.2.2.1 0 16000) (hp : sHp m t ev O Q s) : tVal n m ev T V G S' ≤ (if ev = 0 then s.2.2.1 else - s.2.2.1) := by
  have hn8 : n ≤ 8 := R.2.2.2.2.2.2.2.1
  have hm4 : m ≤ 4 := R.2.2.2.2.2.2.2.2
  have hb := gc_b R (Nat.le_refl _) v
  obtain ⟨v0, v1⟩ := hv
  have vt : vS m t S' := fun i hi => v i (by omega)
  have eO : zsum O m = zsum (gc n T V G S') t := by
    rw [← ow_tot hm4 t vt]
    exact zsum_c m (fun y hy => by rw [hO y hy, ow_c ht ag])
  obtain ⟨t0, t1⟩ := zs_2 (f := gc n T V G S') t (by omega) (fun i hi => hb i (by omega))
  obtain ⟨⟨q0, q1⟩, q2⟩ := su_b R v (n - t) (by omega)
  have ent : n - (n - t) = t := by omega
  rw [ent] at q2
  have eB : (zsum O m + Q t).toInt = (zsum (gc n T V G S') t).toInt + (sSu T V G n m (n - t)).toInt := by
    rw [eO, hQ]
    exact ti_add (by omega) (by omega)
  have hp2 := hp.2
  rcases hev with rfl | rfl
  · rw [if_pos rfl] at hp2 ⊢
    rw [ti_le, eB] at hp2
    have e : tVal n m 0 T V G S' = zsum (gc n T V G S') n := rfl
    rw [e, ti_le]
    omega
  · have h10 : ¬ (1 : Int32) = 0 := by decide
    rw [if_neg h10] at hp2 ⊢
    have e : tVal n m 1 T V G S' = - sSpr (sTs T S' n) V G n m := rfl
    obtain ⟨p1, p2, p3⟩ := spr_t R v
    rw [e, ti_le, ti_neg (by omega), ti_neg (by omega)]
    rcases hp2 with h0 | h1
    · rw [h0, ti_0]
      omega
    · have hbo : ∀ y, zBt (sOw (sTs T S' n) V G n y) 0 16000 := fun y => by
        obtain ⟨a, b⟩ := ow_b (y := y) R (Nat.le_refl _) v
        rw [ow_e] at a b
        exact ⟨a, by omega⟩
      obtain ⟨⟨x0, x1⟩, x2⟩ := mx_b (m - 1) (fun y _ => hbo y)
      obtain ⟨⟨y0, y1⟩, y2⟩ := mn_b (m - 1) (fun y _ => hbo y)
      have lb := zs_lb (f := sOw (sTs T S' n) V G n) (c := (sMn (sOw (sTs T S' n) V G n) (m - 1)).toInt) (m - 1) (by omega) (fun y hy => ⟨hbo y, y2 y hy⟩)
      have em : m - 1 + 1 = m := by omega
      have em2 : (((m - 1 : Nat) : Int) + 1) = (m : Int) := by omega
      have etot : zsum (sOw (sTs T S' n) V G n) m = zsum (gc n T V G S') n := by
        rw [← ow_tot hm4 n v]
        exact zsum_c m (fun y _ => ow_e.symm)
      rw [em, em2, etot] at lb
      have mm := mx_mono (f := O) (g := sOw (sTs T S' n) V G n) (m - 1) (fun y hy => by
        have a := ow_m (S := S') (y := y) R (n - t) t (by omega) (fun i hi => v i (by omega))
        have e3 : t + (n - t) = n := by omega
        rw [e3, ow_e] at a
        rw [hO y (by omega), ow_c ht ag]
        exact a)
      obtain ⟨⟨o0, o1⟩, o2⟩ := mx_b (f := O) (B := 16000) (m - 1) (fun y hy => by
        obtain ⟨a, b⟩ := ow_b (y := y) R ht vt
        rw [hO y (by omega), ow_c ht ag]
        exact ⟨a, by omega⟩)
      have enm := nI_toInt (n := m) (by omega)
      have ed := ti_div (x := zsum O m + Q t) (y := nI m) (by omega) (by omega)
      rw [enm] at ed
      have d0 : 0 ≤ (zsum O m + Q t).toInt / (m : Int) := Int.ediv_nonneg (by omega) (by omega)
      have d1 : (zsum O m + Q t).toInt / (m : Int) ≤ (zsum O m + Q t).toInt := Int.ediv_le_self _ (by omega)
      have d2 : (sMn (sOw (sTs T S' n) V G n) (m - 1)).toInt ≤ (zsum O m + Q t).toInt / (m : Int) := Int.le_ediv_of_mul_le (by omega) (by omega)
      rw [ti_le, ti_sub (by omega) (by omega), ed] at h1
      omega
theorem tVal_b {S : Nat → Int32} {ev : Int32} (R : zRg T V G n m) (v : vS m n S) : zBt (if ev = 0 then zsum (gc n T V G S) n else sSpr (sTs T S n) V G n m) 0 16000 := by
  have hn8 : n ≤ 8 := R.2.2.2.2.2.2.2.1
  by_cases h : ev = 0
  · rw [if_pos h]
    obtain ⟨a, b⟩ := zs_2 (f := gc n T V G S) n hn8 (fun i hi => gc_b R (Nat.le_refl _) v i hi)
    exact ⟨a, by omega⟩
  · rw [if_neg h]
    exact (spr_t R v).2
theorem sVal_e {S O : Nat → Int32} {ev : Int32} (R : zRg T V G n m) (v : vS m n S) (hO : ∀ y, y < m → O y = ow n T V G S n y) : sVal m ev O = (if ev = 0 then zsum (gc n T V G S) n else sSpr (sTs T S n) V G n m) := by
  have hm4 : m ≤ 4 := R.2.2.2.2.2.2.2.2
  unfold sVal
  by_cases h : ev = 0
  · rw [if_pos h, if_pos h, ← ow_tot hm4 n v]
    exact zsum_c m hO
  · rw [if_neg h, if_neg h]
    unfold sSpr
    rcases Nat.eq_zero_or_pos m with h0 | h0
    · subst h0
      show O 0 - O 0 = sOw (sTs T S n) V G n 0 - sOw (sTs T S n) V G n 0
      rw [Int32.sub_self, Int32.sub_self]
    · rw [mx_c (f := O) (g := sOw (sTs T S n) V G n) (m - 1) (fun y hy => by rw [hO y (by omega), ow_e]), mn_c (f := O) (g := sOw (sTs T S n) V G n) (m - 1) (fun y hy => by rw [hO y (by omega), ow_e])]
def zRe (n : Nat) (ev : Int32) (t : Nat) (s s' : zSt4) : Prop := s.2.1 = s'.2.1 ∧ (¬ s.2.1 = 0 → zBt s.2.2.1 0 16000 ∧ s'.2.2.1 = (if ev = 0 then s.2.2.1 else - s.2.2.1) ∧ ∀ i, i < n → s.2.2.2 i = s'.2.2.2 i) ∧ ∀ i, i < t → s.1 i = s'.1 i
theorem zRe_n {ev v : Int32} {s s' : zSt4} (hn8 : n ≤ 8) (hv : zBt v 0 16000) (h : ∀ i, i < n → s.1 i = s'.1 i) : zRe n ev n (s.1, 1, v, zcpy s.1 s.2.2.2 8) (s'.1, 1, (if ev = 0 then v else - v), zcpy s'.1 s'.2.2.2 8) := by
  refine ⟨rfl, fun _ => ⟨hv, rfl, fun i hi => ?_⟩, h⟩
  show (if i < 8 then s.1 i else _) = (if i < 8 then s'.1 i else _)
  rw [if_pos (by omega), if_pos (by omega)]
  exact h i hi
theorem leaf_R {ev : Int32} {O : Nat → Int32} {s s' : zSt4} (R : zRg T V G n m) (hev : ev = 0 ∨ ev = 1) (v : vS m n s'.1) (hO : ∀ y, y < m → O y = ow n T V G s'.1 n y) (E : zRe n ev n s s') : zRe n ev n (sKeep m ev O s) (tLf n m ev T V G s') := by
  have hn8 : n ≤ 8 := R.2.2.2.2.2.2.2.1
  have ev1 := sVal_e (ev := ev) R v hO
  have hb := tVal_b (ev := ev) R v
  rw [← ev1] at hb
  have et : tVal n m ev T V G s'.1 = if ev = 0 then sVal m ev O else - sVal m ev O := by
    rw [ev1]
    unfold tVal
    by_cases h : ev = 0
    · rw [if_pos h, if_pos h, if_pos h]; rfl
    · rw [if_neg h, if_neg h, if_neg h]
  obtain ⟨e1, e2, e3⟩ := E
  unfold tLf
  rw [et]
  by_cases f : s.2.1 = 0
  · have k1 : sKeep m ev O s = (s.1, 1, sVal m ev O, zcpy s.1 s.2.2.2 8) := if_neg (fun h => h.1 f)
    rw [k1, if_neg (fun h => h.1 (e1 ▸ f))]
    exact zRe_n hn8 hb e3
  · obtain ⟨a1, a2, a3⟩ := e2 f
    have iff : sBad ev (sVal m ev O) s ↔ (¬ s'.2.1 = 0 ∧ (if ev = 0 then sVal m ev O else - sVal m ev O) ≤ s'.2.2.1) := by
      unfold sBad
      rw [a2, ← e1]
      obtain ⟨b0, b1⟩ := hb
      obtain ⟨c0, c1⟩ := a1
      rcases hev with rfl | rfl
      · rw [if_pos rfl, if_pos rfl, if_pos rfl]
      · have h10 : ¬ (1 : Int32) = 0 := by decide
        rw [if_neg h10, if_neg h10, if_neg h10, ti_le, ti_le, ti_neg (by omega), ti_neg (by omega)]
        constructor
        · intro ⟨x, y⟩; exact ⟨x, by omega⟩
        · intro ⟨x, y⟩; exact ⟨x, by omega⟩
    by_cases h : sBad ev (sVal m ev O) s
    · have k1 : sKeep m ev O s = s := if_pos h
      rw [k1, if_pos (iff.mp h)]
      exact ⟨e1, e2, e3⟩
    · have k1 : sKeep m ev O s = (s.1, 1, sVal m ev O, zcpy s.1 s.2.2.2 8) := if_neg h
      rw [k1, if_neg (fun x => h (iff.mpr x))]
      exact zRe_n hn8 hb e3
theorem tF_ni {k ev : Int32} : ∀ q t (s : zSt4), t + q = n → (s.2.1 = 0 ∨ s.2.1 = 1) → vS m t s.1 → ¬ s.2.1 = 0 → (∀ S', (∀ i, i < t → s.1 i = S' i) → vS m n S' → tVal n m ev T V G S' ≤ s.2.2.1) → (tF n m k ev T V G q t s).2 = s.2 := by
  intro q
  induction q with
  | zero =>
    intro t s ht h01 v f h
    have e : t = n := by omega
    subst e
    have h1 := h s.1 (fun _ _ => rfl) v
    show (tLf t m ev T V G s).2 = _
    unfold tLf
    rw [if_pos ⟨f, h1⟩]
  | succ q ih =>
    intro t s ht h01 v f h
    have P := zfoldl_Q (f := fun s y => if k ≤ nI (tCn s.1 y t) then s else tF n m k ev T V G q (t + 1) (upd s.1 t (nI y), s.2)) (s := s) (fun z : zSt4 => z.2 = s.2 ∧ ∀ i, i < t → z.1 i = s.1 i) ⟨rfl, fun _ _ => rfl⟩ m (by
      intro z y hy ⟨z1, z2⟩
      by_cases c : k ≤ nI (tCn z.1 y t)
      · rw [if_pos c]; exact ⟨z1, z2⟩
      · rw [if_neg c]
        have u : ∀ i, i < t → upd z.1 t (nI y) i = s.1 i := fun i hi => by rw [u_ne (by omega), z2 i hi]
        have h01' : z.2.1 = 0 ∨ z.2.1 = 1 := by rw [z1]; exact h01
        refine ⟨?_, fun i hi => ?_⟩
        · have r := ih (t + 1) (upd z.1 t (nI y), z.2) (by omega) h01' (fun i hi => by
            by_cases hit : i = t
            · exact ⟨y, hy, by rw [hit]; exact u_eq _ _ _⟩
            · obtain ⟨y2, a, b⟩ := v i (by omega)
              exact ⟨y2, a, by show upd z.1 t (nI y) i = _; rw [u i (by omega), b]⟩) (by show ¬ z.2.1 = 0; rw [z1]; exact f) (fun S' a b => by
              show _ ≤ z.2.2.1
              rw [z1]
              exact h S' (fun i hi => by rw [← a i (by omega)]; exact (u i hi).symm) b)
          rw [r]
          exact z1
        · rw [(tF_k (n := n) (m := m) (k := k) (ev := ev) (T := T) (V := V) (G := G) q (t + 1) (upd z.1 t (nI y), z.2) (by omega) h01').2 i (Or.inl (by omega))]
          exact u i hi)
    exact P.1
theorem pF_tF {k ev : Int32} {Q : Nat → Int32} (R : zRg T V G n m) (hev : ev = 0 ∨ ev = 1) (hQ : ∀ t, t ≤ n → Q t = sSu T V G n m (n - t)) : ∀ q t a O K (s s' : zSt4), t + q = n → vS m t s'.1 → a = sAhd (gc n T V G s'.1) t → (∀ y, y < m → O y = ow n T V G s'.1 t y) → (∀ y, y < m → K y = nI (tCn s'.1 y t)) → (s'.2.1 = 0 ∨ s'.2.1 = 1) → zRe n ev t s s' → zRe n ev t (pF m k ev T V G Q q t a O K s) (tF n m k ev T V G q t s') := by
  have hn8 : n ≤ 8 := R.2.2.2.2.2.2.2.1
  have hm4 : m ≤ 4 := R.2.2.2.2.2.2.2.2
  intro q
  induction q with
  | zero =>
    intro t a O K s s' ht v ha hO hK h01 E
    have e : t = n := by omega
    subst e
    exact leaf_R R hev v hO E
  | succ q ih =>
    intro t a O K s s' ht v ha hO hK h01 E
    have htn : t < n := by omega
    have hm : 0 < m := by
      obtain ⟨-, -, -, -, y, h1, h2⟩ := R.1 t htn
      omega
    obtain ⟨e1, e2, e3⟩ := E
    by_cases hp : sHp m t ev O Q s
    · have k1 : pF m k ev T V G Q (q + 1) t a O K s = s := if_pos hp
      obtain ⟨a1, a2, a3⟩ := e2 hp.1
      have f' : ¬ s'.2.1 = 0 := by rw [← e1]; exact hp.1
      have ni := tF_ni (n := n) (m := m) (T := T) (V := V) (G := G) (k := k) (ev := ev) (q + 1) t s' ht h01 v f' (fun S' b c => by
        rw [a2]
        exact prune (S := s'.1) R hev (by omega) hm c b hO (hQ t (by omega)) a1 hp)
      have kk := (tF_k (n := n) (m := m) (k := k) (ev := ev) (T := T) (V := V) (G := G) (q + 1) t s' ht h01).2
      rw [k1]
      refine ⟨by rw [ni]; exact e1, fun _ => by rw [ni]; exact ⟨a1, a2, a3⟩, fun i hi => by rw [kk i (Or.inl hi)]; exact e3 i hi⟩
    · have k1 : pF m k ev T V G Q (q + 1) t a O K s = zfoldl (fun s y => if k ≤ K y then s else pF m k ev T V G Q q (t + 1) (sGf T V G t y a) (upd O y (O y + sGf T V G t y a)) (upd K y (K y + 1)) (upd s.1 t (nI y), s.2)) s m := if_neg hp
      rw [k1]
      show zRe n ev t _ (zfoldl (fun s y => if k ≤ nI (tCn s.1 y t) then s else tF n m k ev T V G q (t + 1) (upd s.1 t (nI y), s.2)) s' m)
      have key : ∀ j, j ≤ m → zRe n ev t (zfoldl (fun s y => if k ≤ K y then s else pF m k ev T V G Q q (t + 1) (sGf T V G t y a) (upd O y (O y + sGf T V G t y a)) (upd K y (K y + 1)) (upd s.1 t (nI y), s.2)) s j) (zfoldl (fun s y => if k ≤ nI (tCn s.1 y t) then s else tF n m k ev T V G q (t + 1) (upd s.1 t (nI y), s.2)) s' j) ∧ ((zfoldl (fun s y => if k ≤ nI (tCn s.1 y t) then s else tF n m k ev T V G q (t + 1) (upd s.1 t (nI y), s.2)) s' j).2.1 = 0 ∨ (zfoldl (fun s y => if k ≤ nI (tCn s.1 y t) then s else tF n m k ev T V G q (t + 1) (upd s.1 t (nI y), s.2)) s' j).2.1 = 1) ∧ ∀ i, i < t → (zfoldl (fun s y => if k ≤ nI (tCn s.1 y t) then s else tF n m k ev T V G q (t + 1) (upd s.1 t (nI y), s.2)) s' j).1 i = s'.1 i := by
        intro j
        induction j with
        | zero => intro _; exact ⟨⟨e1, e2, e3⟩, h01, fun _ _ => rfl⟩
        | succ j ihj =>
          intro hj
          have hjm : j < m := by omega
          obtain ⟨E1, F1, P1⟩ := ihj (by omega)
          have sC : zfoldl (fun s y => if k ≤ K y then s else pF m k ev T V G Q q (t + 1) (sGf T V G t y a) (upd O y (O y + sGf T V G t y a)) (upd K y (K y + 1)) (upd s.1 t (nI y), s.2)) s (j + 1) = (fun s y => if k ≤ K y then s else pF m k ev T V G Q q (t + 1) (sGf T V G t y a) (upd O y (O y + sGf T V G t y a)) (upd K y (K y + 1)) (upd s.1 t (nI y), s.2)) (zfoldl (fun s y => if k ≤ K y then s else pF m k ev T V G Q q (t + 1) (sGf T V G t y a) (upd O y (O y + sGf T V G t y a)) (upd K y (K y + 1)) (upd s.1 t (nI y), s.2)) s j) j := rfl
          have sM : zfoldl (fun s y => if k ≤ nI (tCn s.1 y t) then s else tF n m k ev T V G q (t + 1) (upd s.1 t (nI y), s.2)) s' (j + 1) = (fun s y => if k ≤ nI (tCn s.1 y t) then s else tF n m k ev T V G q (t + 1) (upd s.1 t (nI y), s.2)) (zfoldl (fun s y => if k ≤ nI (tCn s.1 y t) then s else tF n m k ev T V G q (t + 1) (upd s.1 t (nI y), s.2)) s' j) j := rfl
          rw [sC, sM]
          generalize zfoldl (fun s y => if k ≤ K y then s else pF m k ev T V G Q q (t + 1) (sGf T V G t y a) (upd O y (O y + sGf T V G t y a)) (upd K y (K y + 1)) (upd s.1 t (nI y), s.2)) s j = z at E1 ⊢
          generalize zfoldl (fun s y => if k ≤ nI (tCn s.1 y t) then s else tF n m k ev T V G q (t + 1) (upd s.1 t (nI y), s.2)) s' j = z' at E1 F1 P1 ⊢
          dsimp only
          have eK : K j = nI (tCn z'.1 j t) := by rw [hK j hjm, tCn_c t (fun i hi => (P1 i hi).symm)]
          rw [← eK]
          by_cases c : k ≤ K j
          · rw [if_pos c, if_pos c]
            exact ⟨E1, F1, P1⟩
          · rw [if_neg c, if_neg c]
            have u : ∀ i, i < t → upd z'.1 t (nI j) i = s'.1 i := fun i hi => by rw [u_ne (by omega), P1 i hi]
            have ut : upd z'.1 t (nI j) t = nI j := u_eq _ _ _
            have ea : sAhd (gc n T V G (upd z'.1 t (nI j))) t = a := by rw [ha]; exact gc_ac (by omega) (fun i hi => u i hi)
            have eg : gc n T V G (upd z'.1 t (nI j)) t = sGf T V G t j a := by rw [gc_s htn, ut, nI_clamp (by omega), ea]
            obtain ⟨G1, G2, G3⟩ := E1
            have r := ih (t + 1) (sGf T V G t j a) (upd O j (O j + sGf T V G t j a)) (upd K j (K j + 1)) (upd z.1 t (nI j), z.2) (upd z'.1 t (nI j), z'.2) (by omega) (fun i hi => by
                by_cases hit : i = t
                · exact ⟨j, hjm, by rw [hit]; exact ut⟩
                · obtain ⟨y2, b1, b2⟩ := v i (by omega)
                  exact ⟨y2, b1, by show upd z'.1 t (nI j) i = _; rw [u i (by omega), b2]⟩)
              (by rw [sAhd_s]; exact eg.symm)
              (fun y hy => by
                have eo : ow n T V G (upd z'.1 t (nI j)) (t + 1) y = ow n T V G s'.1 t y + (if (nI j : Int32) = nI y then sGf T V G t j a else 0) := by
                  rw [← ow_c (by omega) (fun i hi => u i hi), ← eg]
                  show zsum _ (t + 1) = _
                  rw [← zsum_s, ut]
                  rfl
                rw [eo, ← hO y hy]
                by_cases hy2 : y = j
                · subst hy2
                  rw [u_eq, if_pos rfl]
                · have hne : ¬ (nI j : Int32) = nI y := fun e => hy2 ((nI_eq (by omega) (by omega)).mp e).symm
                  rw [u_ne hy2, if_neg hne, Int32.add_zero])
              (fun y hy => by
                have et : tCn (upd z'.1 t (nI j)) y (t + 1) = if (nI j : Int32) = nI y then tCn s'.1 y t + 1 else tCn s'.1 y t := by
                  rw [← tCn_c t (fun i hi => u i hi)]
                  show (if _ = nI y then _ else _) = _
                  rw [ut]
                rw [et]
                by_cases hy2 : y = j
                · subst hy2
                  rw [u_eq, if_pos rfl, hK y hy, nI_1]
                · have hne : ¬ (nI j : Int32) = nI y := fun e => hy2 ((nI_eq (by omega) (by omega)).mp e).symm
                  rw [u_ne hy2, if_neg hne, hK y hy])
              F1
              ⟨G1, G2, fun i hi => by
                show upd z.1 t (nI j) i = upd z'.1 t (nI j) i
                by_cases hit : i = t
                · rw [hit, u_eq, u_eq]
                · rw [u_ne hit, u_ne hit]; exact G3 i (by omega)⟩
            have kk := tF_k (n := n) (m := m) (k := k) (ev := ev) (T := T) (V := V) (G := G) q (t + 1) (upd z'.1 t (nI j), z'.2) (by omega) F1
            exact ⟨⟨r.1, r.2.1, fun i hi => r.2.2 i (by omega)⟩, kk.1, fun i hi => by rw [kk.2 i (Or.inl (by omega))]; exact u i hi⟩
      exact (key m (Nat.le_refl _)).1
end WB
