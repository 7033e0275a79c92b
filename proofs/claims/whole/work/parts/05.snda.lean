def zv (α : Nat → Nat) (v : Value) : Value := match v with
  | .ref a => .ref (α a)
  | u => u
theorem zv_cat (α : Nat → Nat) (v : Value) : (zv α v).category = v.category := by cases v <;> rfl
theorem zv_cats (α : Nat → Nat) (r : List Value) : ((r.map (zv α)).map fun v => v.category).sum = (r.map fun v => v.category).sum := by
  rw [List.map_map]
  congr 1
  exact List.map_congr_left fun v _ => zv_cat α v
def zfs (α : Nat → Nat) (w : zM) (a c : Nat) : List Value := (List.range (zNn c)).map (fun k => zv α (zgf w a c k))
def zcell (α : Nat → Nat) (aC : Nat → ClassId) (w : zM) (a : Nat) : va_E := if zTag a < 7 then .inr (zTag a, zfs α w a (zTag a)) else if zTag a = 10 then .inl (aC a, (zLen a, .inl (w.1 a))) else if zTag a = 11 then .inl (aC a, (zLen a, .inr (.inl (w.2 a)))) else .inl (aC a, (zLen a, .inr (.inr (.inr (.inr (fun j => some (α (zref a j))))))))
def zws (α : Nat → Nat) (aC : Nat → ClassId) (w : zM) : va_W := (List.range 80).map (fun a => (α a, zcell α aC w a))
theorem zws_get {α : Nat → Nat} {aC : Nat → ClassId} {w : zM} {a : Nat} (h : a < 80) : (zws α aC w)[a]? = some (α a, zcell α aC w a) := by
  unfold zws
  rw [List.getElem?_map, List.getElem?_range h]
  rfl
theorem zws_len {α : Nat → Nat} {aC : Nat → ClassId} {w : zM} : (zws α aC w).length = 80 := by
  unfold zws
  rw [List.length_map, List.length_range]
theorem zws_put {α : Nat → Nat} {aC : Nat → ClassId} {w w' : zM} {a : Nat} (h : a < 80) {e : va_E} (he : zcell α aC w' a = e) (ho : ∀ b, b ≠ a → zcell α aC w' b = zcell α aC w b) : (zws α aC w).set a (α a, e) = zws α aC w' := by
  apply List.ext_getElem?
  intro b
  by_cases hb : b < 80
  · by_cases hab : b = a
    · subst hab
      rw [List.getElem?_set_self (by rw [zws_len]; exact hb), zws_get hb, he]
    · rw [List.getElem?_set_ne (fun z => hab z.symm), zws_get hb, zws_get hb, ho b hab]
  · rw [List.getElem?_eq_none (by rw [List.length_set, zws_len]; omega), List.getElem?_eq_none (by rw [zws_len]; omega)]
theorem zcell_o {α : Nat → Nat} {aC : Nat → ClassId} {w : zM} {a c : Nat} (h : zTag a = c) (hc : c < 7) : zcell α aC w a = .inr (c, zfs α w a c) := by
  unfold zcell
  rw [h, if_pos hc]
theorem zcell_i {α : Nat → Nat} {aC : Nat → ClassId} {w : zM} {a : Nat} (h : zTag a = 10) : zcell α aC w a = .inl (aC a, (zLen a, .inl (w.1 a))) := by
  unfold zcell
  rw [h]
  rfl
theorem zcell_l {α : Nat → Nat} {aC : Nat → ClassId} {w : zM} {a : Nat} (h : zTag a = 11) : zcell α aC w a = .inl (aC a, (zLen a, .inr (.inl (w.2 a)))) := by
  unfold zcell
  rw [h]
  rfl
theorem zcell_q {α : Nat → Nat} {aC : Nat → ClassId} {w : zM} {a : Nat} (h : zTag a = 12) : zcell α aC w a = .inl (aC a, (zLen a, .inr (.inr (.inr (.inr (fun j => some (α (zref a j)))))))) := by
  unfold zcell
  rw [h]
  rfl
theorem zcell_ne {α : Nat → Nat} {aC : Nat → ClassId} {w w' : zM} {b : Nat} (h1 : w'.1 b = w.1 b) (h2 : w'.2 b = w.2 b) : zcell α aC w' b = zcell α aC w b := by
  unfold zcell zfs zgf
  rw [h1, h2]
theorem zsh_c (a : Nat) : (a < 80) ∨ (80 ≤ a ∧ a = 999 ∧ zTag a = 21) ∨ (80 ≤ a ∧ 1000 ≤ a ∧ a < 1007 ∧ zTag a = 20) ∨ (80 ≤ a ∧ 2000 ≤ a ∧ a < 2005 ∧ zTag a = 22) ∨ (80 ≤ a ∧ zTag a = 99) := by
  by_cases h1 : a < 80
  · exact Or.inl h1
  · right
    have e : zTag a = (if a = 999 then ((21, 0) : Nat × Nat) else if 1000 ≤ a ∧ a < 1007 then (20, (zstL.getD (a - 1000) []).length) else if 2000 ≤ a ∧ a < 2005 then (22, (zsrL.getD (a - 2000) []).length) else (99, 0)).1 := by
      unfold zTag zsh
      rw [if_neg h1]
    rw [e]
    by_cases h2 : a = 999
    · left
      rw [if_pos h2]
      exact ⟨by omega, h2, rfl⟩
    · right
      rw [if_neg h2]
      by_cases h3 : 1000 ≤ a ∧ a < 1007
      · left
        rw [if_pos h3]
        exact ⟨by omega, h3.1, h3.2, rfl⟩
      · right
        rw [if_neg h3]
        by_cases h4 : 2000 ≤ a ∧ a < 2005
        · left
          rw [if_pos h4]
          exact ⟨by omega, h4.1, h4.2, rfl⟩
        · right
          rw [if_neg h4]
          exact ⟨by omega, rfl⟩
theorem zTag_sm : ∀ a, a < 80 → zTag a ≤ 12 := by decide +kernel
theorem zTag_lt {a : Nat} (h : zTag a ≤ 12) : a < 80 := by
  rcases zsh_c a with h1 | ⟨_, _, h1⟩ | ⟨_, _, _, h1⟩ | ⟨_, _, _, h1⟩ | ⟨_, h1⟩
  · exact h1
  · omega
  · omega
  · omega
  · omega
theorem zTag_20 {a : Nat} (h : zTag a = 20) : 1000 ≤ a ∧ a < 1007 := by
  rcases zsh_c a with h1 | ⟨_, _, h1⟩ | ⟨_, h2, h3, h1⟩ | ⟨_, _, _, h1⟩ | ⟨_, h1⟩
  · have := zTag_sm a h1
    omega
  · omega
  · exact ⟨h2, h3⟩
  · omega
  · omega
theorem zTag_21 {a : Nat} (h : zTag a = 21) : a = 999 := by
  rcases zsh_c a with h1 | ⟨_, h2, h1⟩ | ⟨_, _, _, h1⟩ | ⟨_, _, _, h1⟩ | ⟨_, h1⟩
  · have := zTag_sm a h1
    omega
  · exact h2
  · omega
  · omega
  · omega
theorem zTag_22 {a : Nat} (h : zTag a = 22) : ∃ i, i < 5 ∧ a = 2000 + i := by
  rcases zsh_c a with h1 | ⟨_, _, h1⟩ | ⟨_, _, _, h1⟩ | ⟨_, h2, h3, h1⟩ | ⟨_, h1⟩
  · have := zTag_sm a h1
    omega
  · omega
  · omega
  · exact ⟨a - 2000, by omega, by omega⟩
  · omega
theorem zLen_s : ∀ i, i < 5 → zLen (2000 + i) = [6, 5, 7, 5, 7].getD i 0 := by decide +kernel
theorem zLen_t : ∀ t, t < 7 → zLen (1000 + t) < 2 ^ 31 := by decide +kernel
def zlv (α : Nat → Nat) (ls : zL) : List (Nat × Value) := (List.range ls.length).filterMap (fun i => match ls[i]? with
  | some (some v) => some (i, zv α v)
  | _ => none)
theorem zlv_mem {α : Nat → Nat} {ls : zL} {q : Nat × Value} : q ∈ zlv α ls ↔ ∃ v, ls[q.1]? = some (some v) ∧ q.2 = zv α v := by
  unfold zlv
  rw [List.mem_filterMap]
  constructor
  · rintro ⟨i, hi, h⟩
    cases hl : ls[i]? with
    | none => rw [hl] at h; cases h
    | some y =>
      rw [hl] at h
      cases y with
      | none => cases h
      | some v =>
        cases h
        exact ⟨v, hl, rfl⟩
  · rintro ⟨v, h1, h2⟩
    refine ⟨q.1, List.mem_range.mpr ?_, ?_⟩
    · exact (List.getElem?_eq_some_iff.mp h1).1
    · rw [h1]
      show some (q.1, zv α v) = some q
      rw [← h2]
def zHas (α : Nat → Nat) (lsA : Array Slot) (n : Nat) (ls : zL) : Prop := lv_has lsA n (zlv α ls) ∧ ls.length = n
theorem zHas.get {α : Nat → Nat} {lsA : Array Slot} {n : Nat} {ls : zL} (h : zHas α lsA n ls) {i : Nat} {v : Value} (hi : ls[i]? = some (some v)) : lsA[i]? = some (.val (zv α v)) := h.1.2.2 (i, zv α v) (zlv_mem.mpr ⟨v, hi, rfl⟩)
theorem zset_len {ls : zL} {i : Nat} {v : Value} : (zset ls i v).length = ls.length := by
  unfold zset
  cases i <;> simp
theorem zHas.set {α : Nat → Nat} {lsA lsB : Array Slot} {n i : Nat} {ls : zL} {v : Value} (h : zHas α lsA n ls) (hb : lv_has lsB n ((i, zv α v) :: (zlv α ls).filter (fun q => !(q.1 == i) && !(q.1 + 1 == i && q.2.category == 2)))) : zHas α lsB n (zset ls i v) := by
  refine ⟨⟨hb.1, hb.2.1, fun q hq => hb.2.2 q ?_⟩, zset_len.trans h.2⟩
  obtain ⟨j, u⟩ := q
  obtain ⟨v', h1, h2⟩ := zlv_mem.mp hq
  dsimp only at h1 h2
  subst h2
  by_cases hj : j = i
  · subst hj
    have e : v' = v := by
      have hlt : j < (zset ls j v).length := (List.getElem?_eq_some_iff.mp h1).1
      unfold zset at h1
      rw [List.getElem?_set_self (by rw [zset_len] at hlt; cases j <;> simpa using hlt)] at h1
      cases h1
      rfl
    rw [e]
    exact List.mem_cons_self
  · refine List.mem_cons_of_mem _ (List.mem_filter.mpr ?_)
    have h3 : ls[j]? = some (some v') ∧ (j + 1 = i → v'.category ≠ 2) := by
      unfold zset at h1
      rw [List.getElem?_set_ne (fun z => hj z.symm)] at h1
      cases i with
      | zero => exact ⟨h1, fun z => by omega⟩
      | succ k =>
        dsimp only at h1
        by_cases hk : j = k
        · subst hk
          have hlt : j < ls.length := by
            have := (List.getElem?_eq_some_iff.mp h1).1
            simpa using this
          rw [List.getElem?_set_self hlt] at h1
          have h4 : zkill (ls.getD j none) = some v' := Option.some.inj h1
          have h5 : ls.getD j none = some v' ∧ v'.category ≠ 2 := by
            cases hy : ls.getD j none with
            | none => rw [hy] at h4; cases h4
            | some y =>
              rw [hy] at h4
              cases y <;> first | cases h4; exact ⟨rfl, by decide⟩ | (cases h4; exact ⟨rfl, fun z => by cases z⟩) | cases h4
          refine ⟨?_, fun _ => h5.2⟩
          rw [List.getD_eq_getElem?_getD] at h5
          cases hz : ls[j]? with
          | none => rw [hz] at h5; exact absurd h5.1 (by simp)
          | some y => rw [hz] at h5; exact congrArg some h5.1
        · rw [List.getElem?_set_ne (fun z => hk z.symm)] at h1
          exact ⟨h1, fun z => by omega⟩
    refine ⟨zlv_mem.mpr ⟨v', h3.1, rfl⟩, ?_⟩
    have h6 : ((zv α v').category == 2) = (v'.category == 2) := by rw [zv_cat]
    dsimp only
    rw [h6]
    by_cases h7 : j + 1 = i
    · have h8 := h3.2 h7
      simp [hj, h8]
    · simp [hj, h7]
theorem zlo_inl {ls : zL} {i : Nat} {k : Value → zR} {c : Nat × zL × List Value × zM} (h : zlo ls i k = .inl c) : ∃ v, ls[i]? = some (some v) ∧ k v = .inl c := by
  unfold zlo at h
  split at h
  · exact ⟨_, by assumption, h⟩
  · cases h
theorem zloI_inl {ls : zL} {i : Nat} {k : Int32 → zR} {c : Nat × zL × List Value × zM} (h : zloI ls i k = .inl c) : ∃ v, ls[i]? = some (some (.int v)) ∧ k v = .inl c := by
  unfold zloI at h
  split at h
  · exact ⟨_, by assumption, h⟩
  · cases h
theorem zloJ_inl {ls : zL} {i : Nat} {k : Int64 → zR} {c : Nat × zL × List Value × zM} (h : zloJ ls i k = .inl c) : ∃ v, ls[i]? = some (some (.long v)) ∧ k v = .inl c := by
  unfold zloJ at h
  split at h
  · exact ⟨_, by assumption, h⟩
  · cases h
theorem zjp_inl {pc : Nat} {off : Int} {k : Nat → zR} {c : Nat × zL × List Value × zM} (h : zjp pc off k = .inl c) : ∃ t : Nat, (pc : Int) + off = (t : Int) ∧ k t = .inl c := by
  unfold zjp at h
  split at h
  · exact ⟨_, (Int.toNat_of_nonneg (by assumption)).symm, h⟩
  · cases h
theorem zi1_r {st : List Value} {k : Int32 → List Value → zR} {c : zR} (h : zi1 st k = c) : c = zX ∨ ∃ (x : Int32) (r : List Value), st = .int x :: r ∧ k x r = c := by
  unfold zi1 at h
  split at h
  · exact Or.inr ⟨_, _, rfl, h⟩
  · exact Or.inl h.symm
theorem zi1_inl {st : List Value} {k : Int32 → List Value → zR} {c : Nat × zL × List Value × zM} (h : zi1 st k = .inl c) : ∃ (x : Int32) (r : List Value), st = .int x :: r ∧ k x r = .inl c := by
  rcases zi1_r h with h | h
  · cases h
  · exact h
theorem zi2_r {st : List Value} {k : Int32 → Int32 → List Value → zR} {c : zR} (h : zi2 st k = c) : c = zX ∨ ∃ (x y : Int32) (r : List Value), st = .int y :: .int x :: r ∧ k x y r = c := by
  unfold zi2 at h
  split at h
  · exact Or.inr ⟨_, _, _, rfl, h⟩
  · exact Or.inl h.symm
theorem zi2_inl {st : List Value} {k : Int32 → Int32 → List Value → zR} {c : Nat × zL × List Value × zM} (h : zi2 st k = .inl c) : ∃ (x y : Int32) (r : List Value), st = .int y :: .int x :: r ∧ k x y r = .inl c := by
  rcases zi2_r h with h | h
  · cases h
  · exact h
theorem zj1_r {st : List Value} {k : Int64 → List Value → zR} {c : zR} (h : zj1 st k = c) : c = zX ∨ ∃ (x : Int64) (r : List Value), st = .long x :: r ∧ k x r = c := by
  unfold zj1 at h
  split at h
  · exact Or.inr ⟨_, _, rfl, h⟩
  · exact Or.inl h.symm
theorem zj1_inl {st : List Value} {k : Int64 → List Value → zR} {c : Nat × zL × List Value × zM} (h : zj1 st k = .inl c) : ∃ (x : Int64) (r : List Value), st = .long x :: r ∧ k x r = .inl c := by
  rcases zj1_r h with h | h
  · cases h
  · exact h
theorem zj2_r {st : List Value} {k : Int64 → Int64 → List Value → zR} {c : zR} (h : zj2 st k = c) : c = zX ∨ ∃ (x y : Int64) (r : List Value), st = .long y :: .long x :: r ∧ k x y r = c := by
  unfold zj2 at h
  split at h
  · exact Or.inr ⟨_, _, _, rfl, h⟩
  · exact Or.inl h.symm
theorem zj2_inl {st : List Value} {k : Int64 → Int64 → List Value → zR} {c : Nat × zL × List Value × zM} (h : zj2 st k = .inl c) : ∃ (x y : Int64) (r : List Value), st = .long y :: .long x :: r ∧ k x y r = .inl c := by
  rcases zj2_r h with h | h
  · cases h
  · exact h
theorem zij_r {st : List Value} {k : Int64 → Int32 → List Value → zR} {c : zR} (h : zij st k = c) : c = zX ∨ ∃ (x : Int64) (y : Int32) (r : List Value), st = .int y :: .long x :: r ∧ k x y r = c := by
  unfold zij at h
  split at h
  · exact Or.inr ⟨_, _, _, rfl, h⟩
  · exact Or.inl h.symm
theorem zij_inl {st : List Value} {k : Int64 → Int32 → List Value → zR} {c : Nat × zL × List Value × zM} (h : zij st k = .inl c) : ∃ (x : Int64) (y : Int32) (r : List Value), st = .int y :: .long x :: r ∧ k x y r = .inl c := by
  rcases zij_r h with h | h
  · cases h
  · exact h
theorem za1_r {st : List Value} {k : Nat → List Value → zR} {c : zR} (h : za1 st k = c) : c = zX ∨ ∃ (x : Nat) (r : List Value), st = .ref x :: r ∧ k x r = c := by
  unfold za1 at h
  split at h
  · exact Or.inr ⟨_, _, rfl, h⟩
  · exact Or.inl h.symm
theorem za1_inl {st : List Value} {k : Nat → List Value → zR} {c : Nat × zL × List Value × zM} (h : za1 st k = .inl c) : ∃ (x : Nat) (r : List Value), st = .ref x :: r ∧ k x r = .inl c := by
  rcases za1_r h with h | h
  · cases h
  · exact h
theorem zai_r {st : List Value} {k : Nat → Int32 → List Value → zR} {c : zR} (h : zai st k = c) : c = zX ∨ ∃ (x : Nat) (y : Int32) (r : List Value), st = .int y :: .ref x :: r ∧ k x y r = c := by
  unfold zai at h
  split at h
  · exact Or.inr ⟨_, _, _, rfl, h⟩
  · exact Or.inl h.symm
theorem zai_inl {st : List Value} {k : Nat → Int32 → List Value → zR} {c : Nat × zL × List Value × zM} (h : zai st k = .inl c) : ∃ (x : Nat) (y : Int32) (r : List Value), st = .int y :: .ref x :: r ∧ k x y r = .inl c := by
  rcases zai_r h with h | h
  · cases h
  · exact h
theorem zia_r {st : List Value} {k : Nat → Int32 → List Value → zR} {c : zR} (h : zia st k = c) : c = zX ∨ ∃ (x : Nat) (y : Int32) (r : List Value), st = .int y :: .ref x :: r ∧ k x y r = c := by
  unfold zia at h
  split at h
  · exact Or.inr ⟨_, _, _, rfl, h⟩
  · exact Or.inl h.symm
theorem zia_inl {st : List Value} {k : Nat → Int32 → List Value → zR} {c : Nat × zL × List Value × zM} (h : zia st k = .inl c) : ∃ (x : Nat) (y : Int32) (r : List Value), st = .int y :: .ref x :: r ∧ k x y r = .inl c := by
  rcases zia_r h with h | h
  · cases h
  · exact h
theorem zaii_r {st : List Value} {k : Nat → Int32 → Int32 → List Value → zR} {c : zR} (h : zaii st k = c) : c = zX ∨ ∃ (x : Nat) (y z : Int32) (r : List Value), st = .int z :: .int y :: .ref x :: r ∧ k x y z r = c := by
  unfold zaii at h
  split at h
  · exact Or.inr ⟨_, _, _, _, rfl, h⟩
  · exact Or.inl h.symm
theorem zaii_inl {st : List Value} {k : Nat → Int32 → Int32 → List Value → zR} {c : Nat × zL × List Value × zM} (h : zaii st k = .inl c) : ∃ (x : Nat) (y z : Int32) (r : List Value), st = .int z :: .int y :: .ref x :: r ∧ k x y z r = .inl c := by
  rcases zaii_r h with h | h
  · cases h
  · exact h
theorem zaij_r {st : List Value} {k : Nat → Int32 → Int64 → List Value → zR} {c : zR} (h : zaij st k = c) : c = zX ∨ ∃ (x : Nat) (y : Int32) (z : Int64) (r : List Value), st = .long z :: .int y :: .ref x :: r ∧ k x y z r = c := by
  unfold zaij at h
  split at h
  · exact Or.inr ⟨_, _, _, _, rfl, h⟩
  · exact Or.inl h.symm
theorem zaij_inl {st : List Value} {k : Nat → Int32 → Int64 → List Value → zR} {c : Nat × zL × List Value × zM} (h : zaij st k = .inl c) : ∃ (x : Nat) (y : Int32) (z : Int64) (r : List Value), st = .long z :: .int y :: .ref x :: r ∧ k x y z r = .inl c := by
  rcases zaij_r h with h | h
  · cases h
  · exact h
