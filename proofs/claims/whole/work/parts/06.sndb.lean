def zSt (α : Nat → Nat) (aC : Nat → ClassId) (D : va_G) (A : Nat → Prop) (adV : Nat → Nat) (L : Nat) (xs : Nat → Int32) (U : State) (H : Heap) : Prop :=
  va_K D zcls [] U ∧ (∀ a, zTag a = 10 → va_K D zcls [(aC a, .int)] U) ∧ (∀ a, zTag a = 11 → va_K D zcls [(aC a, .long)] U) ∧ (∀ a, zTag a = 12 → va_K D zcls [(aC a, .object "TablesAndTips$Shelf")] U) ∧
  (∀ t, zTag t = 20 → va_Z (zsC t) (zsN t) "[I" (.ref (α t)) A U H ∧ va_T .int (α t) (zLen t) (fun j => .int (ztab t j)) A U H) ∧
  (va_X (α 999) L xs U H ∧ α 999 < H.size ∧ ¬ A (α 999)) ∧
  (vk_S 5 [6, 5, 7, 5, 7] zsrL (fun i => α (2000 + i)) adV A U H ∧ (∀ i, i < 5 → vk_R "TablesAndTips$Reader" (88 + 2 * i) (zTx i) (α (2000 + i)) U) ∧ va_Z "java/lang/String" "COMPACT_STRINGS" "Z" (.int 1) A U H ∧ ∃ r : Value, (r = .null ∨ ∃ a, r = .ref a) ∧ va_Z "jdk/internal/util/Preconditions" "SIOOBE_FORMATTER" "Ljava/util/function/BiFunction;" r A U H) ∧
  ((∀ o i b n d h, Cond.fieldLinkNest o i b n d h ∈ lw_tbl → va_Nw (.fieldLinkNest o i b n d h) U) ∧ (∀ o i y h, Cond.methodLinkNest o i y h ∈ lw_tbl → va_Nw (.methodLinkNest o i y h) U))
def zWI (L : Nat) (xs : Nat → Int32) (w : zM) : Prop := w.1 998 0 = nI L ∧ (∀ j, j < L → w.1 999 j = xs j) ∧ L < 2 ^ 31
theorem zSt.go {α : Nat → Nat} {aC : Nat → ClassId} {D : va_G} {A : Nat → Prop} {adV : Nat → Nat} {L : Nat} {xs : Nat → Int32} {u U : State} {H H1 : Heap} (h : zSt α aC D A adV L xs u H) (hvm : u.vm.Alike U.vm) (hR : ∀ i tx a, vk_R "TablesAndTips$Reader" i tx a u → vk_R "TablesAndTips$Reader" i tx a U) (hF : ∀ o i b n d h, va_Nw (.fieldLinkNest o i b n d h) u → va_Nw (.fieldLinkNest o i b n d h) U) (hM : ∀ o i y h, va_Nw (.methodLinkNest o i y h) u → va_Nw (.methodLinkNest o i y h) U) (hz : H.size ≤ H1.size) (hq : ∀ a : Nat, a < H.size → ¬ A a → H1[a]? = H[a]?) : zSt α aC D A adV L xs U H1 := by
  obtain ⟨h1, h2, h3, h4, h5, ⟨h6, h7, h8⟩, ⟨h9, h10, h11, h11r, h11n, h11s⟩, h12, h13⟩ := h
  exact ⟨h1.moved hvm, fun a ha => (h2 a ha).moved hvm, fun a ha => (h3 a ha).moved hvm, fun a ha => (h4 a ha).moved hvm, fun t ht => ⟨((h5 t ht).1.moved hvm).kept hq, ((h5 t ht).2.moved hvm).kept hq⟩, ⟨(h6.moved hvm).kept (hq _ h7 h8), Nat.lt_of_lt_of_le h7 hz, h8⟩, ⟨(h9.moved hvm).kept hq, fun i hi => hR _ _ _ (h10 i hi), (h11.moved hvm).kept hq, h11r, h11n, (h11s.moved hvm).kept hq⟩, fun o i b n d h hm => hF o i b n d h (h12 o i b n d h hm), fun o i y h hm => hM o i y h (h13 o i y h hm)⟩
def zCx (α : Nat → Nat) (aC : Nat → ClassId) (D : va_G) (A : Nat → Prop) (adV : Nat → Nat) (L : Nat) (xs : Nat → Int32) (M d : Nat) (p : Program) (R : Room) (s : State) (m : MethodId) (args : Array Value) (meth : Method) (c : Code) : Prop :=
  p.tables.exec = Jvm.exec ∧ c.code = zcode M ∧ c.maxLocals = zmaxl M ∧ s.vm.findClass (zRn (M / 1000)) = some m.cls ∧ (∀ w ∈ zTbl, w.before args s = true) ∧ zSt α aC D A adV L xs s s.heap ∧ meth.locks = false ∧ d + 6 ≤ R.frames ∧ 40 * d + 200 ≤ R.locals
theorem zfl_mem {o i : Nat} {q : Nat × Nat} (h : zfl o i = some q) : ∃ e ∈ zflL, e.1 = o ∧ e.2.1 = i ∧ e.2.2.1 = q.1 ∧ e.2.2.2.1 = q.2 := by
  unfold zfl at h
  cases hf : zflL.find? (fun q => q.1 == o && q.2.1 == i) with
  | none => rw [hf] at h; cases h
  | some e =>
    rw [hf] at h
    cases h
    have h1 := List.find?_some hf
    simp only [Bool.and_eq_true, beq_iff_eq] at h1
    exact ⟨e, List.mem_of_find?_eq_some hf, h1.1, h1.2, rfl, rfl⟩
theorem zsl_mem {o i t : Nat} (h : zsl o i = some t) : ∃ e ∈ zslL, e.1 = o ∧ e.2.1 = i ∧ e.2.2.1 = t := by
  unfold zsl at h
  cases hf : zslL.find? (fun q => q.1 == o && q.2.1 == i) with
  | none => rw [hf] at h; cases h
  | some e =>
    rw [hf] at h
    cases h
    have h1 := List.find?_some hf
    simp only [Bool.and_eq_true, beq_iff_eq] at h1
    exact ⟨e, List.mem_of_find?_eq_some hf, h1.1, h1.2, rfl⟩
theorem zml_mem {o i t : Nat} (h : zml o i = some t) : ∃ e ∈ zmlL, e.1 = o ∧ e.2.1 = i ∧ e.2.2.1 = t := by
  unfold zml at h
  cases hf : zmlL.find? (fun q => q.1 == o && q.2.1 == i) with
  | none => rw [hf] at h; cases h
  | some e =>
    rw [hf] at h
    cases h
    have h1 := List.find?_some hf
    simp only [Bool.and_eq_true, beq_iff_eq] at h1
    exact ⟨e, List.mem_of_find?_eq_some hf, h1.1, h1.2, rfl⟩
theorem zcs_mem {o i : Nat} {v : Value} (h : zcs o i = some v) : (o, i, v) ∈ zcsL := by
  unfold zcs at h
  cases hf : zcsL.find? (fun q => q.1 == o && q.2.1 == i) with
  | none => rw [hf] at h; cases h
  | some e =>
    rw [hf] at h
    cases h
    have h1 := List.find?_some hf
    simp only [Bool.and_eq_true, beq_iff_eq] at h1
    have h2 := List.mem_of_find?_eq_some hf
    obtain ⟨e1, e2, e3⟩ := e
    obtain ⟨rfl, rfl⟩ := h1
    exact h2
theorem zc2_mem {o i : Nat} {v : Int64} (h : zc2 o i = some v) : (o, i, v) ∈ zc2L := by
  unfold zc2 at h
  cases hf : zc2L.find? (fun q => q.1 == o && q.2.1 == i) with
  | none => rw [hf] at h; cases h
  | some e =>
    rw [hf] at h
    cases h
    have h1 := List.find?_some hf
    simp only [Bool.and_eq_true, beq_iff_eq] at h1
    have h2 := List.mem_of_find?_eq_some hf
    obtain ⟨e1, e2, e3⟩ := e
    obtain ⟨rfl, rfl⟩ := h1
    exact h2
theorem zis_in {i : Int32} {n : Nat} (h : zis i n = true) : vp_in i n := by
  unfold zis at h
  rw [decide_eq_true_eq] at h
  exact h
section SND
variable {p : Program} {l : Launch} {e : Env} {R : Room} {s : State} {m : MethodId} {args : Array Value} {below : List Frame} {meth : Method} {c : Code} {H : Heap} {locs : List Loc} {cells slots : Nat} {Q : State → Prop}
variable {α : Nat → Nat} {aC : Nat → ClassId} {D : va_G} {A : Nat → Prop} {adV : Nat → Nat} {L : Nat} {xs : Nat → Int32} {M d pc len : Nat} {ls : zL} {st : List Value} {w : zM} {lsA : Array Slot} {q : Nat × zL × List Value × zM}
theorem zs_slen (C : zCx α aC D A adV L xs M d p R s m args meth c) (hc : cells ≤ R.cells) (hs : slots ≤ R.slots) (hS : va_S A s.heap H locs) {i j : Nat} (hj : j < 5) {rest : List Value} (hcat : (rest.map fun v => v.category).sum ≤ 8) (hsz : lsA.size = zmaxl M) (hl : zml (M / 1000) i = some 9003) (hdg : decode (zcode M) pc = .ok (.invokevirtual i, 3))
    (kk : W p l e R s m args below meth c H locs cells slots Q (F0 m (pc + 3) lsA (.int (Int32.ofNat ([6, 5, 7, 5, 7].getD j 0)) :: rest))) : W p l e R s m args below meth c H locs cells slots Q (F0 m pc lsA (.ref (α (2000 + j)) :: rest)) := by
  obtain ⟨hx, hb, hml, hown, hts, hst, hlk, hfr, hlo⟩ := C
  obtain ⟨-, -, -, -, -, -, ⟨h9, -, h11⟩, -⟩ := hst
  have hWW : jW α adV A s s.heap := ⟨h9, h11⟩
  obtain ⟨e1, he, e2, e3, e4⟩ := zml_mem hl
  have g := (zw_ml e1 he).2.2.2.2.1 e4
  rw [e2, e3] at g
  refine j_back (va_runV (C := "java/lang/String") (b := α (2000 + j)) (As := []) (rest := rest) ⟨hx, hb, hml, hown, hts⟩ (c_length (α := α) (adV := adV) (A := A) hj) ⟨callB_of 0 hts (jG jc0_in) rfl rfl rfl (hts (.initialized (jy 0).cls) (zmg (i := 9) (by decide +kernel) rfl)) (hts (.methodLink (zRn (M / 1000)) i (jy 0)) (zmg g rfl)) (by decide +kernel) ?_, hts (.instanceMethod (jy 0)) (zmg (i := 499) (by decide +kernel) rfl), hts (.selects "java/lang/String" (jy 0) (jy 0)) (zmg (i := 500) (by decide +kernel) rfl)⟩ ⟨jP_blind, vk_recv (i := j) (adK := fun i => α (2000 + i)) hWW.1 hj hS, jP_at hWW hS⟩ rfl rfl hsz rfl (lv_room hcat) hdg ⟨hc, hs⟩) kk
  show 2 + 1 ≤ R.frames ∧ 8 + (1 + 11) + 40 * 2 ≤ R.locals
  omega
theorem zs_schr (C : zCx α aC D A adV L xs M d p R s m args meth c) (hc : cells ≤ R.cells) (hs : slots ≤ R.slots) (hS : va_S A s.heap H locs) {i j : Nat} {y : Int32} (hj : j < 5) (hy : vp_in y ([6, 5, 7, 5, 7].getD j 0)) {rest : List Value} (hcat : (rest.map fun v => v.category).sum ≤ 8) (hsz : lsA.size = zmaxl M) (hl : zml (M / 1000) i = some 9004) (hdg : decode (zcode M) pc = .ok (.invokevirtual i, 3))
    (kk : W p l e R s m args below meth c H locs cells slots Q (F0 m (pc + 3) lsA (.int ((zsrL.getD j []).getD y.toNatClampNeg 0) :: rest))) : W p l e R s m args below meth c H locs cells slots Q (F0 m pc lsA (.int y :: .ref (α (2000 + j)) :: rest)) := by
  obtain ⟨hx, hb, hml, hown, hts, hst, hlk, hfr, hlo⟩ := C
  obtain ⟨-, -, -, -, -, -, ⟨h9, -, h11⟩, -⟩ := hst
  have hWW : jW α adV A s s.heap := ⟨h9, h11⟩
  obtain ⟨e1, he, e2, e3, e4⟩ := zml_mem hl
  have g := (zw_ml e1 he).2.2.2.2.2 e4
  rw [e2, e3] at g
  refine j_back (va_runV (C := "java/lang/String") (b := α (2000 + j)) (As := [.int y]) (rest := rest) ⟨hx, hb, hml, hown, hts⟩ (c_charAt (α := α) (adV := adV) (A := A) hj hy) ⟨callB_of 1 hts (jG jc2_in) rfl rfl rfl (hts (.initialized (jy 2).cls) (zmg (i := 9) (by decide +kernel) rfl)) (hts (.methodLink (zRn (M / 1000)) i (jy 2)) (zmg g rfl)) (by decide +kernel) ?_, hts (.instanceMethod (jy 2)) (zmg (i := 509) (by decide +kernel) rfl), hts (.selects "java/lang/String" (jy 2) (jy 2)) (zmg (i := 510) (by decide +kernel) rfl)⟩ ⟨jP_blind, vk_recv (i := j) (adK := fun i => α (2000 + i)) hWW.1 hj hS, jP_at hWW hS⟩ rfl rfl hsz rfl (lv_room hcat) hdg ⟨hc, hs⟩) kk
  show 4 + 1 ≤ R.frames ∧ 8 + (2 + 11) + 40 * 4 ≤ R.locals
  omega
theorem zs_aload_n {k : Fin 4} (C : zCx α aC D A adV L xs M d p R s m args meth c) (hDD : ∀ w, va_D A (zws α aC w)) (hc : cells ≤ R.cells) (hs : slots ≤ R.slots) (hP : va_P D zcls (zws α aC w) H) (hS : va_S A s.heap H locs) (hl : zHas α lsA (zmaxl M) ls) (hw : zWI L xs w) (hd : decode (zcode M) pc = .ok (.aload_n k, len)) (hL : zlen (.aload_n k) len = true) (hz : zstep M (.aload_n k) pc len ls st w = .inl q) (kk : ∀ (H1 : Heap) (locs1 : List Loc) (lsB : Array Slot), va_P D zcls (zws α aC q.2.2.2) H1 → va_S A s.heap H1 locs1 → zHas α lsB (zmaxl M) q.2.1 → zWI L xs q.2.2.2 → W p l e R s m args below meth c H1 locs1 cells slots Q (F0 m q.1 lsB (q.2.2.1.map (zv α)))) : W p l e R s m args below meth c H locs cells slots Q (F0 m pc lsA (st.map (zv α))) := by
  obtain ⟨hx, hb, hml, hown, hts, hst, hlk, hfr, hlo⟩ := C
  have h1 : len = 1 := eq_of_beq hL
  subst h1
  obtain ⟨v, h2, h3⟩ := zlo_inl hz
  have h4 := hl.get h2
  cases v with
  | ref a => cases h3; exact lv_aload_n hx hb hd rfl h4 (kk H locs lsA hP hS hl hw)
  | null => cases h3; exact lv_aload_nN hx hb hd rfl h4 (kk H locs lsA hP hS hl hw)
  | _ => cases h3
theorem zs_aload {k : Nat} (C : zCx α aC D A adV L xs M d p R s m args meth c) (hDD : ∀ w, va_D A (zws α aC w)) (hc : cells ≤ R.cells) (hs : slots ≤ R.slots) (hP : va_P D zcls (zws α aC w) H) (hS : va_S A s.heap H locs) (hl : zHas α lsA (zmaxl M) ls) (hw : zWI L xs w) (hd : decode (zcode M) pc = .ok (.aload k, len)) (hL : zlen (.aload k) len = true) (hz : zstep M (.aload k) pc len ls st w = .inl q) (kk : ∀ (H1 : Heap) (locs1 : List Loc) (lsB : Array Slot), va_P D zcls (zws α aC q.2.2.2) H1 → va_S A s.heap H1 locs1 → zHas α lsB (zmaxl M) q.2.1 → zWI L xs q.2.2.2 → W p l e R s m args below meth c H1 locs1 cells slots Q (F0 m q.1 lsB (q.2.2.1.map (zv α)))) : W p l e R s m args below meth c H locs cells slots Q (F0 m pc lsA (st.map (zv α))) := by
  obtain ⟨hx, hb, hml, hown, hts, hst, hlk, hfr, hlo⟩ := C
  have h1 : len = 2 := eq_of_beq hL
  subst h1
  obtain ⟨v, h2, h3⟩ := zlo_inl hz
  have h4 := hl.get h2
  cases v with
  | ref a => cases h3; exact lv_aload hx hb hd h4 (kk H locs lsA hP hS hl hw)
  | null => cases h3; exact lv_aloadN hx hb hd h4 (kk H locs lsA hP hS hl hw)
  | _ => cases h3
theorem zs_iload_n {k : Fin 4} (C : zCx α aC D A adV L xs M d p R s m args meth c) (hDD : ∀ w, va_D A (zws α aC w)) (hc : cells ≤ R.cells) (hs : slots ≤ R.slots) (hP : va_P D zcls (zws α aC w) H) (hS : va_S A s.heap H locs) (hl : zHas α lsA (zmaxl M) ls) (hw : zWI L xs w) (hd : decode (zcode M) pc = .ok (.iload_n k, len)) (hL : zlen (.iload_n k) len = true) (hz : zstep M (.iload_n k) pc len ls st w = .inl q) (kk : ∀ (H1 : Heap) (locs1 : List Loc) (lsB : Array Slot), va_P D zcls (zws α aC q.2.2.2) H1 → va_S A s.heap H1 locs1 → zHas α lsB (zmaxl M) q.2.1 → zWI L xs q.2.2.2 → W p l e R s m args below meth c H1 locs1 cells slots Q (F0 m q.1 lsB (q.2.2.1.map (zv α)))) : W p l e R s m args below meth c H locs cells slots Q (F0 m pc lsA (st.map (zv α))) := by
  obtain ⟨hx, hb, hml, hown, hts, hst, hlk, hfr, hlo⟩ := C
  have h1 : len = 1 := eq_of_beq hL
  subst h1
  obtain ⟨v, h2, h3⟩ := zloI_inl hz
  have h4 := hl.get h2
  cases h3
  exact lv_iload_n hx hb hd rfl h4 (kk H locs lsA hP hS hl hw)
theorem zs_iload {k : Nat} (C : zCx α aC D A adV L xs M d p R s m args meth c) (hDD : ∀ w, va_D A (zws α aC w)) (hc : cells ≤ R.cells) (hs : slots ≤ R.slots) (hP : va_P D zcls (zws α aC w) H) (hS : va_S A s.heap H locs) (hl : zHas α lsA (zmaxl M) ls) (hw : zWI L xs w) (hd : decode (zcode M) pc = .ok (.iload k, len)) (hL : zlen (.iload k) len = true) (hz : zstep M (.iload k) pc len ls st w = .inl q) (kk : ∀ (H1 : Heap) (locs1 : List Loc) (lsB : Array Slot), va_P D zcls (zws α aC q.2.2.2) H1 → va_S A s.heap H1 locs1 → zHas α lsB (zmaxl M) q.2.1 → zWI L xs q.2.2.2 → W p l e R s m args below meth c H1 locs1 cells slots Q (F0 m q.1 lsB (q.2.2.1.map (zv α)))) : W p l e R s m args below meth c H locs cells slots Q (F0 m pc lsA (st.map (zv α))) := by
  obtain ⟨hx, hb, hml, hown, hts, hst, hlk, hfr, hlo⟩ := C
  have h1 : len = 2 := eq_of_beq hL
  subst h1
  obtain ⟨v, h2, h3⟩ := zloI_inl hz
  have h4 := hl.get h2
  cases h3
  exact lv_iload hx hb hd h4 (kk H locs lsA hP hS hl hw)
theorem zs_lload_n {k : Fin 4} (C : zCx α aC D A adV L xs M d p R s m args meth c) (hDD : ∀ w, va_D A (zws α aC w)) (hc : cells ≤ R.cells) (hs : slots ≤ R.slots) (hP : va_P D zcls (zws α aC w) H) (hS : va_S A s.heap H locs) (hl : zHas α lsA (zmaxl M) ls) (hw : zWI L xs w) (hd : decode (zcode M) pc = .ok (.lload_n k, len)) (hL : zlen (.lload_n k) len = true) (hz : zstep M (.lload_n k) pc len ls st w = .inl q) (kk : ∀ (H1 : Heap) (locs1 : List Loc) (lsB : Array Slot), va_P D zcls (zws α aC q.2.2.2) H1 → va_S A s.heap H1 locs1 → zHas α lsB (zmaxl M) q.2.1 → zWI L xs q.2.2.2 → W p l e R s m args below meth c H1 locs1 cells slots Q (F0 m q.1 lsB (q.2.2.1.map (zv α)))) : W p l e R s m args below meth c H locs cells slots Q (F0 m pc lsA (st.map (zv α))) := by
  obtain ⟨hx, hb, hml, hown, hts, hst, hlk, hfr, hlo⟩ := C
  have h1 : len = 1 := eq_of_beq hL
  subst h1
  obtain ⟨v, h2, h3⟩ := zloJ_inl hz
  have h4 := hl.get h2
  cases h3
  exact lv_lload_n hx hb hd rfl h4 (kk H locs lsA hP hS hl hw)
theorem zs_iconst {k : Int} (C : zCx α aC D A adV L xs M d p R s m args meth c) (hDD : ∀ w, va_D A (zws α aC w)) (hc : cells ≤ R.cells) (hs : slots ≤ R.slots) (hP : va_P D zcls (zws α aC w) H) (hS : va_S A s.heap H locs) (hl : zHas α lsA (zmaxl M) ls) (hw : zWI L xs w) (hd : decode (zcode M) pc = .ok (.iconst k, len)) (hL : zlen (.iconst k) len = true) (hz : zstep M (.iconst k) pc len ls st w = .inl q) (kk : ∀ (H1 : Heap) (locs1 : List Loc) (lsB : Array Slot), va_P D zcls (zws α aC q.2.2.2) H1 → va_S A s.heap H1 locs1 → zHas α lsB (zmaxl M) q.2.1 → zWI L xs q.2.2.2 → W p l e R s m args below meth c H1 locs1 cells slots Q (F0 m q.1 lsB (q.2.2.1.map (zv α)))) : W p l e R s m args below meth c H locs cells slots Q (F0 m pc lsA (st.map (zv α))) := by
  obtain ⟨hx, hb, hml, hown, hts, hst, hlk, hfr, hlo⟩ := C
  have h1 : len = 1 := eq_of_beq hL
  subst h1
  cases hz
  exact lv_iconst hx hb hd rfl (kk H locs lsA hP hS hl hw)
theorem zs_bipush {k : Int} (C : zCx α aC D A adV L xs M d p R s m args meth c) (hDD : ∀ w, va_D A (zws α aC w)) (hc : cells ≤ R.cells) (hs : slots ≤ R.slots) (hP : va_P D zcls (zws α aC w) H) (hS : va_S A s.heap H locs) (hl : zHas α lsA (zmaxl M) ls) (hw : zWI L xs w) (hd : decode (zcode M) pc = .ok (.bipush k, len)) (hL : zlen (.bipush k) len = true) (hz : zstep M (.bipush k) pc len ls st w = .inl q) (kk : ∀ (H1 : Heap) (locs1 : List Loc) (lsB : Array Slot), va_P D zcls (zws α aC q.2.2.2) H1 → va_S A s.heap H1 locs1 → zHas α lsB (zmaxl M) q.2.1 → zWI L xs q.2.2.2 → W p l e R s m args below meth c H1 locs1 cells slots Q (F0 m q.1 lsB (q.2.2.1.map (zv α)))) : W p l e R s m args below meth c H locs cells slots Q (F0 m pc lsA (st.map (zv α))) := by
  obtain ⟨hx, hb, hml, hown, hts, hst, hlk, hfr, hlo⟩ := C
  have h1 : len = 2 := eq_of_beq hL
  subst h1
  cases hz
  exact lv_bipush hx hb hd rfl (kk H locs lsA hP hS hl hw)
theorem zs_sipush {k : Int} (C : zCx α aC D A adV L xs M d p R s m args meth c) (hDD : ∀ w, va_D A (zws α aC w)) (hc : cells ≤ R.cells) (hs : slots ≤ R.slots) (hP : va_P D zcls (zws α aC w) H) (hS : va_S A s.heap H locs) (hl : zHas α lsA (zmaxl M) ls) (hw : zWI L xs w) (hd : decode (zcode M) pc = .ok (.sipush k, len)) (hL : zlen (.sipush k) len = true) (hz : zstep M (.sipush k) pc len ls st w = .inl q) (kk : ∀ (H1 : Heap) (locs1 : List Loc) (lsB : Array Slot), va_P D zcls (zws α aC q.2.2.2) H1 → va_S A s.heap H1 locs1 → zHas α lsB (zmaxl M) q.2.1 → zWI L xs q.2.2.2 → W p l e R s m args below meth c H1 locs1 cells slots Q (F0 m q.1 lsB (q.2.2.1.map (zv α)))) : W p l e R s m args below meth c H locs cells slots Q (F0 m pc lsA (st.map (zv α))) := by
  obtain ⟨hx, hb, hml, hown, hts, hst, hlk, hfr, hlo⟩ := C
  have h1 : len = 3 := eq_of_beq hL
  subst h1
  cases hz
  exact lv_sipush hx hb hd rfl (kk H locs lsA hP hS hl hw)
theorem zs_lconst {k : Fin 2} (C : zCx α aC D A adV L xs M d p R s m args meth c) (hDD : ∀ w, va_D A (zws α aC w)) (hc : cells ≤ R.cells) (hs : slots ≤ R.slots) (hP : va_P D zcls (zws α aC w) H) (hS : va_S A s.heap H locs) (hl : zHas α lsA (zmaxl M) ls) (hw : zWI L xs w) (hd : decode (zcode M) pc = .ok (.lconst k, len)) (hL : zlen (.lconst k) len = true) (hz : zstep M (.lconst k) pc len ls st w = .inl q) (kk : ∀ (H1 : Heap) (locs1 : List Loc) (lsB : Array Slot), va_P D zcls (zws α aC q.2.2.2) H1 → va_S A s.heap H1 locs1 → zHas α lsB (zmaxl M) q.2.1 → zWI L xs q.2.2.2 → W p l e R s m args below meth c H1 locs1 cells slots Q (F0 m q.1 lsB (q.2.2.1.map (zv α)))) : W p l e R s m args below meth c H locs cells slots Q (F0 m pc lsA (st.map (zv α))) := by
  obtain ⟨hx, hb, hml, hown, hts, hst, hlk, hfr, hlo⟩ := C
  have h1 : len = 1 := eq_of_beq hL
  subst h1
  cases hz
  exact lv_lconst hx hb hd rfl (kk H locs lsA hP hS hl hw)
theorem zs_null  (C : zCx α aC D A adV L xs M d p R s m args meth c) (hDD : ∀ w, va_D A (zws α aC w)) (hc : cells ≤ R.cells) (hs : slots ≤ R.slots) (hP : va_P D zcls (zws α aC w) H) (hS : va_S A s.heap H locs) (hl : zHas α lsA (zmaxl M) ls) (hw : zWI L xs w) (hd : decode (zcode M) pc = .ok (.aconst_null, len)) (hL : zlen (.aconst_null) len = true) (hz : zstep M (.aconst_null) pc len ls st w = .inl q) (kk : ∀ (H1 : Heap) (locs1 : List Loc) (lsB : Array Slot), va_P D zcls (zws α aC q.2.2.2) H1 → va_S A s.heap H1 locs1 → zHas α lsB (zmaxl M) q.2.1 → zWI L xs q.2.2.2 → W p l e R s m args below meth c H1 locs1 cells slots Q (F0 m q.1 lsB (q.2.2.1.map (zv α)))) : W p l e R s m args below meth c H locs cells slots Q (F0 m pc lsA (st.map (zv α))) := by
  obtain ⟨hx, hb, hml, hown, hts, hst, hlk, hfr, hlo⟩ := C
  have h1 : len = 1 := eq_of_beq hL
  subst h1
  cases hz
  exact lv_null hx hb hd (kk H locs lsA hP hS hl hw)
theorem zs_istore_n {k : Fin 4} (C : zCx α aC D A adV L xs M d p R s m args meth c) (hDD : ∀ w, va_D A (zws α aC w)) (hc : cells ≤ R.cells) (hs : slots ≤ R.slots) (hP : va_P D zcls (zws α aC w) H) (hS : va_S A s.heap H locs) (hl : zHas α lsA (zmaxl M) ls) (hw : zWI L xs w) (hd : decode (zcode M) pc = .ok (.istore_n k, len)) (hL : zlen (.istore_n k) len = true) (hz : zstep M (.istore_n k) pc len ls st w = .inl q) (kk : ∀ (H1 : Heap) (locs1 : List Loc) (lsB : Array Slot), va_P D zcls (zws α aC q.2.2.2) H1 → va_S A s.heap H1 locs1 → zHas α lsB (zmaxl M) q.2.1 → zWI L xs q.2.2.2 → W p l e R s m args below meth c H1 locs1 cells slots Q (F0 m q.1 lsB (q.2.2.1.map (zv α)))) : W p l e R s m args below meth c H locs cells slots Q (F0 m pc lsA (st.map (zv α))) := by
  obtain ⟨hx, hb, hml, hown, hts, hst, hlk, hfr, hlo⟩ := C
  have h1 : len = 1 := eq_of_beq hL
  subst h1
  obtain ⟨x, r, rfl, h3⟩ := zi1_inl hz
  split at h3
  · rename_i h4
    cases h3
    exact lv_istore_n hx hb hd rfl hl.1 (by rw [← hl.2]; exact h4) rfl (fun lsB hB => kk H locs lsB hP hS (hl.set hB) hw)
  · cases h3
theorem zs_istore {k : Nat} (C : zCx α aC D A adV L xs M d p R s m args meth c) (hDD : ∀ w, va_D A (zws α aC w)) (hc : cells ≤ R.cells) (hs : slots ≤ R.slots) (hP : va_P D zcls (zws α aC w) H) (hS : va_S A s.heap H locs) (hl : zHas α lsA (zmaxl M) ls) (hw : zWI L xs w) (hd : decode (zcode M) pc = .ok (.istore k, len)) (hL : zlen (.istore k) len = true) (hz : zstep M (.istore k) pc len ls st w = .inl q) (kk : ∀ (H1 : Heap) (locs1 : List Loc) (lsB : Array Slot), va_P D zcls (zws α aC q.2.2.2) H1 → va_S A s.heap H1 locs1 → zHas α lsB (zmaxl M) q.2.1 → zWI L xs q.2.2.2 → W p l e R s m args below meth c H1 locs1 cells slots Q (F0 m q.1 lsB (q.2.2.1.map (zv α)))) : W p l e R s m args below meth c H locs cells slots Q (F0 m pc lsA (st.map (zv α))) := by
  obtain ⟨hx, hb, hml, hown, hts, hst, hlk, hfr, hlo⟩ := C
  have h1 : len = 2 := eq_of_beq hL
  subst h1
  obtain ⟨x, r, rfl, h3⟩ := zi1_inl hz
  split at h3
  · rename_i h4
    cases h3
    exact lv_istore hx hb hd hl.1 (by rw [← hl.2]; exact h4) rfl (fun lsB hB => kk H locs lsB hP hS (hl.set hB) hw)
  · cases h3
theorem zs_astore_n {k : Fin 4} (C : zCx α aC D A adV L xs M d p R s m args meth c) (hDD : ∀ w, va_D A (zws α aC w)) (hc : cells ≤ R.cells) (hs : slots ≤ R.slots) (hP : va_P D zcls (zws α aC w) H) (hS : va_S A s.heap H locs) (hl : zHas α lsA (zmaxl M) ls) (hw : zWI L xs w) (hd : decode (zcode M) pc = .ok (.astore_n k, len)) (hL : zlen (.astore_n k) len = true) (hz : zstep M (.astore_n k) pc len ls st w = .inl q) (kk : ∀ (H1 : Heap) (locs1 : List Loc) (lsB : Array Slot), va_P D zcls (zws α aC q.2.2.2) H1 → va_S A s.heap H1 locs1 → zHas α lsB (zmaxl M) q.2.1 → zWI L xs q.2.2.2 → W p l e R s m args below meth c H1 locs1 cells slots Q (F0 m q.1 lsB (q.2.2.1.map (zv α)))) : W p l e R s m args below meth c H locs cells slots Q (F0 m pc lsA (st.map (zv α))) := by
  obtain ⟨hx, hb, hml, hown, hts, hst, hlk, hfr, hlo⟩ := C
  have h1 : len = 1 := eq_of_beq hL
  subst h1
  unfold zstep at hz
  dsimp only at hz
  split at hz
  · rename_i v r
    split at hz
    · rename_i h4
      cases hz
      cases v with
      | ref a => exact lv_astore_n hx hb hd rfl hl.1 (by rw [← hl.2]; exact h4.2) rfl (fun lsB hB => kk H locs lsB hP hS (hl.set hB) hw)
      | null => exact lv_astore_nN hx hb hd rfl hl.1 (by rw [← hl.2]; exact h4.2) rfl (fun lsB hB => kk H locs lsB hP hS (hl.set hB) hw)
      | _ => cases h4.1
    · cases hz
  · cases hz
theorem zs_astore {k : Nat} (C : zCx α aC D A adV L xs M d p R s m args meth c) (hDD : ∀ w, va_D A (zws α aC w)) (hc : cells ≤ R.cells) (hs : slots ≤ R.slots) (hP : va_P D zcls (zws α aC w) H) (hS : va_S A s.heap H locs) (hl : zHas α lsA (zmaxl M) ls) (hw : zWI L xs w) (hd : decode (zcode M) pc = .ok (.astore k, len)) (hL : zlen (.astore k) len = true) (hz : zstep M (.astore k) pc len ls st w = .inl q) (kk : ∀ (H1 : Heap) (locs1 : List Loc) (lsB : Array Slot), va_P D zcls (zws α aC q.2.2.2) H1 → va_S A s.heap H1 locs1 → zHas α lsB (zmaxl M) q.2.1 → zWI L xs q.2.2.2 → W p l e R s m args below meth c H1 locs1 cells slots Q (F0 m q.1 lsB (q.2.2.1.map (zv α)))) : W p l e R s m args below meth c H locs cells slots Q (F0 m pc lsA (st.map (zv α))) := by
  obtain ⟨hx, hb, hml, hown, hts, hst, hlk, hfr, hlo⟩ := C
  have h1 : len = 2 := eq_of_beq hL
  subst h1
  unfold zstep at hz
  dsimp only at hz
  split at hz
  · rename_i v r
    split at hz
    · rename_i h4
      cases hz
      cases v with
      | ref a => exact lv_astore hx hb hd hl.1 (by rw [← hl.2]; exact h4.2) rfl (fun lsB hB => kk H locs lsB hP hS (hl.set hB) hw)
      | null => exact lv_astoreN hx hb hd hl.1 (by rw [← hl.2]; exact h4.2) rfl (fun lsB hB => kk H locs lsB hP hS (hl.set hB) hw)
      | _ => cases h4.1
    · cases hz
  · cases hz
theorem zs_iinc {k : Nat} {n : Int} (C : zCx α aC D A adV L xs M d p R s m args meth c) (hDD : ∀ w, va_D A (zws α aC w)) (hc : cells ≤ R.cells) (hs : slots ≤ R.slots) (hP : va_P D zcls (zws α aC w) H) (hS : va_S A s.heap H locs) (hl : zHas α lsA (zmaxl M) ls) (hw : zWI L xs w) (hd : decode (zcode M) pc = .ok (.iinc k n, len)) (hL : zlen (.iinc k n) len = true) (hz : zstep M (.iinc k n) pc len ls st w = .inl q) (kk : ∀ (H1 : Heap) (locs1 : List Loc) (lsB : Array Slot), va_P D zcls (zws α aC q.2.2.2) H1 → va_S A s.heap H1 locs1 → zHas α lsB (zmaxl M) q.2.1 → zWI L xs q.2.2.2 → W p l e R s m args below meth c H1 locs1 cells slots Q (F0 m q.1 lsB (q.2.2.1.map (zv α)))) : W p l e R s m args below meth c H locs cells slots Q (F0 m pc lsA (st.map (zv α))) := by
  obtain ⟨hx, hb, hml, hown, hts, hst, hlk, hfr, hlo⟩ := C
  have h1 : len = 3 := eq_of_beq hL
  subst h1
  obtain ⟨v, h2, h3⟩ := zloI_inl hz
  split at h3
  · rename_i h4
    cases h3
    obtain ⟨j, hj⟩ := List.getElem?_of_mem (zlv_mem.mpr ⟨_, h2, rfl⟩ : (k, zv α (.int v)) ∈ zlv α ls)
    exact lv_iinc hx hb hd hl.1 hj rfl (by rw [← hl.2]; exact h4) rfl (fun lsB hB => kk H locs lsB hP hS (hl.set hB) hw)
  · cases h3
theorem zs_iadd  (C : zCx α aC D A adV L xs M d p R s m args meth c) (hDD : ∀ w, va_D A (zws α aC w)) (hc : cells ≤ R.cells) (hs : slots ≤ R.slots) (hP : va_P D zcls (zws α aC w) H) (hS : va_S A s.heap H locs) (hl : zHas α lsA (zmaxl M) ls) (hw : zWI L xs w) (hd : decode (zcode M) pc = .ok (.iadd, len)) (hL : zlen (.iadd) len = true) (hz : zstep M (.iadd) pc len ls st w = .inl q) (kk : ∀ (H1 : Heap) (locs1 : List Loc) (lsB : Array Slot), va_P D zcls (zws α aC q.2.2.2) H1 → va_S A s.heap H1 locs1 → zHas α lsB (zmaxl M) q.2.1 → zWI L xs q.2.2.2 → W p l e R s m args below meth c H1 locs1 cells slots Q (F0 m q.1 lsB (q.2.2.1.map (zv α)))) : W p l e R s m args below meth c H locs cells slots Q (F0 m pc lsA (st.map (zv α))) := by
  obtain ⟨hx, hb, hml, hown, hts, hst, hlk, hfr, hlo⟩ := C
  have h1 : len = 1 := eq_of_beq hL
  subst h1
  obtain ⟨x, y, r, rfl, h3⟩ := zi2_inl hz
  cases h3
  exact lv_iadd hx hb hd (kk H locs lsA hP hS hl hw)
theorem zs_isub  (C : zCx α aC D A adV L xs M d p R s m args meth c) (hDD : ∀ w, va_D A (zws α aC w)) (hc : cells ≤ R.cells) (hs : slots ≤ R.slots) (hP : va_P D zcls (zws α aC w) H) (hS : va_S A s.heap H locs) (hl : zHas α lsA (zmaxl M) ls) (hw : zWI L xs w) (hd : decode (zcode M) pc = .ok (.isub, len)) (hL : zlen (.isub) len = true) (hz : zstep M (.isub) pc len ls st w = .inl q) (kk : ∀ (H1 : Heap) (locs1 : List Loc) (lsB : Array Slot), va_P D zcls (zws α aC q.2.2.2) H1 → va_S A s.heap H1 locs1 → zHas α lsB (zmaxl M) q.2.1 → zWI L xs q.2.2.2 → W p l e R s m args below meth c H1 locs1 cells slots Q (F0 m q.1 lsB (q.2.2.1.map (zv α)))) : W p l e R s m args below meth c H locs cells slots Q (F0 m pc lsA (st.map (zv α))) := by
  obtain ⟨hx, hb, hml, hown, hts, hst, hlk, hfr, hlo⟩ := C
  have h1 : len = 1 := eq_of_beq hL
  subst h1
  obtain ⟨x, y, r, rfl, h3⟩ := zi2_inl hz
  cases h3
  exact lv_isub hx hb hd (kk H locs lsA hP hS hl hw)
theorem zs_imul  (C : zCx α aC D A adV L xs M d p R s m args meth c) (hDD : ∀ w, va_D A (zws α aC w)) (hc : cells ≤ R.cells) (hs : slots ≤ R.slots) (hP : va_P D zcls (zws α aC w) H) (hS : va_S A s.heap H locs) (hl : zHas α lsA (zmaxl M) ls) (hw : zWI L xs w) (hd : decode (zcode M) pc = .ok (.imul, len)) (hL : zlen (.imul) len = true) (hz : zstep M (.imul) pc len ls st w = .inl q) (kk : ∀ (H1 : Heap) (locs1 : List Loc) (lsB : Array Slot), va_P D zcls (zws α aC q.2.2.2) H1 → va_S A s.heap H1 locs1 → zHas α lsB (zmaxl M) q.2.1 → zWI L xs q.2.2.2 → W p l e R s m args below meth c H1 locs1 cells slots Q (F0 m q.1 lsB (q.2.2.1.map (zv α)))) : W p l e R s m args below meth c H locs cells slots Q (F0 m pc lsA (st.map (zv α))) := by
  obtain ⟨hx, hb, hml, hown, hts, hst, hlk, hfr, hlo⟩ := C
  have h1 : len = 1 := eq_of_beq hL
  subst h1
  obtain ⟨x, y, r, rfl, h3⟩ := zi2_inl hz
  cases h3
  exact lv_imul hx hb hd (kk H locs lsA hP hS hl hw)
theorem zs_iand  (C : zCx α aC D A adV L xs M d p R s m args meth c) (hDD : ∀ w, va_D A (zws α aC w)) (hc : cells ≤ R.cells) (hs : slots ≤ R.slots) (hP : va_P D zcls (zws α aC w) H) (hS : va_S A s.heap H locs) (hl : zHas α lsA (zmaxl M) ls) (hw : zWI L xs w) (hd : decode (zcode M) pc = .ok (.iand, len)) (hL : zlen (.iand) len = true) (hz : zstep M (.iand) pc len ls st w = .inl q) (kk : ∀ (H1 : Heap) (locs1 : List Loc) (lsB : Array Slot), va_P D zcls (zws α aC q.2.2.2) H1 → va_S A s.heap H1 locs1 → zHas α lsB (zmaxl M) q.2.1 → zWI L xs q.2.2.2 → W p l e R s m args below meth c H1 locs1 cells slots Q (F0 m q.1 lsB (q.2.2.1.map (zv α)))) : W p l e R s m args below meth c H locs cells slots Q (F0 m pc lsA (st.map (zv α))) := by
  obtain ⟨hx, hb, hml, hown, hts, hst, hlk, hfr, hlo⟩ := C
  have h1 : len = 1 := eq_of_beq hL
  subst h1
  obtain ⟨x, y, r, rfl, h3⟩ := zi2_inl hz
  cases h3
  exact lv_iand hx hb hd (kk H locs lsA hP hS hl hw)
theorem zs_ior  (C : zCx α aC D A adV L xs M d p R s m args meth c) (hDD : ∀ w, va_D A (zws α aC w)) (hc : cells ≤ R.cells) (hs : slots ≤ R.slots) (hP : va_P D zcls (zws α aC w) H) (hS : va_S A s.heap H locs) (hl : zHas α lsA (zmaxl M) ls) (hw : zWI L xs w) (hd : decode (zcode M) pc = .ok (.ior, len)) (hL : zlen (.ior) len = true) (hz : zstep M (.ior) pc len ls st w = .inl q) (kk : ∀ (H1 : Heap) (locs1 : List Loc) (lsB : Array Slot), va_P D zcls (zws α aC q.2.2.2) H1 → va_S A s.heap H1 locs1 → zHas α lsB (zmaxl M) q.2.1 → zWI L xs q.2.2.2 → W p l e R s m args below meth c H1 locs1 cells slots Q (F0 m q.1 lsB (q.2.2.1.map (zv α)))) : W p l e R s m args below meth c H locs cells slots Q (F0 m pc lsA (st.map (zv α))) := by
  obtain ⟨hx, hb, hml, hown, hts, hst, hlk, hfr, hlo⟩ := C
  have h1 : len = 1 := eq_of_beq hL
  subst h1
  obtain ⟨x, y, r, rfl, h3⟩ := zi2_inl hz
  cases h3
  exact lv_ior hx hb hd (kk H locs lsA hP hS hl hw)
theorem zs_ixor  (C : zCx α aC D A adV L xs M d p R s m args meth c) (hDD : ∀ w, va_D A (zws α aC w)) (hc : cells ≤ R.cells) (hs : slots ≤ R.slots) (hP : va_P D zcls (zws α aC w) H) (hS : va_S A s.heap H locs) (hl : zHas α lsA (zmaxl M) ls) (hw : zWI L xs w) (hd : decode (zcode M) pc = .ok (.ixor, len)) (hL : zlen (.ixor) len = true) (hz : zstep M (.ixor) pc len ls st w = .inl q) (kk : ∀ (H1 : Heap) (locs1 : List Loc) (lsB : Array Slot), va_P D zcls (zws α aC q.2.2.2) H1 → va_S A s.heap H1 locs1 → zHas α lsB (zmaxl M) q.2.1 → zWI L xs q.2.2.2 → W p l e R s m args below meth c H1 locs1 cells slots Q (F0 m q.1 lsB (q.2.2.1.map (zv α)))) : W p l e R s m args below meth c H locs cells slots Q (F0 m pc lsA (st.map (zv α))) := by
  obtain ⟨hx, hb, hml, hown, hts, hst, hlk, hfr, hlo⟩ := C
  have h1 : len = 1 := eq_of_beq hL
  subst h1
  obtain ⟨x, y, r, rfl, h3⟩ := zi2_inl hz
  cases h3
  exact lv_ixor hx hb hd (kk H locs lsA hP hS hl hw)
theorem zs_idiv  (C : zCx α aC D A adV L xs M d p R s m args meth c) (hDD : ∀ w, va_D A (zws α aC w)) (hc : cells ≤ R.cells) (hs : slots ≤ R.slots) (hP : va_P D zcls (zws α aC w) H) (hS : va_S A s.heap H locs) (hl : zHas α lsA (zmaxl M) ls) (hw : zWI L xs w) (hd : decode (zcode M) pc = .ok (.idiv, len)) (hL : zlen (.idiv) len = true) (hz : zstep M (.idiv) pc len ls st w = .inl q) (kk : ∀ (H1 : Heap) (locs1 : List Loc) (lsB : Array Slot), va_P D zcls (zws α aC q.2.2.2) H1 → va_S A s.heap H1 locs1 → zHas α lsB (zmaxl M) q.2.1 → zWI L xs q.2.2.2 → W p l e R s m args below meth c H1 locs1 cells slots Q (F0 m q.1 lsB (q.2.2.1.map (zv α)))) : W p l e R s m args below meth c H locs cells slots Q (F0 m pc lsA (st.map (zv α))) := by
  obtain ⟨hx, hb, hml, hown, hts, hst, hlk, hfr, hlo⟩ := C
  have h1 : len = 1 := eq_of_beq hL
  subst h1
  obtain ⟨x, y, r, rfl, h3⟩ := zi2_inl hz
  split at h3
  · cases h3
  · rename_i h4
    cases h3
    exact lv_idiv hx hb hd h4 (kk H locs lsA hP hS hl hw)
theorem zs_irem  (C : zCx α aC D A adV L xs M d p R s m args meth c) (hDD : ∀ w, va_D A (zws α aC w)) (hc : cells ≤ R.cells) (hs : slots ≤ R.slots) (hP : va_P D zcls (zws α aC w) H) (hS : va_S A s.heap H locs) (hl : zHas α lsA (zmaxl M) ls) (hw : zWI L xs w) (hd : decode (zcode M) pc = .ok (.irem, len)) (hL : zlen (.irem) len = true) (hz : zstep M (.irem) pc len ls st w = .inl q) (kk : ∀ (H1 : Heap) (locs1 : List Loc) (lsB : Array Slot), va_P D zcls (zws α aC q.2.2.2) H1 → va_S A s.heap H1 locs1 → zHas α lsB (zmaxl M) q.2.1 → zWI L xs q.2.2.2 → W p l e R s m args below meth c H1 locs1 cells slots Q (F0 m q.1 lsB (q.2.2.1.map (zv α)))) : W p l e R s m args below meth c H locs cells slots Q (F0 m pc lsA (st.map (zv α))) := by
  obtain ⟨hx, hb, hml, hown, hts, hst, hlk, hfr, hlo⟩ := C
  have h1 : len = 1 := eq_of_beq hL
  subst h1
  obtain ⟨x, y, r, rfl, h3⟩ := zi2_inl hz
  split at h3
  · cases h3
  · rename_i h4
    cases h3
    exact lv_irem hx hb hd h4 (kk H locs lsA hP hS hl hw)
theorem zs_ishl  (C : zCx α aC D A adV L xs M d p R s m args meth c) (hDD : ∀ w, va_D A (zws α aC w)) (hc : cells ≤ R.cells) (hs : slots ≤ R.slots) (hP : va_P D zcls (zws α aC w) H) (hS : va_S A s.heap H locs) (hl : zHas α lsA (zmaxl M) ls) (hw : zWI L xs w) (hd : decode (zcode M) pc = .ok (.ishl, len)) (hL : zlen (.ishl) len = true) (hz : zstep M (.ishl) pc len ls st w = .inl q) (kk : ∀ (H1 : Heap) (locs1 : List Loc) (lsB : Array Slot), va_P D zcls (zws α aC q.2.2.2) H1 → va_S A s.heap H1 locs1 → zHas α lsB (zmaxl M) q.2.1 → zWI L xs q.2.2.2 → W p l e R s m args below meth c H1 locs1 cells slots Q (F0 m q.1 lsB (q.2.2.1.map (zv α)))) : W p l e R s m args below meth c H locs cells slots Q (F0 m pc lsA (st.map (zv α))) := by
  obtain ⟨hx, hb, hml, hown, hts, hst, hlk, hfr, hlo⟩ := C
  have h1 : len = 1 := eq_of_beq hL
  subst h1
  obtain ⟨x, y, r, rfl, h3⟩ := zi2_inl hz
  cases h3
  exact lv_ishl hx hb hd (kk H locs lsA hP hS hl hw)
theorem zs_iushr  (C : zCx α aC D A adV L xs M d p R s m args meth c) (hDD : ∀ w, va_D A (zws α aC w)) (hc : cells ≤ R.cells) (hs : slots ≤ R.slots) (hP : va_P D zcls (zws α aC w) H) (hS : va_S A s.heap H locs) (hl : zHas α lsA (zmaxl M) ls) (hw : zWI L xs w) (hd : decode (zcode M) pc = .ok (.iushr, len)) (hL : zlen (.iushr) len = true) (hz : zstep M (.iushr) pc len ls st w = .inl q) (kk : ∀ (H1 : Heap) (locs1 : List Loc) (lsB : Array Slot), va_P D zcls (zws α aC q.2.2.2) H1 → va_S A s.heap H1 locs1 → zHas α lsB (zmaxl M) q.2.1 → zWI L xs q.2.2.2 → W p l e R s m args below meth c H1 locs1 cells slots Q (F0 m q.1 lsB (q.2.2.1.map (zv α)))) : W p l e R s m args below meth c H locs cells slots Q (F0 m pc lsA (st.map (zv α))) := by
  obtain ⟨hx, hb, hml, hown, hts, hst, hlk, hfr, hlo⟩ := C
  have h1 : len = 1 := eq_of_beq hL
  subst h1
  obtain ⟨x, y, r, rfl, h3⟩ := zi2_inl hz
  cases h3
  exact lv_iushr hx hb hd rfl (kk H locs lsA hP hS hl hw)
theorem zs_ineg  (C : zCx α aC D A adV L xs M d p R s m args meth c) (hDD : ∀ w, va_D A (zws α aC w)) (hc : cells ≤ R.cells) (hs : slots ≤ R.slots) (hP : va_P D zcls (zws α aC w) H) (hS : va_S A s.heap H locs) (hl : zHas α lsA (zmaxl M) ls) (hw : zWI L xs w) (hd : decode (zcode M) pc = .ok (.ineg, len)) (hL : zlen (.ineg) len = true) (hz : zstep M (.ineg) pc len ls st w = .inl q) (kk : ∀ (H1 : Heap) (locs1 : List Loc) (lsB : Array Slot), va_P D zcls (zws α aC q.2.2.2) H1 → va_S A s.heap H1 locs1 → zHas α lsB (zmaxl M) q.2.1 → zWI L xs q.2.2.2 → W p l e R s m args below meth c H1 locs1 cells slots Q (F0 m q.1 lsB (q.2.2.1.map (zv α)))) : W p l e R s m args below meth c H locs cells slots Q (F0 m pc lsA (st.map (zv α))) := by
  obtain ⟨hx, hb, hml, hown, hts, hst, hlk, hfr, hlo⟩ := C
  have h1 : len = 1 := eq_of_beq hL
  subst h1
  obtain ⟨x, r, rfl, h3⟩ := zi1_inl hz
  cases h3
  exact lv_ineg hx hb hd (kk H locs lsA hP hS hl hw)
theorem zs_i2b  (C : zCx α aC D A adV L xs M d p R s m args meth c) (hDD : ∀ w, va_D A (zws α aC w)) (hc : cells ≤ R.cells) (hs : slots ≤ R.slots) (hP : va_P D zcls (zws α aC w) H) (hS : va_S A s.heap H locs) (hl : zHas α lsA (zmaxl M) ls) (hw : zWI L xs w) (hd : decode (zcode M) pc = .ok (.i2b, len)) (hL : zlen (.i2b) len = true) (hz : zstep M (.i2b) pc len ls st w = .inl q) (kk : ∀ (H1 : Heap) (locs1 : List Loc) (lsB : Array Slot), va_P D zcls (zws α aC q.2.2.2) H1 → va_S A s.heap H1 locs1 → zHas α lsB (zmaxl M) q.2.1 → zWI L xs q.2.2.2 → W p l e R s m args below meth c H1 locs1 cells slots Q (F0 m q.1 lsB (q.2.2.1.map (zv α)))) : W p l e R s m args below meth c H locs cells slots Q (F0 m pc lsA (st.map (zv α))) := by
  obtain ⟨hx, hb, hml, hown, hts, hst, hlk, hfr, hlo⟩ := C
  have h1 : len = 1 := eq_of_beq hL
  subst h1
  obtain ⟨x, r, rfl, h3⟩ := zi1_inl hz
  cases h3
  exact lv_i2b hx hb hd rfl (kk H locs lsA hP hS hl hw)
theorem zs_i2s  (C : zCx α aC D A adV L xs M d p R s m args meth c) (hDD : ∀ w, va_D A (zws α aC w)) (hc : cells ≤ R.cells) (hs : slots ≤ R.slots) (hP : va_P D zcls (zws α aC w) H) (hS : va_S A s.heap H locs) (hl : zHas α lsA (zmaxl M) ls) (hw : zWI L xs w) (hd : decode (zcode M) pc = .ok (.i2s, len)) (hL : zlen (.i2s) len = true) (hz : zstep M (.i2s) pc len ls st w = .inl q) (kk : ∀ (H1 : Heap) (locs1 : List Loc) (lsB : Array Slot), va_P D zcls (zws α aC q.2.2.2) H1 → va_S A s.heap H1 locs1 → zHas α lsB (zmaxl M) q.2.1 → zWI L xs q.2.2.2 → W p l e R s m args below meth c H1 locs1 cells slots Q (F0 m q.1 lsB (q.2.2.1.map (zv α)))) : W p l e R s m args below meth c H locs cells slots Q (F0 m pc lsA (st.map (zv α))) := by
  obtain ⟨hx, hb, hml, hown, hts, hst, hlk, hfr, hlo⟩ := C
  have h1 : len = 1 := eq_of_beq hL
  subst h1
  obtain ⟨x, r, rfl, h3⟩ := zi1_inl hz
  cases h3
  exact lv_i2s hx hb hd rfl (kk H locs lsA hP hS hl hw)
theorem zs_i2l  (C : zCx α aC D A adV L xs M d p R s m args meth c) (hDD : ∀ w, va_D A (zws α aC w)) (hc : cells ≤ R.cells) (hs : slots ≤ R.slots) (hP : va_P D zcls (zws α aC w) H) (hS : va_S A s.heap H locs) (hl : zHas α lsA (zmaxl M) ls) (hw : zWI L xs w) (hd : decode (zcode M) pc = .ok (.i2l, len)) (hL : zlen (.i2l) len = true) (hz : zstep M (.i2l) pc len ls st w = .inl q) (kk : ∀ (H1 : Heap) (locs1 : List Loc) (lsB : Array Slot), va_P D zcls (zws α aC q.2.2.2) H1 → va_S A s.heap H1 locs1 → zHas α lsB (zmaxl M) q.2.1 → zWI L xs q.2.2.2 → W p l e R s m args below meth c H1 locs1 cells slots Q (F0 m q.1 lsB (q.2.2.1.map (zv α)))) : W p l e R s m args below meth c H locs cells slots Q (F0 m pc lsA (st.map (zv α))) := by
  obtain ⟨hx, hb, hml, hown, hts, hst, hlk, hfr, hlo⟩ := C
  have h1 : len = 1 := eq_of_beq hL
  subst h1
  obtain ⟨x, r, rfl, h3⟩ := zi1_inl hz
  cases h3
  exact lv_i2l hx hb hd rfl (kk H locs lsA hP hS hl hw)
theorem zs_l2i  (C : zCx α aC D A adV L xs M d p R s m args meth c) (hDD : ∀ w, va_D A (zws α aC w)) (hc : cells ≤ R.cells) (hs : slots ≤ R.slots) (hP : va_P D zcls (zws α aC w) H) (hS : va_S A s.heap H locs) (hl : zHas α lsA (zmaxl M) ls) (hw : zWI L xs w) (hd : decode (zcode M) pc = .ok (.l2i, len)) (hL : zlen (.l2i) len = true) (hz : zstep M (.l2i) pc len ls st w = .inl q) (kk : ∀ (H1 : Heap) (locs1 : List Loc) (lsB : Array Slot), va_P D zcls (zws α aC q.2.2.2) H1 → va_S A s.heap H1 locs1 → zHas α lsB (zmaxl M) q.2.1 → zWI L xs q.2.2.2 → W p l e R s m args below meth c H1 locs1 cells slots Q (F0 m q.1 lsB (q.2.2.1.map (zv α)))) : W p l e R s m args below meth c H locs cells slots Q (F0 m pc lsA (st.map (zv α))) := by
  obtain ⟨hx, hb, hml, hown, hts, hst, hlk, hfr, hlo⟩ := C
  have h1 : len = 1 := eq_of_beq hL
  subst h1
  obtain ⟨x, r, rfl, h3⟩ := zj1_inl hz
  cases h3
  exact lv_l2i hx hb hd rfl (kk H locs lsA hP hS hl hw)
theorem zs_land  (C : zCx α aC D A adV L xs M d p R s m args meth c) (hDD : ∀ w, va_D A (zws α aC w)) (hc : cells ≤ R.cells) (hs : slots ≤ R.slots) (hP : va_P D zcls (zws α aC w) H) (hS : va_S A s.heap H locs) (hl : zHas α lsA (zmaxl M) ls) (hw : zWI L xs w) (hd : decode (zcode M) pc = .ok (.land, len)) (hL : zlen (.land) len = true) (hz : zstep M (.land) pc len ls st w = .inl q) (kk : ∀ (H1 : Heap) (locs1 : List Loc) (lsB : Array Slot), va_P D zcls (zws α aC q.2.2.2) H1 → va_S A s.heap H1 locs1 → zHas α lsB (zmaxl M) q.2.1 → zWI L xs q.2.2.2 → W p l e R s m args below meth c H1 locs1 cells slots Q (F0 m q.1 lsB (q.2.2.1.map (zv α)))) : W p l e R s m args below meth c H locs cells slots Q (F0 m pc lsA (st.map (zv α))) := by
  obtain ⟨hx, hb, hml, hown, hts, hst, hlk, hfr, hlo⟩ := C
  have h1 : len = 1 := eq_of_beq hL
  subst h1
  obtain ⟨x, y, r, rfl, h3⟩ := zj2_inl hz
  cases h3
  exact lv_land hx hb hd (kk H locs lsA hP hS hl hw)
theorem zs_lor  (C : zCx α aC D A adV L xs M d p R s m args meth c) (hDD : ∀ w, va_D A (zws α aC w)) (hc : cells ≤ R.cells) (hs : slots ≤ R.slots) (hP : va_P D zcls (zws α aC w) H) (hS : va_S A s.heap H locs) (hl : zHas α lsA (zmaxl M) ls) (hw : zWI L xs w) (hd : decode (zcode M) pc = .ok (.lor, len)) (hL : zlen (.lor) len = true) (hz : zstep M (.lor) pc len ls st w = .inl q) (kk : ∀ (H1 : Heap) (locs1 : List Loc) (lsB : Array Slot), va_P D zcls (zws α aC q.2.2.2) H1 → va_S A s.heap H1 locs1 → zHas α lsB (zmaxl M) q.2.1 → zWI L xs q.2.2.2 → W p l e R s m args below meth c H1 locs1 cells slots Q (F0 m q.1 lsB (q.2.2.1.map (zv α)))) : W p l e R s m args below meth c H locs cells slots Q (F0 m pc lsA (st.map (zv α))) := by
  obtain ⟨hx, hb, hml, hown, hts, hst, hlk, hfr, hlo⟩ := C
  have h1 : len = 1 := eq_of_beq hL
  subst h1
  obtain ⟨x, y, r, rfl, h3⟩ := zj2_inl hz
  cases h3
  exact lv_lor hx hb hd (kk H locs lsA hP hS hl hw)
theorem zs_lcmp  (C : zCx α aC D A adV L xs M d p R s m args meth c) (hDD : ∀ w, va_D A (zws α aC w)) (hc : cells ≤ R.cells) (hs : slots ≤ R.slots) (hP : va_P D zcls (zws α aC w) H) (hS : va_S A s.heap H locs) (hl : zHas α lsA (zmaxl M) ls) (hw : zWI L xs w) (hd : decode (zcode M) pc = .ok (.lcmp, len)) (hL : zlen (.lcmp) len = true) (hz : zstep M (.lcmp) pc len ls st w = .inl q) (kk : ∀ (H1 : Heap) (locs1 : List Loc) (lsB : Array Slot), va_P D zcls (zws α aC q.2.2.2) H1 → va_S A s.heap H1 locs1 → zHas α lsB (zmaxl M) q.2.1 → zWI L xs q.2.2.2 → W p l e R s m args below meth c H1 locs1 cells slots Q (F0 m q.1 lsB (q.2.2.1.map (zv α)))) : W p l e R s m args below meth c H locs cells slots Q (F0 m pc lsA (st.map (zv α))) := by
  obtain ⟨hx, hb, hml, hown, hts, hst, hlk, hfr, hlo⟩ := C
  have h1 : len = 1 := eq_of_beq hL
  subst h1
  obtain ⟨x, y, r, rfl, h3⟩ := zj2_inl hz
  cases h3
  exact W.lcmp hx hb hd (kk H locs lsA hP hS hl hw)
theorem zs_lshl  (C : zCx α aC D A adV L xs M d p R s m args meth c) (hDD : ∀ w, va_D A (zws α aC w)) (hc : cells ≤ R.cells) (hs : slots ≤ R.slots) (hP : va_P D zcls (zws α aC w) H) (hS : va_S A s.heap H locs) (hl : zHas α lsA (zmaxl M) ls) (hw : zWI L xs w) (hd : decode (zcode M) pc = .ok (.lshl, len)) (hL : zlen (.lshl) len = true) (hz : zstep M (.lshl) pc len ls st w = .inl q) (kk : ∀ (H1 : Heap) (locs1 : List Loc) (lsB : Array Slot), va_P D zcls (zws α aC q.2.2.2) H1 → va_S A s.heap H1 locs1 → zHas α lsB (zmaxl M) q.2.1 → zWI L xs q.2.2.2 → W p l e R s m args below meth c H1 locs1 cells slots Q (F0 m q.1 lsB (q.2.2.1.map (zv α)))) : W p l e R s m args below meth c H locs cells slots Q (F0 m pc lsA (st.map (zv α))) := by
  obtain ⟨hx, hb, hml, hown, hts, hst, hlk, hfr, hlo⟩ := C
  have h1 : len = 1 := eq_of_beq hL
  subst h1
  obtain ⟨x, y, r, rfl, h3⟩ := zij_inl hz
  cases h3
  exact lv_lshl hx hb hd rfl (kk H locs lsA hP hS hl hw)
theorem zcl2_c {v : Value} (h : zcl2 v = true) : (zv α v).category = 1 := by
  cases v <;> first | rfl | cases h
theorem zs_dup  (C : zCx α aC D A adV L xs M d p R s m args meth c) (hDD : ∀ w, va_D A (zws α aC w)) (hc : cells ≤ R.cells) (hs : slots ≤ R.slots) (hP : va_P D zcls (zws α aC w) H) (hS : va_S A s.heap H locs) (hl : zHas α lsA (zmaxl M) ls) (hw : zWI L xs w) (hd : decode (zcode M) pc = .ok (.dup, len)) (hL : zlen (.dup) len = true) (hz : zstep M (.dup) pc len ls st w = .inl q) (kk : ∀ (H1 : Heap) (locs1 : List Loc) (lsB : Array Slot), va_P D zcls (zws α aC q.2.2.2) H1 → va_S A s.heap H1 locs1 → zHas α lsB (zmaxl M) q.2.1 → zWI L xs q.2.2.2 → W p l e R s m args below meth c H1 locs1 cells slots Q (F0 m q.1 lsB (q.2.2.1.map (zv α)))) : W p l e R s m args below meth c H locs cells slots Q (F0 m pc lsA (st.map (zv α))) := by
  obtain ⟨hx, hb, hml, hown, hts, hst, hlk, hfr, hlo⟩ := C
  have h1 : len = 1 := eq_of_beq hL
  subst h1
  unfold zstep at hz
  dsimp only at hz
  split at hz
  · split at hz
    · rename_i h4
      cases hz
      exact lv_dup hx hb hd (zcl2_c h4) (kk H locs lsA hP hS hl hw)
    · cases hz
  · cases hz
theorem zs_pop  (C : zCx α aC D A adV L xs M d p R s m args meth c) (hDD : ∀ w, va_D A (zws α aC w)) (hc : cells ≤ R.cells) (hs : slots ≤ R.slots) (hP : va_P D zcls (zws α aC w) H) (hS : va_S A s.heap H locs) (hl : zHas α lsA (zmaxl M) ls) (hw : zWI L xs w) (hd : decode (zcode M) pc = .ok (.pop, len)) (hL : zlen (.pop) len = true) (hz : zstep M (.pop) pc len ls st w = .inl q) (kk : ∀ (H1 : Heap) (locs1 : List Loc) (lsB : Array Slot), va_P D zcls (zws α aC q.2.2.2) H1 → va_S A s.heap H1 locs1 → zHas α lsB (zmaxl M) q.2.1 → zWI L xs q.2.2.2 → W p l e R s m args below meth c H1 locs1 cells slots Q (F0 m q.1 lsB (q.2.2.1.map (zv α)))) : W p l e R s m args below meth c H locs cells slots Q (F0 m pc lsA (st.map (zv α))) := by
  obtain ⟨hx, hb, hml, hown, hts, hst, hlk, hfr, hlo⟩ := C
  have h1 : len = 1 := eq_of_beq hL
  subst h1
  unfold zstep at hz
  dsimp only at hz
  split at hz
  · split at hz
    · rename_i h4
      cases hz
      exact lv_pop hx hb hd (zcl2_c h4) (kk H locs lsA hP hS hl hw)
    · cases hz
  · cases hz
theorem zs_dup_x1  (C : zCx α aC D A adV L xs M d p R s m args meth c) (hDD : ∀ w, va_D A (zws α aC w)) (hc : cells ≤ R.cells) (hs : slots ≤ R.slots) (hP : va_P D zcls (zws α aC w) H) (hS : va_S A s.heap H locs) (hl : zHas α lsA (zmaxl M) ls) (hw : zWI L xs w) (hd : decode (zcode M) pc = .ok (.dup_x1, len)) (hL : zlen (.dup_x1) len = true) (hz : zstep M (.dup_x1) pc len ls st w = .inl q) (kk : ∀ (H1 : Heap) (locs1 : List Loc) (lsB : Array Slot), va_P D zcls (zws α aC q.2.2.2) H1 → va_S A s.heap H1 locs1 → zHas α lsB (zmaxl M) q.2.1 → zWI L xs q.2.2.2 → W p l e R s m args below meth c H1 locs1 cells slots Q (F0 m q.1 lsB (q.2.2.1.map (zv α)))) : W p l e R s m args below meth c H locs cells slots Q (F0 m pc lsA (st.map (zv α))) := by
  obtain ⟨hx, hb, hml, hown, hts, hst, hlk, hfr, hlo⟩ := C
  have h1 : len = 1 := eq_of_beq hL
  subst h1
  unfold zstep at hz
  dsimp only at hz
  split at hz
  · split at hz
    · rename_i h4
      cases hz
      exact lv_dup_x1 hx hb hd (zcl2_c h4.1) (zcl2_c h4.2) (kk H locs lsA hP hS hl hw)
    · cases hz
  · cases hz
theorem zs_dup2  (C : zCx α aC D A adV L xs M d p R s m args meth c) (hDD : ∀ w, va_D A (zws α aC w)) (hc : cells ≤ R.cells) (hs : slots ≤ R.slots) (hP : va_P D zcls (zws α aC w) H) (hS : va_S A s.heap H locs) (hl : zHas α lsA (zmaxl M) ls) (hw : zWI L xs w) (hd : decode (zcode M) pc = .ok (.dup2, len)) (hL : zlen (.dup2) len = true) (hz : zstep M (.dup2) pc len ls st w = .inl q) (kk : ∀ (H1 : Heap) (locs1 : List Loc) (lsB : Array Slot), va_P D zcls (zws α aC q.2.2.2) H1 → va_S A s.heap H1 locs1 → zHas α lsB (zmaxl M) q.2.1 → zWI L xs q.2.2.2 → W p l e R s m args below meth c H1 locs1 cells slots Q (F0 m q.1 lsB (q.2.2.1.map (zv α)))) : W p l e R s m args below meth c H locs cells slots Q (F0 m pc lsA (st.map (zv α))) := by
  obtain ⟨hx, hb, hml, hown, hts, hst, hlk, hfr, hlo⟩ := C
  have h1 : len = 1 := eq_of_beq hL
  subst h1
  unfold zstep at hz
  dsimp only at hz
  split at hz
  · split at hz
    · rename_i h4
      cases hz
      exact lv_dup2_11 hx hb hd (zcl2_c h4.1) (zcl2_c h4.2) (kk H locs lsA hP hS hl hw)
    · cases hz
  · cases hz
theorem zs_goto {off : Int} (C : zCx α aC D A adV L xs M d p R s m args meth c) (hDD : ∀ w, va_D A (zws α aC w)) (hc : cells ≤ R.cells) (hs : slots ≤ R.slots) (hP : va_P D zcls (zws α aC w) H) (hS : va_S A s.heap H locs) (hl : zHas α lsA (zmaxl M) ls) (hw : zWI L xs w) (hd : decode (zcode M) pc = .ok (.goto off, len)) (hL : zlen (.goto off) len = true) (hz : zstep M (.goto off) pc len ls st w = .inl q) (kk : ∀ (H1 : Heap) (locs1 : List Loc) (lsB : Array Slot), va_P D zcls (zws α aC q.2.2.2) H1 → va_S A s.heap H1 locs1 → zHas α lsB (zmaxl M) q.2.1 → zWI L xs q.2.2.2 → W p l e R s m args below meth c H1 locs1 cells slots Q (F0 m q.1 lsB (q.2.2.1.map (zv α)))) : W p l e R s m args below meth c H locs cells slots Q (F0 m pc lsA (st.map (zv α))) := by
  obtain ⟨hx, hb, hml, hown, hts, hst, hlk, hfr, hlo⟩ := C
  have h1 : len = 3 := eq_of_beq hL
  subst h1
  unfold zstep at hz
  dsimp only at hz
  obtain ⟨t, h2, h3⟩ := zjp_inl hz
  cases h3
  exact lv_goto hx hb hd h2 (kk H locs lsA hP hS hl hw)
theorem zs_if {k : Jvm.ClassFile.Cond} {off : Int} (C : zCx α aC D A adV L xs M d p R s m args meth c) (hDD : ∀ w, va_D A (zws α aC w)) (hc : cells ≤ R.cells) (hs : slots ≤ R.slots) (hP : va_P D zcls (zws α aC w) H) (hS : va_S A s.heap H locs) (hl : zHas α lsA (zmaxl M) ls) (hw : zWI L xs w) (hd : decode (zcode M) pc = .ok (.ifCond k off, len)) (hL : zlen (.ifCond k off) len = true) (hz : zstep M (.ifCond k off) pc len ls st w = .inl q) (kk : ∀ (H1 : Heap) (locs1 : List Loc) (lsB : Array Slot), va_P D zcls (zws α aC q.2.2.2) H1 → va_S A s.heap H1 locs1 → zHas α lsB (zmaxl M) q.2.1 → zWI L xs q.2.2.2 → W p l e R s m args below meth c H1 locs1 cells slots Q (F0 m q.1 lsB (q.2.2.1.map (zv α)))) : W p l e R s m args below meth c H locs cells slots Q (F0 m pc lsA (st.map (zv α))) := by
  obtain ⟨hx, hb, hml, hown, hts, hst, hlk, hfr, hlo⟩ := C
  have h1 : len = 3 := eq_of_beq hL
  subst h1
  obtain ⟨x, r, rfl, h3⟩ := zi1_inl hz
  obtain ⟨t, h6, h7⟩ := zjp_inl h3
  cases k with
  | eq =>
    by_cases hP4 : zcmp .eq x 0 = true
    · rw [if_pos hP4] at h7
      cases h7
      exact lv_if_eq hx hb hd h6 (fun _ => (kk H locs lsA hP hS hl hw)) (fun hn => absurd (of_decide_eq_true hP4) hn)
    · rw [if_neg hP4] at h7
      cases h7
      exact lv_if_eq hx hb hd h6 (fun hn => absurd (decide_eq_true hn) hP4) (fun _ => (kk H locs lsA hP hS hl hw))
  | ne =>
    by_cases hP4 : zcmp .ne x 0 = true
    · rw [if_pos hP4] at h7
      cases h7
      exact lv_if_ne hx hb hd h6 (fun _ => (kk H locs lsA hP hS hl hw)) (fun hn => absurd hn (of_decide_eq_true hP4))
    · rw [if_neg hP4] at h7
      cases h7
      exact lv_if_ne hx hb hd h6 (fun hn => absurd (decide_eq_true hn) hP4) (fun _ => (kk H locs lsA hP hS hl hw))
  | lt =>
    by_cases hP4 : zcmp .lt x 0 = true
    · rw [if_pos hP4] at h7
      cases h7
      exact lv_if_lt hx hb hd h6 (fun _ => (kk H locs lsA hP hS hl hw)) (fun hn => absurd (of_decide_eq_true hP4) hn)
    · rw [if_neg hP4] at h7
      cases h7
      exact lv_if_lt hx hb hd h6 (fun hn => absurd (decide_eq_true hn) hP4) (fun _ => (kk H locs lsA hP hS hl hw))
  | ge =>
    by_cases hP4 : zcmp .ge x 0 = true
    · rw [if_pos hP4] at h7
      cases h7
      exact lv_if_ge hx hb hd h6 (fun _ => (kk H locs lsA hP hS hl hw)) (fun hn => absurd (of_decide_eq_true hP4) hn)
    · rw [if_neg hP4] at h7
      cases h7
      exact lv_if_ge hx hb hd h6 (fun hn => absurd (decide_eq_true hn) hP4) (fun _ => (kk H locs lsA hP hS hl hw))
  | gt =>
    by_cases hP4 : zcmp .gt x 0 = true
    · rw [if_pos hP4] at h7
      cases h7
      exact lv_if_gt hx hb hd h6 (fun _ => (kk H locs lsA hP hS hl hw)) (fun hn => absurd (of_decide_eq_true hP4) hn)
    · rw [if_neg hP4] at h7
      cases h7
      exact lv_if_gt hx hb hd h6 (fun hn => absurd (decide_eq_true hn) hP4) (fun _ => (kk H locs lsA hP hS hl hw))
  | le =>
    by_cases hP4 : zcmp .le x 0 = true
    · rw [if_pos hP4] at h7
      cases h7
      exact lv_if_le hx hb hd h6 (fun _ => (kk H locs lsA hP hS hl hw)) (fun hn => absurd (of_decide_eq_true hP4) hn)
    · rw [if_neg hP4] at h7
      cases h7
      exact lv_if_le hx hb hd h6 (fun hn => absurd (decide_eq_true hn) hP4) (fun _ => (kk H locs lsA hP hS hl hw))
theorem zs_icmp {k : Jvm.ClassFile.Cond} {off : Int} (C : zCx α aC D A adV L xs M d p R s m args meth c) (hDD : ∀ w, va_D A (zws α aC w)) (hc : cells ≤ R.cells) (hs : slots ≤ R.slots) (hP : va_P D zcls (zws α aC w) H) (hS : va_S A s.heap H locs) (hl : zHas α lsA (zmaxl M) ls) (hw : zWI L xs w) (hd : decode (zcode M) pc = .ok (.if_icmp k off, len)) (hL : zlen (.if_icmp k off) len = true) (hz : zstep M (.if_icmp k off) pc len ls st w = .inl q) (kk : ∀ (H1 : Heap) (locs1 : List Loc) (lsB : Array Slot), va_P D zcls (zws α aC q.2.2.2) H1 → va_S A s.heap H1 locs1 → zHas α lsB (zmaxl M) q.2.1 → zWI L xs q.2.2.2 → W p l e R s m args below meth c H1 locs1 cells slots Q (F0 m q.1 lsB (q.2.2.1.map (zv α)))) : W p l e R s m args below meth c H locs cells slots Q (F0 m pc lsA (st.map (zv α))) := by
  obtain ⟨hx, hb, hml, hown, hts, hst, hlk, hfr, hlo⟩ := C
  have h1 : len = 3 := eq_of_beq hL
  subst h1
  obtain ⟨x, y, r, rfl, h3⟩ := zi2_inl hz
  obtain ⟨t, h6, h7⟩ := zjp_inl h3
  cases k with
  | eq =>
    by_cases hP4 : zcmp .eq x y = true
    · rw [if_pos hP4] at h7
      cases h7
      exact lv_icmp_eq hx hb hd h6 (fun _ => (kk H locs lsA hP hS hl hw)) (fun hn => absurd (of_decide_eq_true hP4) hn)
    · rw [if_neg hP4] at h7
      cases h7
      exact lv_icmp_eq hx hb hd h6 (fun hn => absurd (decide_eq_true hn) hP4) (fun _ => (kk H locs lsA hP hS hl hw))
  | ne =>
    by_cases hP4 : zcmp .ne x y = true
    · rw [if_pos hP4] at h7
      cases h7
      exact lv_icmp_ne hx hb hd h6 (fun _ => (kk H locs lsA hP hS hl hw)) (fun hn => absurd hn (of_decide_eq_true hP4))
    · rw [if_neg hP4] at h7
      cases h7
      exact lv_icmp_ne hx hb hd h6 (fun hn => absurd (decide_eq_true hn) hP4) (fun _ => (kk H locs lsA hP hS hl hw))
  | lt =>
    by_cases hP4 : zcmp .lt x y = true
    · rw [if_pos hP4] at h7
      cases h7
      exact lv_icmp_lt hx hb hd h6 (fun _ => (kk H locs lsA hP hS hl hw)) (fun hn => absurd (of_decide_eq_true hP4) hn)
    · rw [if_neg hP4] at h7
      cases h7
      exact lv_icmp_lt hx hb hd h6 (fun hn => absurd (decide_eq_true hn) hP4) (fun _ => (kk H locs lsA hP hS hl hw))
  | ge =>
    by_cases hP4 : zcmp .ge x y = true
    · rw [if_pos hP4] at h7
      cases h7
      exact lv_icmp_ge hx hb hd h6 (fun _ => (kk H locs lsA hP hS hl hw)) (fun hn => absurd (of_decide_eq_true hP4) hn)
    · rw [if_neg hP4] at h7
      cases h7
      exact lv_icmp_ge hx hb hd h6 (fun hn => absurd (decide_eq_true hn) hP4) (fun _ => (kk H locs lsA hP hS hl hw))
  | gt =>
    by_cases hP4 : zcmp .gt x y = true
    · rw [if_pos hP4] at h7
      cases h7
      exact lv_icmp_gt hx hb hd h6 (fun _ => (kk H locs lsA hP hS hl hw)) (fun hn => absurd (of_decide_eq_true hP4) hn)
    · rw [if_neg hP4] at h7
      cases h7
      exact lv_icmp_gt hx hb hd h6 (fun hn => absurd (decide_eq_true hn) hP4) (fun _ => (kk H locs lsA hP hS hl hw))
  | le =>
    by_cases hP4 : zcmp .le x y = true
    · rw [if_pos hP4] at h7
      cases h7
      exact lv_icmp_le hx hb hd h6 (fun _ => (kk H locs lsA hP hS hl hw)) (fun hn => absurd (of_decide_eq_true hP4) hn)
    · rw [if_neg hP4] at h7
      cases h7
      exact lv_icmp_le hx hb hd h6 (fun hn => absurd (decide_eq_true hn) hP4) (fun _ => (kk H locs lsA hP hS hl hw))
theorem zs_ifnull {off : Int} (C : zCx α aC D A adV L xs M d p R s m args meth c) (hDD : ∀ w, va_D A (zws α aC w)) (hc : cells ≤ R.cells) (hs : slots ≤ R.slots) (hP : va_P D zcls (zws α aC w) H) (hS : va_S A s.heap H locs) (hl : zHas α lsA (zmaxl M) ls) (hw : zWI L xs w) (hd : decode (zcode M) pc = .ok (.ifnull off, len)) (hL : zlen (.ifnull off) len = true) (hz : zstep M (.ifnull off) pc len ls st w = .inl q) (kk : ∀ (H1 : Heap) (locs1 : List Loc) (lsB : Array Slot), va_P D zcls (zws α aC q.2.2.2) H1 → va_S A s.heap H1 locs1 → zHas α lsB (zmaxl M) q.2.1 → zWI L xs q.2.2.2 → W p l e R s m args below meth c H1 locs1 cells slots Q (F0 m q.1 lsB (q.2.2.1.map (zv α)))) : W p l e R s m args below meth c H locs cells slots Q (F0 m pc lsA (st.map (zv α))) := by
  obtain ⟨hx, hb, hml, hown, hts, hst, hlk, hfr, hlo⟩ := C
  have h1 : len = 3 := eq_of_beq hL
  subst h1
  unfold zstep at hz
  dsimp only at hz
  split at hz
  · obtain ⟨t, h2, h3⟩ := zjp_inl hz
    cases h3
    exact lv_ifnullN hx hb hd h2 (kk H locs lsA hP hS hl hw)
  · cases hz
    exact lv_ifnull hx hb hd (kk H locs lsA hP hS hl hw)
  · cases hz
theorem zs_ifnonnull {off : Int} (C : zCx α aC D A adV L xs M d p R s m args meth c) (hDD : ∀ w, va_D A (zws α aC w)) (hc : cells ≤ R.cells) (hs : slots ≤ R.slots) (hP : va_P D zcls (zws α aC w) H) (hS : va_S A s.heap H locs) (hl : zHas α lsA (zmaxl M) ls) (hw : zWI L xs w) (hd : decode (zcode M) pc = .ok (.ifnonnull off, len)) (hL : zlen (.ifnonnull off) len = true) (hz : zstep M (.ifnonnull off) pc len ls st w = .inl q) (kk : ∀ (H1 : Heap) (locs1 : List Loc) (lsB : Array Slot), va_P D zcls (zws α aC q.2.2.2) H1 → va_S A s.heap H1 locs1 → zHas α lsB (zmaxl M) q.2.1 → zWI L xs q.2.2.2 → W p l e R s m args below meth c H1 locs1 cells slots Q (F0 m q.1 lsB (q.2.2.1.map (zv α)))) : W p l e R s m args below meth c H locs cells slots Q (F0 m pc lsA (st.map (zv α))) := by
  obtain ⟨hx, hb, hml, hown, hts, hst, hlk, hfr, hlo⟩ := C
  have h1 : len = 3 := eq_of_beq hL
  subst h1
  unfold zstep at hz
  dsimp only at hz
  split at hz
  · cases hz
    exact lv_ifnonnullN hx hb hd (kk H locs lsA hP hS hl hw)
  · obtain ⟨t, h2, h3⟩ := zjp_inl hz
    cases h3
    exact lv_ifnonnull hx hb hd h2 (kk H locs lsA hP hS hl hw)
  · cases hz
theorem zswt_in {x : Int32} {dflt : Int} : ∀ (offs : List Int) (lo : Int), (x.toInt < lo ∨ lo + offs.length ≤ x.toInt → zswt x lo offs dflt = dflt) ∧ (¬ x.toInt < lo → x.toInt < lo + offs.length → offs[(x.toInt - lo).toNat]? = some (zswt x lo offs dflt)) := by
  intro offs
  induction offs with
  | nil =>
    intro lo
    exact ⟨fun _ => rfl, fun h1 h2 => by simp only [List.length_nil] at h2; omega⟩
  | cons a l ih =>
    intro lo
    obtain ⟨i1, i2⟩ := ih (lo + 1)
    unfold zswt
    constructor
    · intro h
      rw [List.length_cons] at h
      rw [if_neg (by omega)]
      exact i1 (by omega)
    · intro h1 h2
      rw [List.length_cons] at h2
      by_cases h : x.toInt = lo
      · rw [if_pos h, h]
        simp
      · rw [if_neg h, ← i2 (by omega) (by omega)]
        have e1 : (x.toInt - lo).toNat = (x.toInt - (lo + 1)).toNat + 1 := by omega
        rw [e1, List.getElem?_cons_succ]
theorem zswl_of {x : Int32} {dflt : Int} : ∀ (ps : List (Int × Int)), Op.lookupswitch.offset ps dflt x.toInt = zswl x ps dflt := by
  intro ps
  induction ps with
  | nil => rfl
  | cons a l ih =>
    obtain ⟨a1, a2⟩ := a
    rw [Op.lookupswitch.offset_cons, ih]
    unfold zswl
    by_cases h : x.toInt = a1
    · rw [if_pos h, if_pos h.symm]
    · rw [if_neg h, if_neg (fun z => h z.symm)]
      cases l <;> rfl
theorem zs_tsw {dflt lo hi : Int} {offs : Array Int} (C : zCx α aC D A adV L xs M d p R s m args meth c) (hDD : ∀ w, va_D A (zws α aC w)) (hc : cells ≤ R.cells) (hs : slots ≤ R.slots) (hP : va_P D zcls (zws α aC w) H) (hS : va_S A s.heap H locs) (hl : zHas α lsA (zmaxl M) ls) (hw : zWI L xs w) (hd : decode (zcode M) pc = .ok (.tableswitch dflt lo hi offs, len)) (hL : zlen (.tableswitch dflt lo hi offs) len = true) (hz : zstep M (.tableswitch dflt lo hi offs) pc len ls st w = .inl q) (kk : ∀ (H1 : Heap) (locs1 : List Loc) (lsB : Array Slot), va_P D zcls (zws α aC q.2.2.2) H1 → va_S A s.heap H1 locs1 → zHas α lsB (zmaxl M) q.2.1 → zWI L xs q.2.2.2 → W p l e R s m args below meth c H1 locs1 cells slots Q (F0 m q.1 lsB (q.2.2.1.map (zv α)))) : W p l e R s m args below meth c H locs cells slots Q (F0 m pc lsA (st.map (zv α))) := by
  obtain ⟨hx, hb, hml, hown, hts, hst, hlk, hfr, hlo⟩ := C
  obtain ⟨x, r, rfl, h3⟩ := zi1_inl hz
  split at h3
  · rename_i h4
    obtain ⟨t, h5, h6⟩ := zjp_inl h3
    cases h6
    obtain ⟨k1, k2⟩ := zswt_in (x := x) (dflt := dflt) offs.toList lo
    rw [Array.length_toList] at k1 k2
    by_cases h7 : x.toInt < lo ∨ hi < x.toInt
    · rw [k1 (by omega)] at h5
      exact lv_tableOut hx hb hd h7 h5 (kk H locs lsA hP hS hl hw)
    · refine lv_tableIn hx hb hd (fun z => h7 (Or.inl z)) (fun z => h7 (Or.inr z)) (off := zswt x lo offs.toList dflt) ?_ h5 (kk H locs lsA hP hS hl hw)
      rw [← Array.getElem?_toList]
      exact k2 (by omega) (by omega)
  · cases h3
theorem zs_lsw {dflt : Int} {ps : Array (Int × Int)} (C : zCx α aC D A adV L xs M d p R s m args meth c) (hDD : ∀ w, va_D A (zws α aC w)) (hc : cells ≤ R.cells) (hs : slots ≤ R.slots) (hP : va_P D zcls (zws α aC w) H) (hS : va_S A s.heap H locs) (hl : zHas α lsA (zmaxl M) ls) (hw : zWI L xs w) (hd : decode (zcode M) pc = .ok (.lookupswitch dflt ps, len)) (hL : zlen (.lookupswitch dflt ps) len = true) (hz : zstep M (.lookupswitch dflt ps) pc len ls st w = .inl q) (kk : ∀ (H1 : Heap) (locs1 : List Loc) (lsB : Array Slot), va_P D zcls (zws α aC q.2.2.2) H1 → va_S A s.heap H1 locs1 → zHas α lsB (zmaxl M) q.2.1 → zWI L xs q.2.2.2 → W p l e R s m args below meth c H1 locs1 cells slots Q (F0 m q.1 lsB (q.2.2.1.map (zv α)))) : W p l e R s m args below meth c H locs cells slots Q (F0 m pc lsA (st.map (zv α))) := by
  obtain ⟨hx, hb, hml, hown, hts, hst, hlk, hfr, hlo⟩ := C
  obtain ⟨x, r, rfl, h3⟩ := zi1_inl hz
  split at h3
  · rename_i h4
    obtain ⟨t, h5, h6⟩ := zjp_inl h3
    cases h6
    exact lv_lookup hx hb hd h4 (zswl_of ps.toList) h5 (kk H locs lsA hP hS hl hw)
  · cases h3
theorem zfs_get {k n : Nat} (hk : k < zNn n) {a : Nat} : (zfs α w a n)[k]? = some (zv α (zgf w a n k)) := by
  unfold zfs
  rw [List.getElem?_map, List.getElem?_range hk]
  rfl
theorem zfs_len {a n : Nat} : (zfs α w a n).length = zNn n := by
  unfold zfs
  rw [List.length_map, List.length_range]
theorem zfs_set {k n a : Nat} {x : Int32} (hk : k < zNn n) (h2 : zfk n k ≠ 2) : (zfs α w a n).set k (zv α (.int x)) = zfs α (zui w a k x) a n := by
  apply List.ext_getElem?
  intro j
  by_cases hj : j < zNn n
  · rw [zfs_get hj]
    by_cases hjk : j = k
    · subst hjk
      rw [List.getElem?_set_self (by rw [zfs_len]; exact hj)]
      unfold zgf zui
      rw [if_neg h2]
      dsimp only
      rw [if_pos ⟨rfl, rfl⟩]
    · rw [List.getElem?_set_ne (fun z => hjk z.symm), zfs_get hj]
      have e1 : (zui w a k x).1 a j = w.1 a j := if_neg (fun z => hjk z.2)
      unfold zgf
      rw [e1]
  · rw [List.getElem?_eq_none (by rw [List.length_set, zfs_len]; omega), List.getElem?_eq_none (by rw [zfs_len]; omega)]
theorem zui_ne {a b k : Nat} {x : Int32} (h : b ≠ a) : (zui w a k x).1 b = w.1 b := by
  funext j
  exact if_neg (fun z => h z.1)
theorem zul_ne {a b k : Nat} {x : Int64} (h : b ≠ a) : (zul w a k x).2 b = w.2 b := by
  funext j
  exact if_neg (fun z => h z.1)
theorem zWI_ui {a k : Nat} {x : Int32} (h : zWI L xs w) (ha : a < 80) : zWI L xs (zui w a k x) := by
  refine ⟨?_, fun j hj => ?_, h.2.2⟩
  · rw [zui_ne (by omega)]; exact h.1
  · rw [zui_ne (by omega)]; exact h.2.1 j hj
theorem zui_fn {a k : Nat} {x : Int32} : (zui w a k x).1 a = upd (w.1 a) k x := by
  funext j
  show (if a = a ∧ j = k then x else w.1 a j) = if j = k then x else w.1 a j
  by_cases h : j = k
  · rw [if_pos ⟨rfl, h⟩, if_pos h]
  · rw [if_neg (fun z => h z.2), if_neg h]
theorem zul_fn {a k : Nat} {x : Int64} : (zul w a k x).2 a = vp_updL (w.2 a) k x := by
  funext j
  show (if a = a ∧ j = k then x else w.2 a j) = if j = k then x else w.2 a j
  by_cases h : j = k
  · rw [if_pos ⟨rfl, h⟩, if_pos h]
  · rw [if_neg (fun z => h z.2), if_neg h]
theorem zs_get {i : Nat} (C : zCx α aC D A adV L xs M d p R s m args meth c) (hDD : ∀ w, va_D A (zws α aC w)) (hc : cells ≤ R.cells) (hs : slots ≤ R.slots) (hP : va_P D zcls (zws α aC w) H) (hS : va_S A s.heap H locs) (hl : zHas α lsA (zmaxl M) ls) (hw : zWI L xs w) (hd : decode (zcode M) pc = .ok (.getfield i, len)) (hL : zlen (.getfield i) len = true) (hz : zstep M (.getfield i) pc len ls st w = .inl q) (kk : ∀ (H1 : Heap) (locs1 : List Loc) (lsB : Array Slot), va_P D zcls (zws α aC q.2.2.2) H1 → va_S A s.heap H1 locs1 → zHas α lsB (zmaxl M) q.2.1 → zWI L xs q.2.2.2 → W p l e R s m args below meth c H1 locs1 cells slots Q (F0 m q.1 lsB (q.2.2.1.map (zv α)))) : W p l e R s m args below meth c H locs cells slots Q (F0 m pc lsA (st.map (zv α))) := by
  obtain ⟨hx, hb, hml, hown, hts, hst, hlk, hfr, hlo⟩ := C
  have h1 : len = 3 := eq_of_beq hL
  subst h1
  obtain ⟨a, r, rfl, h3⟩ := za1_inl hz
  split at h3
  · rename_i f hf
    split at h3
    · rename_i ht
      cases h3
      obtain ⟨e1, he, e2, e3, e4, e5⟩ := zfl_mem hf
      obtain ⟨g1, g2, g3⟩ := zw_fl e1 he
      rw [e2, e3, e4, e5] at g1
      rw [e4] at g2
      rw [e4, e5] at g3
      refine va_get hx hb hts (zin_ok _ g2) hown hst.1 hP a (by rw [zws_get (zTag_lt (a := a) (by omega)), zcell_o ht g2]) (zcls_at _ g2) f.2 g3 (hts _ (zmg g1 rfl)) (fun x hx => by rw [(zfk_ok _ g2 _ g3).1] at hx; exact hx) (v := zv α (zgf w a f.1 f.2)) ?_ hd (kk H locs lsA hP hS hl hw)
      exact zfs_get g3
    · cases h3
  · cases h3
theorem zs_put {i : Nat} (C : zCx α aC D A adV L xs M d p R s m args meth c) (hDD : ∀ w, va_D A (zws α aC w)) (hc : cells ≤ R.cells) (hs : slots ≤ R.slots) (hP : va_P D zcls (zws α aC w) H) (hS : va_S A s.heap H locs) (hl : zHas α lsA (zmaxl M) ls) (hw : zWI L xs w) (hd : decode (zcode M) pc = .ok (.putfield i, len)) (hL : zlen (.putfield i) len = true) (hz : zstep M (.putfield i) pc len ls st w = .inl q) (kk : ∀ (H1 : Heap) (locs1 : List Loc) (lsB : Array Slot), va_P D zcls (zws α aC q.2.2.2) H1 → va_S A s.heap H1 locs1 → zHas α lsB (zmaxl M) q.2.1 → zWI L xs q.2.2.2 → W p l e R s m args below meth c H1 locs1 cells slots Q (F0 m q.1 lsB (q.2.2.1.map (zv α)))) : W p l e R s m args below meth c H locs cells slots Q (F0 m pc lsA (st.map (zv α))) := by
  obtain ⟨hx, hb, hml, hown, hts, hst, hlk, hfr, hlo⟩ := C
  have h1 : len = 3 := eq_of_beq hL
  subst h1
  obtain ⟨a, x, r, rfl, h3⟩ := zia_inl hz
  split at h3
  · rename_i f hf
    split at h3
    · rename_i ht
      cases h3
      obtain ⟨ht, hk⟩ := ht
      obtain ⟨e1, he, e2, e3, e4, e5⟩ := zfl_mem hf
      obtain ⟨g1, g2, g3⟩ := zw_fl e1 he
      rw [e2, e3, e4, e5] at g1
      rw [e4] at g2
      rw [e4, e5] at g3
      have ha : a < 80 := zTag_lt (by omega)
      have hk2 : zfk f.1 f.2 ≠ 2 := by omega
      obtain ⟨j1, j2, j3⟩ := zfk_ok _ g2 _ g3
      have hfin : (zT f.1 f.2).2.2.2 = false ∧ narrow (zTy f.1 f.2) (.int x) = .int x ∧ fits (zTy f.1 f.2) (.int x) = true := by
        rcases hk with hk | ⟨hk, hv⟩
        · rw [(j2 hk).1]; exact ⟨(j2 hk).2, rfl, rfl⟩
        · rw [(j3 hk).1]; rcases hv with rfl | rfl <;> exact ⟨(j3 hk).2, rfl, rfl⟩
      have hcell : (zws α aC w)[a]? = some (α a, .inr (f.1, zfs α w a f.1)) := by rw [zws_get ha, zcell_o ht g2]
      refine va_put hx hb hts (zin_ok _ g2) (zTy f.1) (zTy_ok _ g2) (znm_ok _ g2) hown hst.1 hP (hDD w) hS a hcell (zcls_at _ g2) f.2 g3 (hts _ (zmg g1 rfl)) (fun x hx => by rw [j1] at hx; exact hx) hfin.1 (zTy_ok _ g2 _ g3) hfin.2.1 hfin.2.2 (by rw [zfs_len]; exact g3) hd (fun H1 locs1 hP1 hD1 hS1 => ?_)
      refine kk H1 locs1 lsA ?_ hS1 hl (zWI_ui hw ha)
      rw [zfs_set g3 hk2, zws_put ha (w' := zui w a f.2 x) (by rw [zcell_o ht g2]) (fun b hbn => zcell_ne (zui_ne hbn) rfl)] at hP1
      exact hP1
    · cases h3
  · cases h3
theorem zs_gets {i : Nat} (C : zCx α aC D A adV L xs M d p R s m args meth c) (hDD : ∀ w, va_D A (zws α aC w)) (hc : cells ≤ R.cells) (hs : slots ≤ R.slots) (hP : va_P D zcls (zws α aC w) H) (hS : va_S A s.heap H locs) (hl : zHas α lsA (zmaxl M) ls) (hw : zWI L xs w) (hd : decode (zcode M) pc = .ok (.getstatic i, len)) (hL : zlen (.getstatic i) len = true) (hz : zstep M (.getstatic i) pc len ls st w = .inl q) (kk : ∀ (H1 : Heap) (locs1 : List Loc) (lsB : Array Slot), va_P D zcls (zws α aC q.2.2.2) H1 → va_S A s.heap H1 locs1 → zHas α lsB (zmaxl M) q.2.1 → zWI L xs q.2.2.2 → W p l e R s m args below meth c H1 locs1 cells slots Q (F0 m q.1 lsB (q.2.2.1.map (zv α)))) : W p l e R s m args below meth c H locs cells slots Q (F0 m pc lsA (st.map (zv α))) := by
  obtain ⟨hx, hb, hml, hown, hts, hst, hlk, hfr, hlo⟩ := C
  have h1 : len = 3 := eq_of_beq hL
  subst h1
  unfold zstep at hz
  dsimp only at hz
  split at hz
  · rename_i t hf
    cases hz
    obtain ⟨e1, he, e2, e3, e4⟩ := zsl_mem hf
    obtain ⟨g1, g2⟩ := zw_sl e1 he
    rw [e2, e3, e4] at g2
    rw [e4] at g1
    have hZ := (hst.2.2.2.2.1 t g1).1
    rcases g2 with ⟨-, g2⟩ | ⟨-, g2⟩
    · exact va_gets hx hb hZ hS hown (hts _ (zmg g2 rfl)) (fun _ h => h) hd (kk H locs lsA hP hS hl hw)
    · exact va_getsN hx hb hZ hS hown (va_Nw.use rfl (hst.2.2.2.2.2.2.2.1 _ _ _ _ _ _ (zme (List.mem_of_getElem? g2)))) (fun _ h => h) hd (kk H locs lsA hP hS hl hw)
  · cases hz
theorem zs_iald  (C : zCx α aC D A adV L xs M d p R s m args meth c) (hDD : ∀ w, va_D A (zws α aC w)) (hc : cells ≤ R.cells) (hs : slots ≤ R.slots) (hP : va_P D zcls (zws α aC w) H) (hS : va_S A s.heap H locs) (hl : zHas α lsA (zmaxl M) ls) (hw : zWI L xs w) (hd : decode (zcode M) pc = .ok (.iaload, len)) (hL : zlen (.iaload) len = true) (hz : zstep M (.iaload) pc len ls st w = .inl q) (kk : ∀ (H1 : Heap) (locs1 : List Loc) (lsB : Array Slot), va_P D zcls (zws α aC q.2.2.2) H1 → va_S A s.heap H1 locs1 → zHas α lsB (zmaxl M) q.2.1 → zWI L xs q.2.2.2 → W p l e R s m args below meth c H1 locs1 cells slots Q (F0 m q.1 lsB (q.2.2.1.map (zv α)))) : W p l e R s m args below meth c H locs cells slots Q (F0 m pc lsA (st.map (zv α))) := by
  obtain ⟨hx, hb, hml, hown, hts, hst, hlk, hfr, hlo⟩ := C
  have h1 : len = 1 := eq_of_beq hL
  subst h1
  obtain ⟨a, i, r, rfl, h3⟩ := zai_inl hz
  split at h3
  · rename_i ht
    cases h3
    obtain ⟨ht, hi⟩ := ht
    have hin := zis_in hi
    rcases ht with ht | ht
    · have hcell : (zws α aC w)[a]? = some (α a, .inl (aC a, (zLen a, .inl (w.1 a)))) := by rw [zws_get (zTag_lt (by omega)), zcell_i ht]
      refine va_iald hx hb (hst.2.1 a ht) hP a 0 hcell rfl hin hd ?_
      have e1 : zld w a i.toNatClampNeg = w.1 a i.toNatClampNeg := if_neg (by rw [ht]; decide)
      rw [e1] at kk
      exact (kk H locs lsA hP hS hl hw)
    · refine va_ti hx hb (hst.2.2.2.2.1 a ht).2 hS hin rfl hd ?_
      have e1 : zld w a i.toNatClampNeg = ztab a i.toNatClampNeg := if_pos ht
      rw [e1] at kk
      exact (kk H locs lsA hP hS hl hw)
  · split at h3
    · rename_i ht
      cases h3
      obtain ⟨ht, hi⟩ := ht
      have ea := zTag_21 ht
      subst ea
      obtain ⟨hX, hbl, hbA⟩ := hst.2.2.2.2.2.1
      have h5 : 0 ≤ i.toInt ∧ i.toInt < (w.1 998 0).toInt := of_decide_eq_true hi
      rw [hw.1, nI_toInt hw.2.2] at h5
      have h6 : i.toNatClampNeg < L := by
        show i.toInt.toNat < L
        omega
      refine va_sld hx hb hX hbl hbA hS (fun z => ?_) hd ?_
      · rcases z with z | z
        · have := Int32.lt_iff_toInt_lt.mp z
          have h7 : Int32.toInt 0 = 0 := rfl
          omega
        · omega
      · rw [← hw.2.1 _ h6]
        exact (kk H locs lsA hP hS hl hw)
    · cases h3
theorem zs_lald  (C : zCx α aC D A adV L xs M d p R s m args meth c) (hDD : ∀ w, va_D A (zws α aC w)) (hc : cells ≤ R.cells) (hs : slots ≤ R.slots) (hP : va_P D zcls (zws α aC w) H) (hS : va_S A s.heap H locs) (hl : zHas α lsA (zmaxl M) ls) (hw : zWI L xs w) (hd : decode (zcode M) pc = .ok (.laload, len)) (hL : zlen (.laload) len = true) (hz : zstep M (.laload) pc len ls st w = .inl q) (kk : ∀ (H1 : Heap) (locs1 : List Loc) (lsB : Array Slot), va_P D zcls (zws α aC q.2.2.2) H1 → va_S A s.heap H1 locs1 → zHas α lsB (zmaxl M) q.2.1 → zWI L xs q.2.2.2 → W p l e R s m args below meth c H1 locs1 cells slots Q (F0 m q.1 lsB (q.2.2.1.map (zv α)))) : W p l e R s m args below meth c H locs cells slots Q (F0 m pc lsA (st.map (zv α))) := by
  obtain ⟨hx, hb, hml, hown, hts, hst, hlk, hfr, hlo⟩ := C
  have h1 : len = 1 := eq_of_beq hL
  subst h1
  obtain ⟨a, i, r, rfl, h3⟩ := zai_inl hz
  split at h3
  · rename_i ht
    cases h3
    obtain ⟨ht, hi⟩ := ht
    have hcell : (zws α aC w)[a]? = some (α a, .inl (aC a, (zLen a, .inr (.inl (w.2 a))))) := by rw [zws_get (zTag_lt (by omega)), zcell_l ht]
    exact va_lald hx hb (hst.2.2.1 a ht) hP a 0 hcell rfl (zis_in hi) hd (kk H locs lsA hP hS hl hw)
  · cases h3
theorem zs_aald  (C : zCx α aC D A adV L xs M d p R s m args meth c) (hDD : ∀ w, va_D A (zws α aC w)) (hc : cells ≤ R.cells) (hs : slots ≤ R.slots) (hP : va_P D zcls (zws α aC w) H) (hS : va_S A s.heap H locs) (hl : zHas α lsA (zmaxl M) ls) (hw : zWI L xs w) (hd : decode (zcode M) pc = .ok (.aaload, len)) (hL : zlen (.aaload) len = true) (hz : zstep M (.aaload) pc len ls st w = .inl q) (kk : ∀ (H1 : Heap) (locs1 : List Loc) (lsB : Array Slot), va_P D zcls (zws α aC q.2.2.2) H1 → va_S A s.heap H1 locs1 → zHas α lsB (zmaxl M) q.2.1 → zWI L xs q.2.2.2 → W p l e R s m args below meth c H1 locs1 cells slots Q (F0 m q.1 lsB (q.2.2.1.map (zv α)))) : W p l e R s m args below meth c H locs cells slots Q (F0 m pc lsA (st.map (zv α))) := by
  obtain ⟨hx, hb, hml, hown, hts, hst, hlk, hfr, hlo⟩ := C
  have h1 : len = 1 := eq_of_beq hL
  subst h1
  obtain ⟨a, i, r, rfl, h3⟩ := zai_inl hz
  split at h3
  · rename_i ht
    cases h3
    obtain ⟨ht, hi⟩ := ht
    have hcell : (zws α aC w)[a]? = some (α a, .inl (aC a, (zLen a, .inr (.inr (.inr (.inr (fun j => some (α (zref a j))))))))) := by rw [zws_get (zTag_lt (by omega)), zcell_q ht]
    exact va_aldq hx hb (hst.2.2.2.1 a ht) hP a 0 hcell rfl (zis_in hi) hd (kk H locs lsA hP hS hl hw)
  · cases h3
theorem zs_iast  (C : zCx α aC D A adV L xs M d p R s m args meth c) (hDD : ∀ w, va_D A (zws α aC w)) (hc : cells ≤ R.cells) (hs : slots ≤ R.slots) (hP : va_P D zcls (zws α aC w) H) (hS : va_S A s.heap H locs) (hl : zHas α lsA (zmaxl M) ls) (hw : zWI L xs w) (hd : decode (zcode M) pc = .ok (.iastore, len)) (hL : zlen (.iastore) len = true) (hz : zstep M (.iastore) pc len ls st w = .inl q) (kk : ∀ (H1 : Heap) (locs1 : List Loc) (lsB : Array Slot), va_P D zcls (zws α aC q.2.2.2) H1 → va_S A s.heap H1 locs1 → zHas α lsB (zmaxl M) q.2.1 → zWI L xs q.2.2.2 → W p l e R s m args below meth c H1 locs1 cells slots Q (F0 m q.1 lsB (q.2.2.1.map (zv α)))) : W p l e R s m args below meth c H locs cells slots Q (F0 m pc lsA (st.map (zv α))) := by
  obtain ⟨hx, hb, hml, hown, hts, hst, hlk, hfr, hlo⟩ := C
  have h1 : len = 1 := eq_of_beq hL
  subst h1
  obtain ⟨a, i, x, r, rfl, h3⟩ := zaii_inl hz
  split at h3
  · rename_i ht
    cases h3
    obtain ⟨ht, hi⟩ := ht
    have ha : a < 80 := zTag_lt (by omega)
    have hcell : (zws α aC w)[a]? = some (α a, .inl (aC a, (zLen a, .inl (w.1 a)))) := by rw [zws_get ha, zcell_i ht]
    refine va_iast hx hb (hst.2.1 a ht) hP (hDD w) hS a 0 hcell rfl (zis_in hi) hd (fun H1 locs1 hP1 hD1 hS1 => kk H1 locs1 lsA ?_ hS1 hl (zWI_ui hw ha))
    rw [zws_put ha (w' := zui w a i.toNatClampNeg x) (by rw [zcell_i ht, zui_fn]) (fun b hbn => zcell_ne (zui_ne hbn) rfl)] at hP1
    exact hP1
  · cases h3
theorem zs_last  (C : zCx α aC D A adV L xs M d p R s m args meth c) (hDD : ∀ w, va_D A (zws α aC w)) (hc : cells ≤ R.cells) (hs : slots ≤ R.slots) (hP : va_P D zcls (zws α aC w) H) (hS : va_S A s.heap H locs) (hl : zHas α lsA (zmaxl M) ls) (hw : zWI L xs w) (hd : decode (zcode M) pc = .ok (.lastore, len)) (hL : zlen (.lastore) len = true) (hz : zstep M (.lastore) pc len ls st w = .inl q) (kk : ∀ (H1 : Heap) (locs1 : List Loc) (lsB : Array Slot), va_P D zcls (zws α aC q.2.2.2) H1 → va_S A s.heap H1 locs1 → zHas α lsB (zmaxl M) q.2.1 → zWI L xs q.2.2.2 → W p l e R s m args below meth c H1 locs1 cells slots Q (F0 m q.1 lsB (q.2.2.1.map (zv α)))) : W p l e R s m args below meth c H locs cells slots Q (F0 m pc lsA (st.map (zv α))) := by
  obtain ⟨hx, hb, hml, hown, hts, hst, hlk, hfr, hlo⟩ := C
  have h1 : len = 1 := eq_of_beq hL
  subst h1
  obtain ⟨a, i, x, r, rfl, h3⟩ := zaij_inl hz
  split at h3
  · rename_i ht
    cases h3
    obtain ⟨ht, hi⟩ := ht
    have ha : a < 80 := zTag_lt (by omega)
    have hcell : (zws α aC w)[a]? = some (α a, .inl (aC a, (zLen a, .inr (.inl (w.2 a))))) := by rw [zws_get ha, zcell_l ht]
    refine va_last hx hb (hst.2.2.1 a ht) hP (hDD w) hS a 0 hcell rfl (zis_in hi) hd (fun H1 locs1 hP1 hD1 hS1 => kk H1 locs1 lsA ?_ hS1 hl hw)
    rw [zws_put ha (w := w) (w' := zul w a i.toNatClampNeg x) (by rw [zcell_l ht, zul_fn]) (fun b hbn => zcell_ne (w := w) (w' := zul w a i.toNatClampNeg x) rfl (zul_ne hbn))] at hP1
    exact hP1
  · cases h3
theorem zs_alen  (C : zCx α aC D A adV L xs M d p R s m args meth c) (hDD : ∀ w, va_D A (zws α aC w)) (hc : cells ≤ R.cells) (hs : slots ≤ R.slots) (hP : va_P D zcls (zws α aC w) H) (hS : va_S A s.heap H locs) (hl : zHas α lsA (zmaxl M) ls) (hw : zWI L xs w) (hd : decode (zcode M) pc = .ok (.arraylength, len)) (hL : zlen (.arraylength) len = true) (hz : zstep M (.arraylength) pc len ls st w = .inl q) (kk : ∀ (H1 : Heap) (locs1 : List Loc) (lsB : Array Slot), va_P D zcls (zws α aC q.2.2.2) H1 → va_S A s.heap H1 locs1 → zHas α lsB (zmaxl M) q.2.1 → zWI L xs q.2.2.2 → W p l e R s m args below meth c H1 locs1 cells slots Q (F0 m q.1 lsB (q.2.2.1.map (zv α)))) : W p l e R s m args below meth c H locs cells slots Q (F0 m pc lsA (st.map (zv α))) := by
  obtain ⟨hx, hb, hml, hown, hts, hst, hlk, hfr, hlo⟩ := C
  have h1 : len = 1 := eq_of_beq hL
  subst h1
  obtain ⟨a, r, rfl, h3⟩ := za1_inl hz
  split at h3
  · rename_i ht
    cases h3
    rcases ht with ht | ht | ht | ht
    · exact va_alen hx hb (hst.2.1 a ht) hP a 0 (x := (zLen a, .inl (w.1 a))) (by rw [zws_get (zTag_lt (by omega)), zcell_i ht]) rfl rfl hd (kk H locs lsA hP hS hl hw)
    · exact va_alen hx hb (hst.2.2.1 a ht) hP a 0 (x := (zLen a, .inr (.inl (w.2 a)))) (by rw [zws_get (zTag_lt (by omega)), zcell_l ht]) rfl rfl hd (kk H locs lsA hP hS hl hw)
    · exact va_alen hx hb (hst.2.2.2.1 a ht) hP a 0 (x := (zLen a, .inr (.inr (.inr (.inr (fun j => some (α (zref a j)))))))) (by rw [zws_get (zTag_lt (by omega)), zcell_q ht]) rfl rfl hd (kk H locs lsA hP hS hl hw)
    · exact va_tlen hx hb (hst.2.2.2.2.1 a ht).2 hS rfl hd (kk H locs lsA hP hS hl hw)
  · split at h3
    · rename_i ht
      cases h3
      have ea := zTag_21 ht
      subst ea
      obtain ⟨hX, hbl, hbA⟩ := hst.2.2.2.2.2.1
      refine va_slen hx hb hX hbl hbA hS hd ?_
      have e1 : w.1 998 0 = Int32.ofNat L := hw.1
      rw [e1] at kk
      exact (kk H locs lsA hP hS hl hw)
    · cases h3
theorem zs_ldc {i : Nat} (C : zCx α aC D A adV L xs M d p R s m args meth c) (hDD : ∀ w, va_D A (zws α aC w)) (hc : cells ≤ R.cells) (hs : slots ≤ R.slots) (hP : va_P D zcls (zws α aC w) H) (hS : va_S A s.heap H locs) (hl : zHas α lsA (zmaxl M) ls) (hw : zWI L xs w) (hd : decode (zcode M) pc = .ok (.ldc i, len)) (hL : zlen (.ldc i) len = true) (hz : zstep M (.ldc i) pc len ls st w = .inl q) (kk : ∀ (H1 : Heap) (locs1 : List Loc) (lsB : Array Slot), va_P D zcls (zws α aC q.2.2.2) H1 → va_S A s.heap H1 locs1 → zHas α lsB (zmaxl M) q.2.1 → zWI L xs q.2.2.2 → W p l e R s m args below meth c H1 locs1 cells slots Q (F0 m q.1 lsB (q.2.2.1.map (zv α)))) : W p l e R s m args below meth c H locs cells slots Q (F0 m pc lsA (st.map (zv α))) := by
  obtain ⟨hx, hb, hml, hown, hts, hst, hlk, hfr, hlo⟩ := C
  have h1 : len = 2 := eq_of_beq hL
  subst h1
  unfold zstep at hz
  dsimp only at hz
  split at hz
  · rename_i v hf
    cases hz
    rcases zw_cs _ (zcs_mem hf) with ⟨t, ht, x, hx2, rfl⟩ | ⟨h5, j, hj, hx2, hi⟩
    · dsimp only at hx2 ht
      subst hx2
      exact lv_ldc hx hb hown (hts _ (zTbl_mem (zme ht) rfl)) hd (kk H locs lsA hP hS hl hw)
    · dsimp only at h5 hx2 hi
      subst hx2
      subst hi
      rw [h5] at hown
      exact va_ldcS hx hb hown (hst.2.2.2.2.2.2.1.2.1 j hj) hd (kk H locs lsA hP hS hl hw)
  · cases hz
theorem zs_ldcw {i : Nat} (C : zCx α aC D A adV L xs M d p R s m args meth c) (hDD : ∀ w, va_D A (zws α aC w)) (hc : cells ≤ R.cells) (hs : slots ≤ R.slots) (hP : va_P D zcls (zws α aC w) H) (hS : va_S A s.heap H locs) (hl : zHas α lsA (zmaxl M) ls) (hw : zWI L xs w) (hd : decode (zcode M) pc = .ok (.ldc_w i, len)) (hL : zlen (.ldc_w i) len = true) (hz : zstep M (.ldc_w i) pc len ls st w = .inl q) (kk : ∀ (H1 : Heap) (locs1 : List Loc) (lsB : Array Slot), va_P D zcls (zws α aC q.2.2.2) H1 → va_S A s.heap H1 locs1 → zHas α lsB (zmaxl M) q.2.1 → zWI L xs q.2.2.2 → W p l e R s m args below meth c H1 locs1 cells slots Q (F0 m q.1 lsB (q.2.2.1.map (zv α)))) : W p l e R s m args below meth c H locs cells slots Q (F0 m pc lsA (st.map (zv α))) := by
  obtain ⟨hx, hb, hml, hown, hts, hst, hlk, hfr, hlo⟩ := C
  have h1 : len = 3 := eq_of_beq hL
  subst h1
  unfold zstep at hz
  dsimp only at hz
  split at hz
  · rename_i v hf
    cases hz
    rcases zw_cs _ (zcs_mem hf) with ⟨t, ht, x, hx2, rfl⟩ | ⟨h5, j, hj, hx2, hi⟩
    · dsimp only at hx2 ht
      cases hx2
      exact lv_ldcw hx hb hown (hts _ (zTbl_mem (zme ht) rfl)) hd (kk H locs lsA hP hS hl hw)
    · cases hx2
  · cases hz
theorem zs_ldc2 {i : Nat} (C : zCx α aC D A adV L xs M d p R s m args meth c) (hDD : ∀ w, va_D A (zws α aC w)) (hc : cells ≤ R.cells) (hs : slots ≤ R.slots) (hP : va_P D zcls (zws α aC w) H) (hS : va_S A s.heap H locs) (hl : zHas α lsA (zmaxl M) ls) (hw : zWI L xs w) (hd : decode (zcode M) pc = .ok (.ldc2_w i, len)) (hL : zlen (.ldc2_w i) len = true) (hz : zstep M (.ldc2_w i) pc len ls st w = .inl q) (kk : ∀ (H1 : Heap) (locs1 : List Loc) (lsB : Array Slot), va_P D zcls (zws α aC q.2.2.2) H1 → va_S A s.heap H1 locs1 → zHas α lsB (zmaxl M) q.2.1 → zWI L xs q.2.2.2 → W p l e R s m args below meth c H1 locs1 cells slots Q (F0 m q.1 lsB (q.2.2.1.map (zv α)))) : W p l e R s m args below meth c H locs cells slots Q (F0 m pc lsA (st.map (zv α))) := by
  obtain ⟨hx, hb, hml, hown, hts, hst, hlk, hfr, hlo⟩ := C
  have h1 : len = 3 := eq_of_beq hL
  subst h1
  unfold zstep at hz
  dsimp only at hz
  split at hz
  · rename_i v hf
    cases hz
    exact lv_ldc2 hx hb hown (hts _ (zTbl_mem (zme (zw_c2 _ (zc2_mem hf))) rfl)) hd (kk H locs lsA hP hS hl hw)
  · cases hz
theorem zinv_no {M : Nat} {st : List Value} (h : zinv M st = .inl q) : False := by
  unfold zinv at h
  split at h
  · split at h <;> cases h
  · cases h
theorem zinw_no {M : Nat} {st : List Value} (h : zinw M st = .inl q) : False := by
  unfold zinw at h
  split at h
  · obtain ⟨a, r, -, h⟩ := za1_inl h
    split at h <;> cases h
  · cases h
theorem zs_invs {i : Nat} (C : zCx α aC D A adV L xs M d p R s m args meth c) (hDD : ∀ w, va_D A (zws α aC w)) (hc : cells ≤ R.cells) (hs : slots ≤ R.slots) (hP : va_P D zcls (zws α aC w) H) (hS : va_S A s.heap H locs) (hl : zHas α lsA (zmaxl M) ls) (hw : zWI L xs w) (hd : decode (zcode M) pc = .ok (.invokestatic i, len)) (hL : zlen (.invokestatic i) len = true) (hz : zstep M (.invokestatic i) pc len ls st w = .inl q) (kk : ∀ (H1 : Heap) (locs1 : List Loc) (lsB : Array Slot), va_P D zcls (zws α aC q.2.2.2) H1 → va_S A s.heap H1 locs1 → zHas α lsB (zmaxl M) q.2.1 → zWI L xs q.2.2.2 → W p l e R s m args below meth c H1 locs1 cells slots Q (F0 m q.1 lsB (q.2.2.1.map (zv α)))) : W p l e R s m args below meth c H locs cells slots Q (F0 m pc lsA (st.map (zv α))) := by
  obtain ⟨hx, hb, hml, hown, hts, hst, hlk, hfr, hlo⟩ := C
  have h1 : len = 3 := eq_of_beq hL
  subst h1
  unfold zstep at hz
  dsimp only at hz
  split at hz
  · rename_i K hf
    obtain ⟨e1, he, e2, e3, e4⟩ := zml_mem hf
    obtain ⟨-, -, g1, g2, -, -⟩ := zw_ml e1 he
    rw [e2, e3, e4] at g1 g2
    split at hz
    · rename_i hK
      obtain ⟨x, y, r, rfl, h3⟩ := zi2_inl hz
      split at h3
      · rename_i hr
        cases h3
        have hr2 := zv_cats α r
        exact va_mmax hx hb (by rw [hml]; exact hl.1.1.symm) hown (hts _ (zmg (g1 hK) rfl)) (hts _ (zTbl_mem zw_mm.1 rfl)) (hts _ (zTbl_mem zw_mm.2.2.1 rfl)) (hts _ (zTbl_mem zw_mm.2.2.2.1 rfl)) (by omega) (by omega) hc hs hd (kk H locs lsA hP hS hl hw)
      · cases h3
    · split at hz
      · rename_i hK
        obtain ⟨x, y, r, rfl, h3⟩ := zi2_inl hz
        split at h3
        · rename_i hr
          cases h3
          have hr2 := zv_cats α r
          exact va_mmin hx hb (by rw [hml]; exact hl.1.1.symm) hown (hts _ (zmg (g2 hK) rfl)) (hts _ (zTbl_mem zw_mm.2.1 rfl)) (hts _ (zTbl_mem zw_mm.2.2.1 rfl)) (hts _ (zTbl_mem zw_mm.2.2.2.2 rfl)) (by omega) (by omega) hc hs hd (kk H locs lsA hP hS hl hw)
        · cases h3
      · split at hz
        · exact absurd hz zinv_no
        · cases hz
  · cases hz
theorem zs_invv {i : Nat} (C : zCx α aC D A adV L xs M d p R s m args meth c) (hDD : ∀ w, va_D A (zws α aC w)) (hc : cells ≤ R.cells) (hs : slots ≤ R.slots) (hP : va_P D zcls (zws α aC w) H) (hS : va_S A s.heap H locs) (hl : zHas α lsA (zmaxl M) ls) (hw : zWI L xs w) (hd : decode (zcode M) pc = .ok (.invokevirtual i, len)) (hL : zlen (.invokevirtual i) len = true) (hz : zstep M (.invokevirtual i) pc len ls st w = .inl q) (kk : ∀ (H1 : Heap) (locs1 : List Loc) (lsB : Array Slot), va_P D zcls (zws α aC q.2.2.2) H1 → va_S A s.heap H1 locs1 → zHas α lsB (zmaxl M) q.2.1 → zWI L xs q.2.2.2 → W p l e R s m args below meth c H1 locs1 cells slots Q (F0 m q.1 lsB (q.2.2.1.map (zv α)))) : W p l e R s m args below meth c H locs cells slots Q (F0 m pc lsA (st.map (zv α))) := by
  obtain ⟨hx, hb, hml, hown, hts, hst, hlk, hfr, hlo⟩ := C
  have h1 : len = 3 := eq_of_beq hL
  subst h1
  have C : zCx α aC D A adV L xs M d p R s m args meth c := ⟨hx, hb, hml, hown, hts, hst, hlk, hfr, hlo⟩
  unfold zstep at hz
  dsimp only at hz
  split at hz
  · rename_i K hf
    split at hz
    · rename_i hK
      subst hK
      obtain ⟨a, r, rfl, h3⟩ := za1_inl hz
      split at h3
      · rename_i hr
        cases h3
        obtain ⟨j, hj, rfl⟩ := zTag_22 hr.1
        rw [zLen_s j hj] at kk
        exact zs_slen C hc hs hS hj (by rw [zv_cats]; exact hr.2) hl.1.1 hf hd (kk H locs lsA hP hS hl hw)
      · cases h3
    · split at hz
      · rename_i hK
        subst hK
        obtain ⟨a, y, r, rfl, h3⟩ := zai_inl hz
        split at h3
        · rename_i hr
          cases h3
          obtain ⟨j, hj, rfl⟩ := zTag_22 hr.1
          have h9 := zis_in hr.2.1
          rw [zLen_s j hj] at h9
          have e9 : 2000 + j - 2000 = j := by omega
          rw [e9] at kk
          exact zs_schr C hc hs hS hj h9 (by rw [zv_cats]; exact hr.2.2) hl.1.1 hf hd (kk H locs lsA hP hS hl hw)
        · cases h3
      · split at hz
        · exact absurd hz zinw_no
        · cases hz
  · cases hz
end SND
