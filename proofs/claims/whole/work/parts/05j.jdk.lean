def jLe : List Nat := [6, 5, 7, 5, 7]
def jW (α : Nat → Nat) (adV : Nat → Nat) (A : Nat → Prop) (U : State) (H : Heap) : Prop :=
  vk_S 5 [6, 5, 7, 5, 7] zsrL (fun i => α (2000 + i)) adV A U H ∧ va_Z "java/lang/String" "COMPACT_STRINGS" "Z" (.int 1) A U H ∧ ∃ r : Value, (r = .null ∨ ∃ a, r = .ref a) ∧ va_Z "jdk/internal/util/Preconditions" "SIOOBE_FORMATTER" "Ljava/util/function/BiFunction;" r A U H
def jP (α : Nat → Nat) (adV : Nat → Nat) (A : Nat → Prop) (as : List Value) : Array Value → State → Prop := fun v U => v = as.toArray ∧ jW α adV A U U.heap
def jQ (v : Option Value) : Array Value → State → Outcome → State → Prop := fun _ st oc t => oc = .returned v ∧ t.heap = st.heap
def jRoom (f : Nat) : Room := { frames := f, cells := 0, slots := 0, locals := 40 * f }
theorem jW.moved {α : Nat → Nat} {adV : Nat → Nat} {A : Nat → Prop} {u U : State} {H : Heap} (hvm : u.vm.Alike U.vm) (h : jW α adV A u H) : jW α adV A U H := by
  obtain ⟨h1, h2, r, hn9, h3⟩ := h
  exact ⟨h1.moved hvm, h2.moved hvm, r, hn9, h3.moved hvm⟩
theorem jW.kept {α : Nat → Nat} {adV : Nat → Nat} {A : Nat → Prop} {U : State} {H H1 : Heap} (h : jW α adV A U H) (hq : ∀ a : Nat, a < H.size → ¬ A a → H1[a]? = H[a]?) : jW α adV A U H1 := by
  obtain ⟨h1, h2, r, hn9, h3⟩ := h
  exact ⟨h1.kept hq, h2.kept hq, r, hn9, h3.kept hq⟩
section JD
variable {p : Program} {l : Launch} {e : Env} {R : Room} {s : State} {m : MethodId} {args : Array Value} {below : List Frame} {meth : Method} {c : Code} {H : Heap} {locs : List Loc} {cells slots : Nat} {Q : State → Prop}
variable {α : Nat → Nat} {adV : Nat → Nat} {A : Nat → Prop} {pc : Nat} {ls : Array Slot} {st0 rest : List Value} {a : Array Value}
theorem jP_blind {as : List Value} : FrameBlind (jP α adV A as) := by
  rintro a U g mk ⟨q0, q1⟩
  exact ⟨q0, q1.moved (u := U) (U := U.calling g mk a) (Vm.Alike.refl U.vm)⟩
theorem jP_at {as : List Value} (h : jW α adV A s s.heap) (hS : va_S A s.heap H locs) : ∀ U : State, U.heap = H → s.WarmedH U.vm → jP α adV A as as.toArray U := by
  intro U hU hW
  subst hU
  exact ⟨rfl, (h.moved hW.alike).kept hS.2.1⟩
theorem j_back {v : Option Value} (hr : va_Run p l e R s m args below meth c H locs cells slots 0 0 (F0 m pc ls st0) rest (jQ v a) (fun _ => False)) (kk : W p l e R s m args below meth c H locs cells slots Q (F0 m (pc + 3) ls (v.toList ++ rest))) : W p l e R s m args below meth c H locs cells slots Q (F0 m pc ls st0) := by
  intro T hT X
  obtain ⟨v', st₀, t, T', L, h0, X', hL, e1, e2, ⟨hv, hh⟩, st⟩ := hr T hT X
  cases hv
  obtain ⟨t2, a1, b1⟩ := kk T' (by rw [e1, hh, h0]) (Stand.forget X' (fun q h => (hL q h).elim))
  exact ⟨t2, st t2 a1, b1⟩
end JD
def jy (k : Nat) : MethodName := match k with
  | 0 => ⟨"java/lang/String", "length", "()I"⟩
  | 1 => ⟨"java/lang/String", "coder", "()B"⟩
  | 2 => ⟨"java/lang/String", "charAt", "(I)C"⟩
  | 3 => ⟨"java/lang/String", "isLatin1", "()Z"⟩
  | 4 => ⟨"java/lang/StringLatin1", "charAt", "([BI)C"⟩
  | 5 => ⟨"java/lang/String", "checkIndex", "(II)V"⟩
  | _ => ⟨"jdk/internal/util/Preconditions", "checkIndex", "(IILjava/util/function/BiFunction;)I"⟩
def jws (w : Cond) : List Cond := w :: zTbl
abbrev jc0 : Cond := .code (jy 0) prog_10_method_54_code 1 (some .int)
abbrev jc1 : Cond := .code (jy 1) prog_10_method_152_code 1 (some .byte)
abbrev jc2 : Cond := .code (jy 2) prog_10_method_56_code 2 (some .char)
abbrev jc3 : Cond := .code (jy 3) prog_10_method_154_code 1 (some .boolean)
abbrev jc4 : Cond := .code (jy 4) prog_11_method_2_code 2 (some .char)
abbrev jc5 : Cond := .code (jy 5) prog_10_method_155_code 2 none
abbrev jc6 : Cond := .code (jy 6) prog_13_method_11_code 3 (some .int)
theorem jc0_in : jc0 ∈ zTbl := zmg (i := 501) (by decide +kernel) rfl
theorem jc1_in : jc1 ∈ zTbl := zmg (i := 505) (by decide +kernel) rfl
theorem jc2_in : jc2 ∈ zTbl := zmg (i := 511) (by decide +kernel) rfl
theorem jc3_in : jc3 ∈ zTbl := zmg (i := 515) (by decide +kernel) rfl
theorem jc4_in : jc4 ∈ zTbl := zmg (i := 518) (by decide +kernel) rfl
theorem jc5_in : jc5 ∈ zTbl := zmg (i := 521) (by decide +kernel) rfl
theorem jc6_in : jc6 ∈ zTbl := zmg (i := 526) (by decide +kernel) rfl
theorem jG {w : Cond} (h : w ∈ zTbl) : GoodIn zTbl (jws w) := fun u hu => by
  rcases List.mem_cons.mp hu with rfl | hu
  · exact zTbl_good _ h
  · exact zTbl_good _ hu
theorem jGt {w : Cond} (h : w ∈ zTbl) : GoodIn (jws w) zTbl := fun u hu => ⟨List.mem_cons_of_mem _ (zTbl_good u hu).1, (zTbl_good u hu).2⟩
theorem jd0_0 : decode prog_10_method_54_code 0 = .ok (.aload_n 0, 1) := by decide +kernel
theorem jd0_1 : decode prog_10_method_54_code 1 = .ok (.getfield 9, 3) := by decide +kernel
theorem jd0_4 : decode prog_10_method_54_code 4 = .ok (.arraylength, 1) := by decide +kernel
theorem jd0_5 : decode prog_10_method_54_code 5 = .ok (.aload_n 0, 1) := by decide +kernel
theorem jd0_6 : decode prog_10_method_54_code 6 = .ok (.invokevirtual 335, 3) := by decide +kernel
theorem jd0_9 : decode prog_10_method_54_code 9 = .ok (.ishr, 1) := by decide +kernel
theorem jd0_10 : decode prog_10_method_54_code 10 = .ok (.ireturn, 1) := by decide +kernel
theorem jd1_0 : decode prog_10_method_152_code 0 = .ok (.getstatic 38, 3) := by decide +kernel
theorem jd1_3 : decode prog_10_method_152_code 3 = .ok (.ifCond .eq 10, 3) := by decide +kernel
theorem jd1_6 : decode prog_10_method_152_code 6 = .ok (.aload_n 0, 1) := by decide +kernel
theorem jd1_7 : decode prog_10_method_152_code 7 = .ok (.getfield 15, 3) := by decide +kernel
theorem jd1_10 : decode prog_10_method_152_code 10 = .ok (.goto 4, 3) := by decide +kernel
theorem jd1_14 : decode prog_10_method_152_code 14 = .ok (.ireturn, 1) := by decide +kernel
theorem jd2_0 : decode prog_10_method_56_code 0 = .ok (.aload_n 0, 1) := by decide +kernel
theorem jd2_1 : decode prog_10_method_56_code 1 = .ok (.invokevirtual 492, 3) := by decide +kernel
theorem jd2_4 : decode prog_10_method_56_code 4 = .ok (.ifCond .eq 12, 3) := by decide +kernel
theorem jd2_7 : decode prog_10_method_56_code 7 = .ok (.aload_n 0, 1) := by decide +kernel
theorem jd2_8 : decode prog_10_method_56_code 8 = .ok (.getfield 9, 3) := by decide +kernel
theorem jd2_11 : decode prog_10_method_56_code 11 = .ok (.iload_n 1, 1) := by decide +kernel
theorem jd2_12 : decode prog_10_method_56_code 12 = .ok (.invokestatic 495, 3) := by decide +kernel
theorem jd2_15 : decode prog_10_method_56_code 15 = .ok (.ireturn, 1) := by decide +kernel
theorem jd3_0 : decode prog_10_method_154_code 0 = .ok (.getstatic 38, 3) := by decide +kernel
theorem jd3_3 : decode prog_10_method_154_code 3 = .ok (.ifCond .eq 14, 3) := by decide +kernel
theorem jd3_6 : decode prog_10_method_154_code 6 = .ok (.aload_n 0, 1) := by decide +kernel
theorem jd3_7 : decode prog_10_method_154_code 7 = .ok (.getfield 15, 3) := by decide +kernel
theorem jd3_10 : decode prog_10_method_154_code 10 = .ok (.ifCond .ne 7, 3) := by decide +kernel
theorem jd3_13 : decode prog_10_method_154_code 13 = .ok (.iconst 1, 1) := by decide +kernel
theorem jd3_14 : decode prog_10_method_154_code 14 = .ok (.goto 4, 3) := by decide +kernel
theorem jd3_18 : decode prog_10_method_154_code 18 = .ok (.ireturn, 1) := by decide +kernel
theorem jd4_0 : decode prog_11_method_2_code 0 = .ok (.iload_n 1, 1) := by decide +kernel
theorem jd4_1 : decode prog_11_method_2_code 1 = .ok (.aload_n 0, 1) := by decide +kernel
theorem jd4_2 : decode prog_11_method_2_code 2 = .ok (.arraylength, 1) := by decide +kernel
theorem jd4_3 : decode prog_11_method_2_code 3 = .ok (.invokestatic 9, 3) := by decide +kernel
theorem jd4_6 : decode prog_11_method_2_code 6 = .ok (.aload_n 0, 1) := by decide +kernel
theorem jd4_7 : decode prog_11_method_2_code 7 = .ok (.iload_n 1, 1) := by decide +kernel
theorem jd4_8 : decode prog_11_method_2_code 8 = .ok (.baload, 1) := by decide +kernel
theorem jd4_9 : decode prog_11_method_2_code 9 = .ok (.sipush 255, 3) := by decide +kernel
theorem jd4_12 : decode prog_11_method_2_code 12 = .ok (.iand, 1) := by decide +kernel
theorem jd4_13 : decode prog_11_method_2_code 13 = .ok (.i2c, 1) := by decide +kernel
theorem jd4_14 : decode prog_11_method_2_code 14 = .ok (.ireturn, 1) := by decide +kernel
theorem jd5_0 : decode prog_10_method_155_code 0 = .ok (.iload_n 0, 1) := by decide +kernel
theorem jd5_1 : decode prog_10_method_155_code 1 = .ok (.iload_n 1, 1) := by decide +kernel
theorem jd5_2 : decode prog_10_method_155_code 2 = .ok (.getstatic 1053, 3) := by decide +kernel
theorem jd5_5 : decode prog_10_method_155_code 5 = .ok (.invokestatic 1059, 3) := by decide +kernel
theorem jd5_8 : decode prog_10_method_155_code 8 = .ok (.pop, 1) := by decide +kernel
theorem jd5_9 : decode prog_10_method_155_code 9 = .ok (.return_, 1) := by decide +kernel
theorem jd6_0 : decode prog_13_method_11_code 0 = .ok (.iload_n 0, 1) := by decide +kernel
theorem jd6_1 : decode prog_13_method_11_code 1 = .ok (.ifCond .lt 8, 3) := by decide +kernel
theorem jd6_4 : decode prog_13_method_11_code 4 = .ok (.iload_n 0, 1) := by decide +kernel
theorem jd6_5 : decode prog_13_method_11_code 5 = .ok (.iload_n 1, 1) := by decide +kernel
theorem jd6_6 : decode prog_13_method_11_code 6 = .ok (.if_icmp .lt 10, 3) := by decide +kernel
theorem jd6_16 : decode prog_13_method_11_code 16 = .ok (.iload_n 0, 1) := by decide +kernel
theorem jd6_17 : decode prog_13_method_11_code 17 = .ok (.ireturn, 1) := by decide +kernel
section JM
variable {l : Launch} {α : Nat → Nat} {adV : Nat → Nat} {A : Nat → Prop}
theorem c_coder {j : Nat} (hj : j < 5) : Met l (jy 1) (jws jc1) (jRoom 1) (jP α adV A [.ref (α (2000 + j))]) (jQ (some (.int 0))) 0 0 (fun _ => False) := by
  refine Met.ofW (cc := prog_10_method_152_code) (maxL := 1) (ret := some .byte) (by decide) rfl ?_
  intro p e s m args below meth c s₁ B hml hv
  obtain ⟨rfl, hW⟩ := hv
  have hx := B.exec
  have hb := B.bytes
  have hr := B.returns
  have hts := atoms_spec (ws := jws jc1) B.pre
  have hown : s.vm.findClass "java/lang/String" = some m.cls := findClass_of_methodNamed B.named
  have hlocks := B.notSynchronized
  have hS : va_S A s.heap s.heap [] := va_S.rf
  have hl := lv_entry ([.ref (α (2000 + j))]) (n := 1) (Nat.le_of_ble_eq_true rfl)
  rw [lg_entry_eq]
  generalize (lg_sl ([.ref (α (2000 + j))]) ++ List.replicate (1 - (lg_sl ([.ref (α (2000 + j))])).length) Slot.unset).toArray = ls at hl ⊢
  have hl : lv_has ls 1 [(0, .ref (α (2000 + j)))] := hl
  have hWW := hW
  obtain ⟨⟨hs, -⟩, hz, r0, hr0, hz2⟩ := hW
  obtain ⟨o1, o2, o3, o4⟩ := hs j hj
  refine va_gets hx hb hz hS hown (hts (.fieldLink "java/lang/String" 38 "java/lang/String" "COMPACT_STRINGS" "Z") (List.mem_cons_of_mem _ (zmg (i := 506) (by decide +kernel) rfl))) (fun _ h => h) jd1_0 ?_
  refine lv_if_eq hx hb (tgt := 13) jd1_3 rfl (fun h => absurd h (by decide)) (fun _ => ?_)
  refine lv_aload_n hx hb jd1_6 rfl (lv_at hl 0 rfl) ?_
  refine vk_getf hx hb o2 hS hown (hts (.fieldLink "java/lang/String" 15 "java/lang/String" "coder" "B") (List.mem_cons_of_mem _ (zmg (i := 1541) (by decide +kernel) rfl))) (fun _ h => h) jd1_7 ?_
  refine lv_goto hx hb (tgt := 14) jd1_10 rfl ?_
  exact W.zret (v := 0) (ty := .byte) hx hb hr rfl (fun t ht hW => ⟨rfl, ht⟩) (fun q h => by cases h) jd1_14
theorem c_isLatin1 {j : Nat} (hj : j < 5) : Met l (jy 3) (jws jc3) (jRoom 1) (jP α adV A [.ref (α (2000 + j))]) (jQ (some (.int 1))) 0 0 (fun _ => False) := by
  refine Met.ofW (cc := prog_10_method_154_code) (maxL := 1) (ret := some .boolean) (by decide) rfl ?_
  intro p e s m args below meth c s₁ B hml hv
  obtain ⟨rfl, hW⟩ := hv
  have hx := B.exec
  have hb := B.bytes
  have hr := B.returns
  have hts := atoms_spec (ws := jws jc3) B.pre
  have hown : s.vm.findClass "java/lang/String" = some m.cls := findClass_of_methodNamed B.named
  have hlocks := B.notSynchronized
  have hS : va_S A s.heap s.heap [] := va_S.rf
  have hl := lv_entry ([.ref (α (2000 + j))]) (n := 1) (Nat.le_of_ble_eq_true rfl)
  rw [lg_entry_eq]
  generalize (lg_sl ([.ref (α (2000 + j))]) ++ List.replicate (1 - (lg_sl ([.ref (α (2000 + j))])).length) Slot.unset).toArray = ls at hl ⊢
  have hl : lv_has ls 1 [(0, .ref (α (2000 + j)))] := hl
  have hWW := hW
  obtain ⟨⟨hs, -⟩, hz, r0, hr0, hz2⟩ := hW
  obtain ⟨o1, o2, o3, o4⟩ := hs j hj
  refine va_gets hx hb hz hS hown (hts (.fieldLink "java/lang/String" 38 "java/lang/String" "COMPACT_STRINGS" "Z") (List.mem_cons_of_mem _ (zmg (i := 506) (by decide +kernel) rfl))) (fun _ h => h) jd3_0 ?_
  refine lv_if_eq hx hb (tgt := 17) jd3_3 rfl (fun h => absurd h (by decide)) (fun _ => ?_)
  refine lv_aload_n hx hb jd3_6 rfl (lv_at hl 0 rfl) ?_
  refine vk_getf hx hb o2 hS hown (hts (.fieldLink "java/lang/String" 15 "java/lang/String" "coder" "B") (List.mem_cons_of_mem _ (zmg (i := 1541) (by decide +kernel) rfl))) (fun _ h => h) jd3_7 ?_
  refine lv_if_ne hx hb (tgt := 17) jd3_10 rfl (fun h => absurd rfl h) (fun _ => ?_)
  refine lv_iconst (v := 1) hx hb jd3_13 (by decide) ?_
  refine lv_goto hx hb (tgt := 18) jd3_14 rfl ?_
  exact W.zret (v := 1) (ty := .boolean) hx hb hr rfl (fun t ht hW => ⟨rfl, ht⟩) (fun q h => by cases h) jd3_18
theorem c_preCheck {y n : Int32} {r : Value} (hr9 : r = .null ∨ ∃ a, r = .ref a) (h0 : ¬ y < 0) (h1 : y < n) : Met l (jy 6) (jws jc6) (jRoom 1) (jP α adV A [.int y, .int n, r]) (jQ (some (.int y))) 0 0 (fun _ => False) := by
  refine Met.ofW (cc := prog_13_method_11_code) (maxL := 3) (ret := some .int) (by decide) rfl ?_
  intro p e s m args below meth c s₁ B hml hv
  obtain ⟨rfl, hW⟩ := hv
  have hx := B.exec
  have hb := B.bytes
  have hr := B.returns
  have hts := atoms_spec (ws := jws jc6) B.pre
  have hown : s.vm.findClass "jdk/internal/util/Preconditions" = some m.cls := findClass_of_methodNamed B.named
  have hlocks := B.notSynchronized
  have hS : va_S A s.heap s.heap [] := va_S.rf
  rcases hr9 with rfl | ⟨a, rfl⟩
  · have hl := lv_entry ([.int y, .int n, .null]) (n := 3) (Nat.le_of_ble_eq_true rfl)
    rw [lg_entry_eq]
    generalize (lg_sl ([.int y, .int n, .null]) ++ List.replicate (3 - (lg_sl ([.int y, .int n, .null])).length) Slot.unset).toArray = ls at hl ⊢
    have hl : lv_has ls 3 [(0, .int y), (1, .int n), (2, .null)] := hl
    have hWW := hW
    obtain ⟨⟨hs, -⟩, hz, r0, hr0, hz2⟩ := hW
    refine lv_iload_n hx hb jd6_0 rfl (lv_at hl 0 rfl) ?_
    refine lv_if_lt hx hb (tgt := 9) jd6_1 rfl (fun h => absurd h h0) (fun _ => ?_)
    refine lv_iload_n hx hb jd6_4 rfl (lv_at hl 0 rfl) ?_
    refine lv_iload_n hx hb jd6_5 rfl (lv_at hl 1 rfl) ?_
    refine lv_icmp_lt hx hb (tgt := 16) jd6_6 rfl (fun _ => ?_) (fun h => absurd h1 h)
    refine lv_iload_n hx hb jd6_16 rfl (lv_at hl 0 rfl) ?_
    exact W.iret (v := y) hx hb hr (fun t ht hW => ⟨rfl, ht⟩) (fun q h => by cases h) jd6_17
  · have hl := lv_entry ([.int y, .int n, .ref a]) (n := 3) (Nat.le_of_ble_eq_true rfl)
    rw [lg_entry_eq]
    generalize (lg_sl ([.int y, .int n, .ref a]) ++ List.replicate (3 - (lg_sl ([.int y, .int n, .ref a])).length) Slot.unset).toArray = ls at hl ⊢
    have hl : lv_has ls 3 [(0, .int y), (1, .int n), (2, .ref a)] := hl
    have hWW := hW
    obtain ⟨⟨hs, -⟩, hz, r0, hr0, hz2⟩ := hW
    refine lv_iload_n hx hb jd6_0 rfl (lv_at hl 0 rfl) ?_
    refine lv_if_lt hx hb (tgt := 9) jd6_1 rfl (fun h => absurd h h0) (fun _ => ?_)
    refine lv_iload_n hx hb jd6_4 rfl (lv_at hl 0 rfl) ?_
    refine lv_iload_n hx hb jd6_5 rfl (lv_at hl 1 rfl) ?_
    refine lv_icmp_lt hx hb (tgt := 16) jd6_6 rfl (fun _ => ?_) (fun h => absurd h1 h)
    refine lv_iload_n hx hb jd6_16 rfl (lv_at hl 0 rfl) ?_
    exact W.iret (v := y) hx hb hr (fun t ht hW => ⟨rfl, ht⟩) (fun q h => by cases h) jd6_17
theorem c_check {y n : Int32} (h0 : ¬ y < 0) (h1 : y < n) : Met l (jy 5) (jws jc5) (jRoom 2) (jP α adV A [.int y, .int n]) (jQ none) 0 0 (fun _ => False) := by
  refine Met.ofW (cc := prog_10_method_155_code) (maxL := 2) (ret := none) (by decide) rfl ?_
  intro p e s m args below meth c s₁ B hml hv
  obtain ⟨rfl, hW⟩ := hv
  have hx := B.exec
  have hb := B.bytes
  have hr := B.returns
  have hts := atoms_spec (ws := jws jc5) B.pre
  have hown : s.vm.findClass "java/lang/String" = some m.cls := findClass_of_methodNamed B.named
  have hlocks := B.notSynchronized
  have hS : va_S A s.heap s.heap [] := va_S.rf
  have hl := lv_entry ([.int y, .int n]) (n := 2) (Nat.le_of_ble_eq_true rfl)
  rw [lg_entry_eq]
  generalize (lg_sl ([.int y, .int n]) ++ List.replicate (2 - (lg_sl ([.int y, .int n])).length) Slot.unset).toArray = ls at hl ⊢
  have hl : lv_has ls 2 [(0, .int y), (1, .int n)] := hl
  have hWW := hW
  obtain ⟨⟨hs, -⟩, hz, r0, hr0, hz2⟩ := hW
  refine lv_iload_n hx hb jd5_0 rfl (lv_at hl 0 rfl) ?_
  refine lv_iload_n hx hb jd5_1 rfl (lv_at hl 1 rfl) ?_
  refine va_gets hx hb hz2 hS hown (hts (.fieldLink "java/lang/String" 1053 "jdk/internal/util/Preconditions" "SIOOBE_FORMATTER" "Ljava/util/function/BiFunction;") (List.mem_cons_of_mem _ (zmg (i := 522) (by decide +kernel) rfl))) (fun _ h => h) jd5_2 ?_
  refine j_back (va_runS (As := [.int y, .int n, r0]) (rest := []) ⟨hx, hb, hml, hown, hts⟩ (c_preCheck (α := α) (adV := adV) (A := A) (r := r0) hr0 h0 h1) ⟨callB_of 3 hts (fun w hw => ⟨List.mem_cons_of_mem _ (jG jc6_in w hw).1, (jG jc6_in w hw).2⟩) rfl rfl rfl (hts (.initialized (jy 6).cls) (List.mem_cons_of_mem _ (zmg (i := 11) (by decide +kernel) rfl))) (hts (.methodLink "java/lang/String" 1059 (jy 6)) (List.mem_cons_of_mem _ (zmg (i := 524) (by decide +kernel) rfl))) (by decide +kernel) (by decide), hts (.static (jy 6)) (List.mem_cons_of_mem _ (zmg (i := 525) (by decide +kernel) rfl))⟩ ⟨jP_blind, jP_at hWW hS⟩ rfl rfl hl.1 rfl (lv_room (Nat.le_of_ble_eq_true rfl)) jd5_5 ⟨Nat.le_refl _, Nat.le_refl _⟩) ?_
  refine lv_pop hx hb jd5_8 rfl ?_
  exact W.vret hx hb hr (fun t ht hW => ⟨rfl, ht⟩) (fun q h => by cases h) jd5_9
theorem jchr : ∀ j : Fin 5, ∀ k : Fin 8, k.1 < ([6, 5, 7, 5, 7] : List Nat).getD j.1 0 → (((zsrL.getD j.1 []).getD k.1 0 &&& 255).toUInt32 % 65536).toInt32 = (zsrL.getD j.1 []).getD k.1 0 := by decide +kernel
theorem jchr2 : ∀ j : Fin 5, ∀ k : Fin 8, k.1 < ([6, 5, 7, 5, 7] : List Nat).getD j.1 0 → narrow .char (.int ((zsrL.getD j.1 []).getD k.1 0)) = .int ((zsrL.getD j.1 []).getD k.1 0) := by decide +kernel
theorem jlen8 : ∀ j : Fin 5, ([6, 5, 7, 5, 7] : List Nat).getD j.1 0 < 8 := by decide
theorem jin {y : Int32} {N : Nat} (hN : N < 100) (hy : vp_in y N) : ¬ y < 0 ∧ y < Int32.ofNat N ∧ y.toNatClampNeg < N := by
  have h0 : ¬ y < 0 := fun h => hy (Or.inl h)
  have h1 : ¬ N ≤ y.toNatClampNeg := fun h => hy (Or.inr h)
  refine ⟨h0, ?_, by omega⟩
  have e : y = Int32.ofNat y.toNatClampNeg := by
    obtain ⟨k, hk, rfl⟩ := nI_of h0
    show nI k = nI _
    rw [nI_clamp hk]
  rw [e]
  exact nI_lt (by omega) (by omega)
theorem c_l1char {j : Nat} {y : Int32} (hj : j < 5) (hy : vp_in y (([6, 5, 7, 5, 7] : List Nat).getD j 0)) : Met l (jy 4) (jws jc4) (jRoom 3) (jP α adV A [.ref (adV j), .int y]) (jQ (some (.int ((zsrL.getD j []).getD y.toNatClampNeg 0)))) 0 0 (fun _ => False) := by
  refine Met.ofW (cc := prog_11_method_2_code) (maxL := 2) (ret := some .char) (by decide) rfl ?_
  intro p e s m args below meth c s₁ B hml hv
  obtain ⟨rfl, hW⟩ := hv
  have hx := B.exec
  have hb := B.bytes
  have hr := B.returns
  have hts := atoms_spec (ws := jws jc4) B.pre
  have hown : s.vm.findClass "java/lang/StringLatin1" = some m.cls := findClass_of_methodNamed B.named
  have hlocks := B.notSynchronized
  have hS : va_S A s.heap s.heap [] := va_S.rf
  have hl := lv_entry ([.ref (adV j), .int y]) (n := 2) (Nat.le_of_ble_eq_true rfl)
  rw [lg_entry_eq]
  generalize (lg_sl ([.ref (adV j), .int y]) ++ List.replicate (2 - (lg_sl ([.ref (adV j), .int y])).length) Slot.unset).toArray = ls at hl ⊢
  have hl : lv_has ls 2 [(0, .ref (adV j)), (1, .int y)] := hl
  have hWW := hW
  obtain ⟨⟨hs, -⟩, hz, r0, hr0, hz2⟩ := hW
  obtain ⟨o1, o2, o3, o4⟩ := hs j hj
  have h8 := jlen8 ⟨j, hj⟩
  dsimp only at h8
  obtain ⟨y0, y1, y2⟩ := jin (by omega) hy
  refine lv_iload_n hx hb jd4_0 rfl (lv_at hl 1 rfl) ?_
  refine lv_aload_n hx hb jd4_1 rfl (lv_at hl 0 rfl) ?_
  refine va_tlen hx hb o4 hS rfl jd4_2 ?_
  refine j_back (va_runS (As := [.int y, .int (Int32.ofNat (([6, 5, 7, 5, 7] : List Nat).getD j 0))]) (rest := []) ⟨hx, hb, hml, hown, hts⟩ (c_check (α := α) (adV := adV) (A := A) y0 y1) ⟨callB_of 2 hts (fun w hw => ⟨List.mem_cons_of_mem _ (jG jc5_in w hw).1, (jG jc5_in w hw).2⟩) rfl rfl rfl (hts (.initialized (jy 5).cls) (List.mem_cons_of_mem _ (zmg (i := 9) (by decide +kernel) rfl))) (hts (.methodLink "java/lang/StringLatin1" 9 (jy 5)) (List.mem_cons_of_mem _ (zmg (i := 519) (by decide +kernel) rfl))) (by decide +kernel) (by decide), hts (.static (jy 5)) (List.mem_cons_of_mem _ (zmg (i := 520) (by decide +kernel) rfl))⟩ ⟨jP_blind, jP_at hWW hS⟩ rfl rfl hl.1 rfl (lv_room (Nat.le_of_ble_eq_true rfl)) jd4_3 ⟨Nat.le_refl _, Nat.le_refl _⟩) ?_
  refine lv_aload_n hx hb jd4_6 rfl (lv_at hl 0 rfl) ?_
  refine lv_iload_n hx hb jd4_7 rfl (lv_at hl 1 rfl) ?_
  refine va_tb hx hb o4 hS hy rfl jd4_8 ?_
  refine lv_sipush (v := 255) hx hb jd4_9 (by decide) ?_
  refine lv_iand hx hb jd4_12 ?_
  refine lv_i2c hx hb jd4_13 (jchr ⟨j, hj⟩ ⟨y.toNatClampNeg, by omega⟩ y2) ?_
  exact W.zret (ty := .char) hx hb hr (jchr2 ⟨j, hj⟩ ⟨y.toNatClampNeg, by omega⟩ y2) (fun t ht hW => ⟨rfl, ht⟩) (fun q h => by cases h) jd4_14
theorem c_charAt {j : Nat} {y : Int32} (hj : j < 5) (hy : vp_in y (([6, 5, 7, 5, 7] : List Nat).getD j 0)) : Met l (jy 2) (jws jc2) (jRoom 4) (jP α adV A [.ref (α (2000 + j)), .int y]) (jQ (some (.int ((zsrL.getD j []).getD y.toNatClampNeg 0)))) 0 0 (fun _ => False) := by
  refine Met.ofW (cc := prog_10_method_56_code) (maxL := 2) (ret := some .char) (by decide) rfl ?_
  intro p e s m args below meth c s₁ B hml hv
  obtain ⟨rfl, hW⟩ := hv
  have hx := B.exec
  have hb := B.bytes
  have hr := B.returns
  have hts := atoms_spec (ws := jws jc2) B.pre
  have hown : s.vm.findClass "java/lang/String" = some m.cls := findClass_of_methodNamed B.named
  have hlocks := B.notSynchronized
  have hS : va_S A s.heap s.heap [] := va_S.rf
  have hl := lv_entry ([.ref (α (2000 + j)), .int y]) (n := 2) (Nat.le_of_ble_eq_true rfl)
  rw [lg_entry_eq]
  generalize (lg_sl ([.ref (α (2000 + j)), .int y]) ++ List.replicate (2 - (lg_sl ([.ref (α (2000 + j)), .int y])).length) Slot.unset).toArray = ls at hl ⊢
  have hl : lv_has ls 2 [(0, .ref (α (2000 + j))), (1, .int y)] := hl
  have hWW := hW
  obtain ⟨⟨hs, -⟩, hz, r0, hr0, hz2⟩ := hW
  obtain ⟨o1, o2, o3, o4⟩ := hs j hj
  have h8 := jlen8 ⟨j, hj⟩
  dsimp only at h8
  obtain ⟨y0, y1, y2⟩ := jin (by omega) hy
  refine lv_aload_n hx hb jd2_0 rfl (lv_at hl 0 rfl) ?_
  refine j_back (va_runV (C := "java/lang/String") (b := α (2000 + j)) (As := []) (rest := []) ⟨hx, hb, hml, hown, hts⟩ (c_isLatin1 (α := α) (adV := adV) (A := A) hj) ⟨callB_of 0 hts (fun w hw => ⟨List.mem_cons_of_mem _ (jG jc3_in w hw).1, (jG jc3_in w hw).2⟩) rfl rfl rfl (hts (.initialized (jy 3).cls) (List.mem_cons_of_mem _ (zmg (i := 9) (by decide +kernel) rfl))) (hts (.methodLink "java/lang/String" 492 (jy 3)) (List.mem_cons_of_mem _ (zmg (i := 512) (by decide +kernel) rfl))) (by decide +kernel) (by decide), hts (.instanceMethod (jy 3)) (List.mem_cons_of_mem _ (zmg (i := 513) (by decide +kernel) rfl)), hts (.selects "java/lang/String" (jy 3) (jy 3)) (List.mem_cons_of_mem _ (zmg (i := 514) (by decide +kernel) rfl))⟩ ⟨jP_blind, vk_recv (i := j) (adK := fun i => α (2000 + i)) hWW.1 hj hS, jP_at hWW hS⟩ rfl rfl hl.1 rfl (lv_room (Nat.le_of_ble_eq_true rfl)) jd2_1 ⟨Nat.le_refl _, Nat.le_refl _⟩) ?_
  refine lv_if_eq hx hb (tgt := 16) jd2_4 rfl (fun h => absurd h (by decide)) (fun _ => ?_)
  refine lv_aload_n hx hb jd2_7 rfl (lv_at hl 0 rfl) ?_
  refine vk_getf hx hb o3 hS hown (hts (.fieldLink "java/lang/String" 9 "java/lang/String" "value" "[B") (List.mem_cons_of_mem _ (zmg (i := 1540) (by decide +kernel) rfl))) (fun _ h => h) jd2_8 ?_
  refine lv_iload_n hx hb jd2_11 rfl (lv_at hl 1 rfl) ?_
  refine j_back (va_runS (As := [.ref (adV j), .int y]) (rest := []) ⟨hx, hb, hml, hown, hts⟩ (c_l1char (α := α) (adV := adV) (A := A) hj hy) ⟨callB_of 2 hts (fun w hw => ⟨List.mem_cons_of_mem _ (jG jc4_in w hw).1, (jG jc4_in w hw).2⟩) rfl rfl rfl (hts (.initialized (jy 4).cls) (List.mem_cons_of_mem _ (zmg (i := 10) (by decide +kernel) rfl))) (hts (.methodLink "java/lang/String" 495 (jy 4)) (List.mem_cons_of_mem _ (zmg (i := 516) (by decide +kernel) rfl))) (by decide +kernel) (by decide), hts (.static (jy 4)) (List.mem_cons_of_mem _ (zmg (i := 517) (by decide +kernel) rfl))⟩ ⟨jP_blind, jP_at hWW hS⟩ rfl rfl hl.1 rfl (lv_room (Nat.le_of_ble_eq_true rfl)) jd2_12 ⟨Nat.le_refl _, Nat.le_refl _⟩) ?_
  exact W.zret (ty := .char) hx hb hr (jchr2 ⟨j, hj⟩ ⟨y.toNatClampNeg, by omega⟩ y2) (fun t ht hW => ⟨rfl, ht⟩) (fun q h => by cases h) jd2_15
theorem c_length {j : Nat} (hj : j < 5) : Met l (jy 0) (jws jc0) (jRoom 2) (jP α adV A [.ref (α (2000 + j))]) (jQ (some (.int (Int32.ofNat (([6, 5, 7, 5, 7] : List Nat).getD j 0))))) 0 0 (fun _ => False) := by
  refine Met.ofW (cc := prog_10_method_54_code) (maxL := 1) (ret := some .int) (by decide) rfl ?_
  intro p e s m args below meth c s₁ B hml hv
  obtain ⟨rfl, hW⟩ := hv
  have hx := B.exec
  have hb := B.bytes
  have hr := B.returns
  have hts := atoms_spec (ws := jws jc0) B.pre
  have hown : s.vm.findClass "java/lang/String" = some m.cls := findClass_of_methodNamed B.named
  have hlocks := B.notSynchronized
  have hS : va_S A s.heap s.heap [] := va_S.rf
  have hl := lv_entry ([.ref (α (2000 + j))]) (n := 1) (Nat.le_of_ble_eq_true rfl)
  rw [lg_entry_eq]
  generalize (lg_sl ([.ref (α (2000 + j))]) ++ List.replicate (1 - (lg_sl ([.ref (α (2000 + j))])).length) Slot.unset).toArray = ls at hl ⊢
  have hl : lv_has ls 1 [(0, .ref (α (2000 + j)))] := hl
  have hWW := hW
  obtain ⟨⟨hs, -⟩, hz, r0, hr0, hz2⟩ := hW
  obtain ⟨o1, o2, o3, o4⟩ := hs j hj
  refine lv_aload_n hx hb jd0_0 rfl (lv_at hl 0 rfl) ?_
  refine vk_getf hx hb o3 hS hown (hts (.fieldLink "java/lang/String" 9 "java/lang/String" "value" "[B") (List.mem_cons_of_mem _ (zmg (i := 1540) (by decide +kernel) rfl))) (fun _ h => h) jd0_1 ?_
  refine va_tlen hx hb o4 hS rfl jd0_4 ?_
  refine lv_aload_n hx hb jd0_5 rfl (lv_at hl 0 rfl) ?_
  refine j_back (va_runV (C := "java/lang/String") (b := α (2000 + j)) (As := []) (rest := [.int (Int32.ofNat (([6, 5, 7, 5, 7] : List Nat).getD j 0))]) ⟨hx, hb, hml, hown, hts⟩ (c_coder (α := α) (adV := adV) (A := A) hj) ⟨callB_of 0 hts (fun w hw => ⟨List.mem_cons_of_mem _ (jG jc1_in w hw).1, (jG jc1_in w hw).2⟩) rfl rfl rfl (hts (.initialized (jy 1).cls) (List.mem_cons_of_mem _ (zmg (i := 9) (by decide +kernel) rfl))) (hts (.methodLink "java/lang/String" 335 (jy 1)) (List.mem_cons_of_mem _ (zmg (i := 502) (by decide +kernel) rfl))) (by decide +kernel) (by decide), hts (.instanceMethod (jy 1)) (List.mem_cons_of_mem _ (zmg (i := 503) (by decide +kernel) rfl)), hts (.selects "java/lang/String" (jy 1) (jy 1)) (List.mem_cons_of_mem _ (zmg (i := 504) (by decide +kernel) rfl))⟩ ⟨jP_blind, vk_recv (i := j) (adK := fun i => α (2000 + i)) hWW.1 hj hS, jP_at hWW hS⟩ rfl rfl hl.1 rfl (lv_room (Nat.le_of_ble_eq_true rfl)) jd0_6 ⟨Nat.le_refl _, Nat.le_refl _⟩) ?_
  refine lv_ishr hx hb jd0_9 ?_
  have es : ∀ j : Fin 5, Int32.ofNat (([6, 5, 7, 5, 7] : List Nat).getD j.1 0) >>> ((0 : Int32) &&& 31) = Int32.ofNat (([6, 5, 7, 5, 7] : List Nat).getD j.1 0) := by decide +kernel
  refine W.eq (g2 := F0 m 10 ls [.int (Int32.ofNat (([6, 5, 7, 5, 7] : List Nat).getD j 0))]) ?_ ?_
  · exact congrArg (fun x => F0 m 10 ls [.int x]) (es ⟨j, hj⟩)
  exact W.iret hx hb hr (fun t ht hW => ⟨rfl, ht⟩) (fun q h => by cases h) jd0_10
end JM
