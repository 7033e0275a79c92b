section KF
theorem kd5_0 : decode prog_1_method_1_code 0 = .ok (.aload_n 0, 1) := by decide +kernel
theorem kd5_1 : decode prog_1_method_1_code 1 = .ok (.invokespecial 1, 3) := by decide +kernel
theorem kd5_4 : decode prog_1_method_1_code 4 = .ok (.aload_n 0, 1) := by decide +kernel
theorem kd5_5 : decode prog_1_method_1_code 5 = .ok (.new 7, 3) := by decide +kernel
theorem kd5_8 : decode prog_1_method_1_code 8 = .ok (.dup, 1) := by decide +kernel
theorem kd5_9 : decode prog_1_method_1_code 9 = .ok (.invokespecial 9, 3) := by decide +kernel
theorem kd5_12 : decode prog_1_method_1_code 12 = .ok (.putfield 10, 3) := by decide +kernel
theorem kd5_15 : decode prog_1_method_1_code 15 = .ok (.aload_n 0, 1) := by decide +kernel
theorem kd5_16 : decode prog_1_method_1_code 16 = .ok (.new 7, 3) := by decide +kernel
theorem kd5_19 : decode prog_1_method_1_code 19 = .ok (.dup, 1) := by decide +kernel
theorem kd5_20 : decode prog_1_method_1_code 20 = .ok (.invokespecial 9, 3) := by decide +kernel
theorem kd5_23 : decode prog_1_method_1_code 23 = .ok (.putfield 16, 3) := by decide +kernel
theorem kd5_26 : decode prog_1_method_1_code 26 = .ok (.aload_n 0, 1) := by decide +kernel
theorem kd5_27 : decode prog_1_method_1_code 27 = .ok (.new 19, 3) := by decide +kernel
theorem kd5_30 : decode prog_1_method_1_code 30 = .ok (.dup, 1) := by decide +kernel
theorem kd5_31 : decode prog_1_method_1_code 31 = .ok (.invokespecial 21, 3) := by decide +kernel
theorem kd5_34 : decode prog_1_method_1_code 34 = .ok (.putfield 22, 3) := by decide +kernel
theorem kd5_37 : decode prog_1_method_1_code 37 = .ok (.aload_n 0, 1) := by decide +kernel
theorem kd5_38 : decode prog_1_method_1_code 38 = .ok (.new 26, 3) := by decide +kernel
theorem kd5_41 : decode prog_1_method_1_code 41 = .ok (.dup, 1) := by decide +kernel
theorem kd5_42 : decode prog_1_method_1_code 42 = .ok (.invokespecial 28, 3) := by decide +kernel
theorem kd5_45 : decode prog_1_method_1_code 45 = .ok (.putfield 29, 3) := by decide +kernel
theorem kd5_48 : decode prog_1_method_1_code 48 = .ok (.aload_n 0, 1) := by decide +kernel
theorem kd5_49 : decode prog_1_method_1_code 49 = .ok (.new 33, 3) := by decide +kernel
theorem kd5_52 : decode prog_1_method_1_code 52 = .ok (.dup, 1) := by decide +kernel
theorem kd5_53 : decode prog_1_method_1_code 53 = .ok (.invokespecial 35, 3) := by decide +kernel
theorem kd5_56 : decode prog_1_method_1_code 56 = .ok (.putfield 36, 3) := by decide +kernel
theorem kd5_59 : decode prog_1_method_1_code 59 = .ok (.aload_n 0, 1) := by decide +kernel
theorem kd5_60 : decode prog_1_method_1_code 60 = .ok (.bipush 8, 2) := by decide +kernel
theorem kd5_62 : decode prog_1_method_1_code 62 = .ok (.anewarray 40, 3) := by decide +kernel
theorem kd5_65 : decode prog_1_method_1_code 65 = .ok (.putfield 42, 3) := by decide +kernel
theorem kd5_68 : decode prog_1_method_1_code 68 = .ok (.aload_n 0, 1) := by decide +kernel
theorem kd5_69 : decode prog_1_method_1_code 69 = .ok (.bipush 8, 2) := by decide +kernel
theorem kd5_71 : decode prog_1_method_1_code 71 = .ok (.newarray .int, 2) := by decide +kernel
theorem kd5_73 : decode prog_1_method_1_code 73 = .ok (.putfield 46, 3) := by decide +kernel
theorem kd5_76 : decode prog_1_method_1_code 76 = .ok (.aload_n 0, 1) := by decide +kernel
theorem kd5_77 : decode prog_1_method_1_code 77 = .ok (.iconst 0, 1) := by decide +kernel
theorem kd5_78 : decode prog_1_method_1_code 78 = .ok (.putfield 50, 3) := by decide +kernel
theorem kd5_81 : decode prog_1_method_1_code 81 = .ok (.iconst 0, 1) := by decide +kernel
theorem kd5_82 : decode prog_1_method_1_code 82 = .ok (.istore_n 1, 1) := by decide +kernel
theorem kd5_83 : decode prog_1_method_1_code 83 = .ok (.iload_n 1, 1) := by decide +kernel
theorem kd5_84 : decode prog_1_method_1_code 84 = .ok (.bipush 8, 2) := by decide +kernel
theorem kd5_86 : decode prog_1_method_1_code 86 = .ok (.if_icmp .ge 31, 3) := by decide +kernel
theorem kd5_89 : decode prog_1_method_1_code 89 = .ok (.iload_n 1, 1) := by decide +kernel
theorem kd5_90 : decode prog_1_method_1_code 90 = .ok (.aload_n 0, 1) := by decide +kernel
theorem kd5_91 : decode prog_1_method_1_code 91 = .ok (.getfield 42, 3) := by decide +kernel
theorem kd5_94 : decode prog_1_method_1_code 94 = .ok (.arraylength, 1) := by decide +kernel
theorem kd5_95 : decode prog_1_method_1_code 95 = .ok (.if_icmp .ge 22, 3) := by decide +kernel
theorem kd5_98 : decode prog_1_method_1_code 98 = .ok (.aload_n 0, 1) := by decide +kernel
theorem kd5_99 : decode prog_1_method_1_code 99 = .ok (.getfield 42, 3) := by decide +kernel
theorem kd5_102 : decode prog_1_method_1_code 102 = .ok (.iload_n 1, 1) := by decide +kernel
theorem kd5_103 : decode prog_1_method_1_code 103 = .ok (.new 40, 3) := by decide +kernel
theorem kd5_106 : decode prog_1_method_1_code 106 = .ok (.dup, 1) := by decide +kernel
theorem kd5_107 : decode prog_1_method_1_code 107 = .ok (.invokespecial 54, 3) := by decide +kernel
theorem kd5_110 : decode prog_1_method_1_code 110 = .ok (.aastore, 1) := by decide +kernel
theorem kd5_111 : decode prog_1_method_1_code 111 = .ok (.iinc 1 1, 3) := by decide +kernel
theorem kd5_114 : decode prog_1_method_1_code 114 = .ok (.goto (-31), 3) := by decide +kernel
theorem kd5_117 : decode prog_1_method_1_code 117 = .ok (.return_, 1) := by decide +kernel
def kwT (h : Nat) (u : kS × (Nat → Nat) × (Nat → kS) × (Nat → kS × Nat × kS)) : va_W := (((((([(h, .inr (5, [.ref (u.2.1 0), .ref (u.2.1 1), .ref (u.2.1 2), .ref (u.2.1 20), .ref (u.2.1 21), .ref (u.1.1 0), .ref (u.1.1 1), .int 0]))] ++ kwH (u.2.1 0) (u.2.2.1 0)) ++ kwH (u.2.1 1) (u.2.2.1 1)) ++ kwA (u.2.1 2) (u.2.2.1 2)) ++ kwO (u.2.1 20) (u.2.2.2 0)) ++ kwR (u.2.1 21) (u.2.2.2 1)) ++ (((u.1.1 0), .inl ((u.1.2 0), 8, .inr (.inr (.inr (.inr (va_up (va_up (va_up (va_up (va_up (va_up (va_up (va_up (fun _ => none) 0 (some (u.2.1 3))) 1 (some (u.2.1 4))) 2 (some (u.2.1 5))) 3 (some (u.2.1 6))) 4 (some (u.2.1 7))) 5 (some (u.2.1 8))) 6 (some (u.2.1 9))) 7 (some (u.2.1 10)))))))) :: ((u.1.1 1), .inl ((u.1.2 1), 8, .inl (fun _ => 0))) :: (((((((([] ++ kwS (u.2.1 3) (u.2.2.1 3)) ++ kwS (u.2.1 4) (u.2.2.1 4)) ++ kwS (u.2.1 5) (u.2.2.1 5)) ++ kwS (u.2.1 6) (u.2.2.1 6)) ++ kwS (u.2.1 7) (u.2.2.1 7)) ++ kwS (u.2.1 8) (u.2.2.1 8)) ++ kwS (u.2.1 9) (u.2.2.1 9)) ++ kwS (u.2.1 10) (u.2.2.1 10))))
def ktT (u : kS × (Nat → Nat) × (Nat → kS) × (Nat → kS × Nat × kS)) : List (ClassId × FieldType) := ((((((((((((((ktH (u.2.2.1 0)) ++ ktH (u.2.2.1 1)) ++ ktA (u.2.2.1 2)) ++ ktO (u.2.2.2 0)) ++ ktR (u.2.2.2 1)) ++ [((u.1.2 0), .object "TablesAndTips$Shelf"), ((u.1.2 1), .int)]) ++ ktS (u.2.2.1 3)) ++ ktS (u.2.2.1 4)) ++ ktS (u.2.2.1 5)) ++ ktS (u.2.2.1 6)) ++ ktS (u.2.2.1 7)) ++ ktS (u.2.2.1 8)) ++ ktS (u.2.2.1 9)) ++ ktS (u.2.2.1 10))
theorem k_apl {α : Type} {X Y : List α} {i : Nat} {a : α} (h : X[i]? = some a) : (X ++ Y)[i]? = some a := by
  rw [List.getElem?_append_left (List.getElem?_eq_some_iff.mp h).1]
  exact h
theorem k_apr {α : Type} {X Y : List α} {a : α} : (X ++ a :: Y)[X.length]? = some a := by
  rw [List.getElem?_append_right (Nat.le_refl _), Nat.sub_self]
  rfl
theorem k_aps {α : Type} {X Y : List α} {a b : α} : (X ++ a :: Y).set X.length b = X ++ b :: Y := by
  rw [List.set_append_right _ _ (Nat.le_refl _), Nat.sub_self]
  rfl
theorem k_apq {α : Type} {X Y Z : List α} {a b c : α} : (X ++ a :: b :: (Y ++ c :: Z))[X.length + (Y.length + 2)]? = some c := by
  rw [List.getElem?_append_right (Nat.le_add_right _ _), Nat.add_sub_cancel_left]
  show (Y ++ c :: Z)[Y.length]? = some c
  exact k_apr
theorem k_iter {p : Program} {l : Launch} {e : Env} {R : Room} {s : State} {m : MethodId} {args : Array Value} {below : List Frame} {meth : Method} {c : Code} {H : Heap} {locs : List Loc} {cells slots : Nat} {Q : State → Prop} {D : va_G} {A : Nat → Prop} {ls : Array Slot} {h qs : Nat} {cA : ClassId} {f : Nat → Option Nat} {Bs Y : va_W} {er : Nat × va_E} {tys : List (ClassId × FieldType)} {fs : List Value} {t0 i : Nat} {x y : Int32} (C : kCx p s m args meth c 5 prog_1_method_1_code 2) (hx8 : ¬ (8 : Int32) ≤ x) (hxy : x + Int32.ofInt 1 = y) (hxi : x.toNatClampNeg = i) (hxz : zis x 8 = true) (h0 : Bs[0]? = some (h, .inr (5, fs))) (hf : fs[5]? = some (.ref qs)) (ht : tys[t0]? = some (cA, .object "TablesAndTips$Shelf")) (hl : lv_has ls 2 [(1, .int x), (0, .ref h)]) (hcells : cells + 2 ≤ R.cells) (hslots : slots + 163 ≤ R.slots) (hRf : 3 ≤ R.frames) (hRl : 150 ≤ R.locals) (hA : ∀ q, s.heap.size ≤ q → A q) (hP : va_P D zcls (Bs ++ ((qs, .inl (cA, 8, .inr (.inr (.inr (.inr f))))) :: er :: Y)) H) (hD : va_D A (Bs ++ ((qs, .inl (cA, 8, .inr (.inr (.inr (.inr f))))) :: er :: Y))) (hK : va_K D zcls tys s) (hS : va_S A s.heap H locs)
    (kk : ∀ (q : Nat) (u : kS) (H1 : Heap) (locs1 : List Loc) (ls1 : Array Slot), va_P D zcls (Bs ++ ((qs, .inl (cA, 8, .inr (.inr (.inr (.inr (va_up f i (some q))))))) :: er :: (Y ++ kwS q u))) H1 → va_D A (Bs ++ ((qs, .inl (cA, 8, .inr (.inr (.inr (.inr (va_up f i (some q))))))) :: er :: (Y ++ kwS q u))) → va_K D zcls (tys ++ ktS u) s → va_S A s.heap H1 locs1 → lv_has ls1 2 [(1, .int y), (0, .ref h)] → W p l e R s m args below meth c H1 locs1 (cells + 2) (slots + 163) Q (F0 m 83 ls1 [])) : W p l e R s m args below meth c H locs cells slots Q (F0 m 83 ls []) := by
  obtain ⟨hx, hb, hml, hown, hts, hin, hN, h7⟩ := id C
  refine lv_iload_n hx hb kd5_83 rfl (lv_at hl 0 rfl) ?_
  refine lv_bipush (v := 8) hx hb kd5_84 (by decide) ?_
  refine lv_icmp_ge hx hb (tgt := 117) kd5_86 rfl (fun h9 => absurd h9 hx8) (fun _ => ?_)
  refine lv_iload_n hx hb kd5_89 rfl (lv_at hl 0 rfl) ?_
  refine lv_aload_n hx hb kd5_90 rfl (lv_at hl 1 rfl) ?_
  refine k_get C hK hP 0 (k_apl h0) 5 (by decide) (pos := 164) (by decide +kernel) rfl hf kd5_91 ?_
  refine va_alen (v := 8) hx hb hK hP Bs.length t0 k_apr ht rfl kd5_94 ?_
  refine lv_icmp_ge hx hb (tgt := 117) kd5_95 rfl (fun h9 => absurd h9 hx8) (fun _ => ?_)
  refine lv_aload_n hx hb kd5_98 rfl (lv_at hl 1 rfl) ?_
  refine k_get C hK hP 0 (k_apl h0) 5 (by decide) (pos := 164) (by decide +kernel) rfl hf kd5_99 ?_
  refine lv_iload_n hx hb kd5_102 rfl (lv_at hl 0 rfl) ?_
  refine k_new C hK hP hD hS hA (cN := 4) (by decide) (pos1 := 141) (pos2 := 143) (by decide +kernel) (by decide +kernel) (fs := [.null, .int 0, .int 0]) (by decide) (by omega) (Nat.le_trans (Nat.add_le_add_left (Nat.le_of_ble_eq_true rfl : zNn 4 ≤ 163) _) hslots) kd5_103 (fun q H hP hD hS => ?_)
  refine W.widen (k := cells + 1) (n := slots + 3) (Nat.le_refl _) (Nat.le_refl _) ?_
  refine lv_dup hx hb kd5_106 rfl ?_
  refine k_callN (cN := 4) (mc := 1) (ms := 160) (X := Bs ++ ((qs, .inl (cA, 8, .inr (.inr (.inr (.inr f))))) :: er :: Y)) (Wd := kwS q) (Ty := ktS) C hl.1 (by decide) (fun sz => k_Shelf l D q sz) (zmg (i := 146) (by decide +kernel) rfl) rfl rfl (zme (List.mem_of_getElem? (i := 144) (by decide +kernel))) (zmg (i := 145) (by decide +kernel) rfl) (by decide) ⟨by show 2 + 1 ≤ R.frames; exact hRf, by show 8 + (1 + 11) + 80 ≤ R.locals; omega⟩ ⟨by omega, by omega⟩ hK hP hD hS hA (Nat.le_trans (by show (([Value.ref q, .int x, .ref qs] : List Value).map fun v => v.category).sum ≤ 8; exact Nat.le_of_ble_eq_true rfl) (Nat.le_refl _)) kd5_107 (fun u H locs hP hK hD hS => ?_)
  rw [List.append_assoc] at hP hD
  have hP : va_P D zcls (Bs ++ ((qs, .inl (cA, 8, .inr (.inr (.inr (.inr f))))) :: er :: (Y ++ kwS q u))) H := hP
  have hD : va_D A (Bs ++ ((qs, .inl (cA, 8, .inr (.inr (.inr (.inr f))))) :: er :: (Y ++ kwS q u))) := hD
  refine W.widen (k := cells + 2) (n := slots + 163) (Nat.le_refl _) (by omega) ?_
  refine va_astq hx hb hK hP hD hS Bs.length t0 (Bs.length + (Y.length + 2)) 4 k_apr (k_apl ht) (k_apq (α := Nat × va_E) (Z := [(u.1 0, .inl (u.2 0, 160, .inr (.inl (fun _ => 0))))])) (zcls_at 4 (by decide)) (zis_in hxz) kd5_110 (fun H locs hP hD hS => ?_)
  rw [k_aps, hxi] at hP hD
  refine lv_iinc (v := y) (lv' := [(1, .int y), (0, .ref h)]) hx hb kd5_111 hl (k := 0) rfl hxy (by decide) rfl (fun ls hl => ?_)
  refine lv_goto hx hb (tgt := 83) kd5_114 rfl ?_
  exact kk q u H locs ls hP hD hK hS hl
set_option maxHeartbeats 20000000 in
set_option maxRecDepth 100000 in
theorem k_T (l : Launch) (D : va_G) (h : Nat) (sz : Nat) : Met l ⟨zRn 5, "<init>", "()V"⟩ (jws (.code ⟨zRn 5, "<init>", "()V"⟩ prog_1_method_1_code 2 none)) (kRoom 4 49 2766) (kP D h [(h, .inr (5, [.null, .null, .null, .null, .null, .null, .null, .int 0]))] sz) (kQ (kwT h) ktT D (va_A [(h, .inr (5, [.null, .null, .null, .null, .null, .null, .null, .int 0]))] sz)) 49 2766 (va_A [(h, .inr (5, [.null, .null, .null, .null, .null, .null, .null, .int 0]))] sz) := by
  refine Met.ofW (cc := prog_1_method_1_code) (maxL := 2) (ret := none) (by decide) rfl ?_
  intro p e s m args below meth c s₁ B hml hv
  obtain ⟨rfl, hsz, hP, hK, hD0, hN⟩ := hv
  have hx := B.exec
  have hb := B.bytes
  have hr := B.returns
  have hts0 := atoms_spec (ws := jws (.code ⟨zRn 5, "<init>", "()V"⟩ prog_1_method_1_code 2 none)) B.pre
  have hts : ∀ w ∈ zTbl, w.before #[.ref h] s = true := fun w hw => hts0 w (List.mem_cons_of_mem _ hw)
  have hown : s.vm.findClass (zRn 5) = some m.cls := findClass_of_methodNamed B.named
  have hlocks := B.notSynchronized
  have hin : meth.name = "<init>" := (name_of_methodNamed B.named B.method).1
  have C : kCx p s m #[.ref h] meth c 5 prog_1_method_1_code 2 := ⟨hx, hb, hml, hown, hts, hin, hN, by decide⟩
  subst hsz
  have hD := hD0.self (sz := s.heap.size)
  generalize hAe : va_A [(h, .inr (5, [.null, .null, .null, .null, .null, .null, .null, .int 0]))] s.heap.size = A at hD ⊢
  have hA : ∀ q, s.heap.size ≤ q → A q := fun q h => by rw [← hAe]; exact Or.inr h
  have hS : va_S A s.heap s.heap [] := va_S.rf
  have hl := lv_entry ([.ref h]) (n := 2) (Nat.le_of_ble_eq_true rfl)
  rw [lg_entry_eq]
  generalize (lg_sl ([.ref h]) ++ List.replicate (2 - (lg_sl ([.ref h])).length) Slot.unset).toArray = ls at hl ⊢
  have hl : lv_has ls 2 [(0, .ref h)] := hl
  refine lv_aload_n hx hb kd5_0 rfl (lv_at hl 0 rfl) ?_
  refine k_obj C hl.1 (pos := 18) (by decide +kernel) (Nat.le_of_ble_eq_true rfl) (Nat.le_of_ble_eq_true rfl) (Nat.le_of_ble_eq_true rfl) (Nat.le_of_ble_eq_true rfl) kd5_1 ?_ rfl
  refine lv_aload_n hx hb kd5_4 rfl (lv_at hl 0 rfl) ?_
  refine k_new C hK hP hD hS hA (cN := 1) (by decide) (pos1 := 21) (pos2 := 22) (by decide +kernel) (by decide +kernel) (fs := [.null, .null, .null, .int 0, .int 0, .int 0, .int 0, .int 0, .null]) (by decide) (Nat.le_of_ble_eq_true rfl) (Nat.le_of_ble_eq_true rfl) kd5_5 (fun q1 H hP hD hS => ?_)
  refine W.widen (k := 1) (n := 9) (Nat.le_of_ble_eq_true rfl) (Nat.le_of_ble_eq_true rfl) ?_
  have hP : va_P D zcls [(h, .inr (5, [.null, .null, .null, .null, .null, .null, .null, .int 0])), (q1, .inr (1, [.null, .null, .null, .int 0, .int 0, .int 0, .int 0, .int 0, .null]))] H := hP
  have hD : va_D A [(h, .inr (5, [.null, .null, .null, .null, .null, .null, .null, .int 0])), (q1, .inr (1, [.null, .null, .null, .int 0, .int 0, .int 0, .int 0, .int 0, .null]))] := hD
  refine lv_dup hx hb kd5_8 rfl ?_
  refine k_callN (cN := 1) (mc := 4) (ms := 77) (X := [(h, .inr (5, [.null, .null, .null, .null, .null, .null, .null, .int 0]))]) (Wd := kwH q1) (Ty := ktH) C hl.1 (by decide) (fun sz => k_House l D q1 sz) (zmg (i := 25) (by decide +kernel) rfl) rfl rfl (zme (List.mem_of_getElem? (i := 23) (by decide +kernel))) (zmg (i := 24) (by decide +kernel) rfl) (by decide) ⟨Nat.le_of_ble_eq_true rfl, Nat.le_of_ble_eq_true rfl⟩ ⟨Nat.le_of_ble_eq_true rfl, Nat.le_of_ble_eq_true rfl⟩ hK hP hD hS hA (Nat.le_of_ble_eq_true rfl) kd5_9 (fun u2 H locs hP hK hD hS => ?_)
  refine W.widen (k := 5) (n := 86) (Nat.le_of_ble_eq_true rfl) (Nat.le_of_ble_eq_true rfl) ?_
  have hP : va_P D zcls ([(h, .inr (5, [.null, .null, .null, .null, .null, .null, .null, .int 0]))] ++ kwH q1 u2) H := hP
  have hD : va_D A ([(h, .inr (5, [.null, .null, .null, .null, .null, .null, .null, .int 0]))] ++ kwH q1 u2) := hD
  have hK : va_K D zcls (ktH u2) s := hK
  refine k_put C hK hP hD hS 0 rfl 0 (by decide) (pos := 159) (by decide +kernel) rfl rfl rfl rfl (Nat.le_of_ble_eq_true rfl) kd5_12 (fun H locs hP hD hS => ?_)
  have hP : va_P D zcls ([(h, .inr (5, [.ref q1, .null, .null, .null, .null, .null, .null, .int 0]))] ++ kwH q1 u2) H := hP
  have hD : va_D A ([(h, .inr (5, [.ref q1, .null, .null, .null, .null, .null, .null, .int 0]))] ++ kwH q1 u2) := hD
  refine lv_aload_n hx hb kd5_15 rfl (lv_at hl 0 rfl) ?_
  refine k_new C hK hP hD hS hA (cN := 1) (by decide) (pos1 := 21) (pos2 := 22) (by decide +kernel) (by decide +kernel) (fs := [.null, .null, .null, .int 0, .int 0, .int 0, .int 0, .int 0, .null]) (by decide) (Nat.le_of_ble_eq_true rfl) (Nat.le_of_ble_eq_true rfl) kd5_16 (fun q3 H hP hD hS => ?_)
  refine W.widen (k := 6) (n := 95) (Nat.le_of_ble_eq_true rfl) (Nat.le_of_ble_eq_true rfl) ?_
  have hP : va_P D zcls (([(h, .inr (5, [.ref q1, .null, .null, .null, .null, .null, .null, .int 0]))] ++ kwH q1 u2) ++ [(q3, .inr (1, [.null, .null, .null, .int 0, .int 0, .int 0, .int 0, .int 0, .null]))]) H := hP
  have hD : va_D A (([(h, .inr (5, [.ref q1, .null, .null, .null, .null, .null, .null, .int 0]))] ++ kwH q1 u2) ++ [(q3, .inr (1, [.null, .null, .null, .int 0, .int 0, .int 0, .int 0, .int 0, .null]))]) := hD
  refine lv_dup hx hb kd5_19 rfl ?_
  refine k_callN (cN := 1) (mc := 4) (ms := 77) (X := ([(h, .inr (5, [.ref q1, .null, .null, .null, .null, .null, .null, .int 0]))] ++ kwH q1 u2)) (Wd := kwH q3) (Ty := ktH) C hl.1 (by decide) (fun sz => k_House l D q3 sz) (zmg (i := 25) (by decide +kernel) rfl) rfl rfl (zme (List.mem_of_getElem? (i := 23) (by decide +kernel))) (zmg (i := 24) (by decide +kernel) rfl) (by decide) ⟨Nat.le_of_ble_eq_true rfl, Nat.le_of_ble_eq_true rfl⟩ ⟨Nat.le_of_ble_eq_true rfl, Nat.le_of_ble_eq_true rfl⟩ hK hP hD hS hA (Nat.le_of_ble_eq_true rfl) kd5_20 (fun u4 H locs hP hK hD hS => ?_)
  refine W.widen (k := 10) (n := 172) (Nat.le_of_ble_eq_true rfl) (Nat.le_of_ble_eq_true rfl) ?_
  have hP : va_P D zcls (([(h, .inr (5, [.ref q1, .null, .null, .null, .null, .null, .null, .int 0]))] ++ kwH q1 u2) ++ kwH q3 u4) H := hP
  have hD : va_D A (([(h, .inr (5, [.ref q1, .null, .null, .null, .null, .null, .null, .int 0]))] ++ kwH q1 u2) ++ kwH q3 u4) := hD
  have hK : va_K D zcls ((ktH u2) ++ ktH u4) s := hK
  refine k_put C hK hP hD hS 0 rfl 1 (by decide) (pos := 160) (by decide +kernel) rfl rfl rfl rfl (Nat.le_of_ble_eq_true rfl) kd5_23 (fun H locs hP hD hS => ?_)
  have hP : va_P D zcls (([(h, .inr (5, [.ref q1, .ref q3, .null, .null, .null, .null, .null, .int 0]))] ++ kwH q1 u2) ++ kwH q3 u4) H := hP
  have hD : va_D A (([(h, .inr (5, [.ref q1, .ref q3, .null, .null, .null, .null, .null, .int 0]))] ++ kwH q1 u2) ++ kwH q3 u4) := hD
  refine lv_aload_n hx hb kd5_26 rfl (lv_at hl 0 rfl) ?_
  refine k_new C hK hP hD hS hA (cN := 0) (by decide) (pos1 := 56) (pos2 := 57) (by decide +kernel) (by decide +kernel) (fs := [.null, .int 0, .int 0, .int 0, .int 0]) (by decide) (Nat.le_of_ble_eq_true rfl) (Nat.le_of_ble_eq_true rfl) kd5_27 (fun q5 H hP hD hS => ?_)
  refine W.widen (k := 11) (n := 177) (Nat.le_of_ble_eq_true rfl) (Nat.le_of_ble_eq_true rfl) ?_
  have hP : va_P D zcls ((([(h, .inr (5, [.ref q1, .ref q3, .null, .null, .null, .null, .null, .int 0]))] ++ kwH q1 u2) ++ kwH q3 u4) ++ [(q5, .inr (0, [.null, .int 0, .int 0, .int 0, .int 0]))]) H := hP
  have hD : va_D A ((([(h, .inr (5, [.ref q1, .ref q3, .null, .null, .null, .null, .null, .int 0]))] ++ kwH q1 u2) ++ kwH q3 u4) ++ [(q5, .inr (0, [.null, .int 0, .int 0, .int 0, .int 0]))]) := hD
  refine lv_dup hx hb kd5_30 rfl ?_
  refine k_callN (cN := 0) (mc := 1) (ms := 20) (X := (([(h, .inr (5, [.ref q1, .ref q3, .null, .null, .null, .null, .null, .int 0]))] ++ kwH q1 u2) ++ kwH q3 u4)) (Wd := kwA q5) (Ty := ktA) C hl.1 (by decide) (fun sz => k_Acts l D q5 sz) (zmg (i := 60) (by decide +kernel) rfl) rfl rfl (zme (List.mem_of_getElem? (i := 58) (by decide +kernel))) (zmg (i := 59) (by decide +kernel) rfl) (by decide) ⟨Nat.le_of_ble_eq_true rfl, Nat.le_of_ble_eq_true rfl⟩ ⟨Nat.le_of_ble_eq_true rfl, Nat.le_of_ble_eq_true rfl⟩ hK hP hD hS hA (Nat.le_of_ble_eq_true rfl) kd5_31 (fun u6 H locs hP hK hD hS => ?_)
  refine W.widen (k := 12) (n := 197) (Nat.le_of_ble_eq_true rfl) (Nat.le_of_ble_eq_true rfl) ?_
  have hP : va_P D zcls ((([(h, .inr (5, [.ref q1, .ref q3, .null, .null, .null, .null, .null, .int 0]))] ++ kwH q1 u2) ++ kwH q3 u4) ++ kwA q5 u6) H := hP
  have hD : va_D A ((([(h, .inr (5, [.ref q1, .ref q3, .null, .null, .null, .null, .null, .int 0]))] ++ kwH q1 u2) ++ kwH q3 u4) ++ kwA q5 u6) := hD
  have hK : va_K D zcls (((ktH u2) ++ ktH u4) ++ ktA u6) s := hK
  refine k_put C hK hP hD hS 0 rfl 2 (by decide) (pos := 161) (by decide +kernel) rfl rfl rfl rfl (Nat.le_of_ble_eq_true rfl) kd5_34 (fun H locs hP hD hS => ?_)
  have hP : va_P D zcls ((([(h, .inr (5, [.ref q1, .ref q3, .ref q5, .null, .null, .null, .null, .int 0]))] ++ kwH q1 u2) ++ kwH q3 u4) ++ kwA q5 u6) H := hP
  have hD : va_D A ((([(h, .inr (5, [.ref q1, .ref q3, .ref q5, .null, .null, .null, .null, .int 0]))] ++ kwH q1 u2) ++ kwH q3 u4) ++ kwA q5 u6) := hD
  refine lv_aload_n hx hb kd5_37 rfl (lv_at hl 0 rfl) ?_
  refine k_new C hK hP hD hS hA (cN := 2) (by decide) (pos1 := 78) (pos2 := 79) (by decide +kernel) (by decide +kernel) (fs := [.null, .null, .int 0, .int 0, .null, .null, .null, .null, .null, .int 0, .int 0]) (by decide) (Nat.le_of_ble_eq_true rfl) (Nat.le_of_ble_eq_true rfl) kd5_38 (fun q7 H hP hD hS => ?_)
  refine W.widen (k := 13) (n := 208) (Nat.le_of_ble_eq_true rfl) (Nat.le_of_ble_eq_true rfl) ?_
  have hP : va_P D zcls (((([(h, .inr (5, [.ref q1, .ref q3, .ref q5, .null, .null, .null, .null, .int 0]))] ++ kwH q1 u2) ++ kwH q3 u4) ++ kwA q5 u6) ++ [(q7, .inr (2, [.null, .null, .int 0, .int 0, .null, .null, .null, .null, .null, .int 0, .int 0]))]) H := hP
  have hD : va_D A (((([(h, .inr (5, [.ref q1, .ref q3, .ref q5, .null, .null, .null, .null, .int 0]))] ++ kwH q1 u2) ++ kwH q3 u4) ++ kwA q5 u6) ++ [(q7, .inr (2, [.null, .null, .int 0, .int 0, .null, .null, .null, .null, .null, .int 0, .int 0]))]) := hD
  refine lv_dup hx hb kd5_41 rfl ?_
  refine k_callN (cN := 2) (mc := 11) (ms := 1143) (X := ((([(h, .inr (5, [.ref q1, .ref q3, .ref q5, .null, .null, .null, .null, .int 0]))] ++ kwH q1 u2) ++ kwH q3 u4) ++ kwA q5 u6)) (Wd := kwO q7) (Ty := ktO) C hl.1 (by decide) (fun sz => k_Outcomes l D q7 sz) (zmg (i := 82) (by decide +kernel) rfl) rfl rfl (zme (List.mem_of_getElem? (i := 80) (by decide +kernel))) (zmg (i := 81) (by decide +kernel) rfl) (by decide) ⟨Nat.le_of_ble_eq_true rfl, Nat.le_of_ble_eq_true rfl⟩ ⟨Nat.le_of_ble_eq_true rfl, Nat.le_of_ble_eq_true rfl⟩ hK hP hD hS hA (Nat.le_of_ble_eq_true rfl) kd5_42 (fun u8 H locs hP hK hD hS => ?_)
  refine W.widen (k := 24) (n := 1351) (Nat.le_of_ble_eq_true rfl) (Nat.le_of_ble_eq_true rfl) ?_
  have hP : va_P D zcls (((([(h, .inr (5, [.ref q1, .ref q3, .ref q5, .null, .null, .null, .null, .int 0]))] ++ kwH q1 u2) ++ kwH q3 u4) ++ kwA q5 u6) ++ kwO q7 u8) H := hP
  have hD : va_D A (((([(h, .inr (5, [.ref q1, .ref q3, .ref q5, .null, .null, .null, .null, .int 0]))] ++ kwH q1 u2) ++ kwH q3 u4) ++ kwA q5 u6) ++ kwO q7 u8) := hD
  have hK : va_K D zcls ((((ktH u2) ++ ktH u4) ++ ktA u6) ++ ktO u8) s := hK
  refine k_put C hK hP hD hS 0 rfl 3 (by decide) (pos := 162) (by decide +kernel) rfl rfl rfl rfl (Nat.le_of_ble_eq_true rfl) kd5_45 (fun H locs hP hD hS => ?_)
  have hP : va_P D zcls (((([(h, .inr (5, [.ref q1, .ref q3, .ref q5, .ref q7, .null, .null, .null, .int 0]))] ++ kwH q1 u2) ++ kwH q3 u4) ++ kwA q5 u6) ++ kwO q7 u8) H := hP
  have hD : va_D A (((([(h, .inr (5, [.ref q1, .ref q3, .ref q5, .ref q7, .null, .null, .null, .int 0]))] ++ kwH q1 u2) ++ kwH q3 u4) ++ kwA q5 u6) ++ kwO q7 u8) := hD
  refine lv_aload_n hx hb kd5_48 rfl (lv_at hl 0 rfl) ?_
  refine k_new C hK hP hD hS hA (cN := 3) (by decide) (pos1 := 120) (pos2 := 121) (by decide +kernel) (by decide +kernel) (fs := [.null, .null, .int 0, .int 0]) (by decide) (Nat.le_of_ble_eq_true rfl) (Nat.le_of_ble_eq_true rfl) kd5_49 (fun q9 H hP hD hS => ?_)
  refine W.widen (k := 25) (n := 1355) (Nat.le_of_ble_eq_true rfl) (Nat.le_of_ble_eq_true rfl) ?_
  have hP : va_P D zcls ((((([(h, .inr (5, [.ref q1, .ref q3, .ref q5, .ref q7, .null, .null, .null, .int 0]))] ++ kwH q1 u2) ++ kwH q3 u4) ++ kwA q5 u6) ++ kwO q7 u8) ++ [(q9, .inr (3, [.null, .null, .int 0, .int 0]))]) H := hP
  have hD : va_D A ((((([(h, .inr (5, [.ref q1, .ref q3, .ref q5, .ref q7, .null, .null, .null, .int 0]))] ++ kwH q1 u2) ++ kwH q3 u4) ++ kwA q5 u6) ++ kwO q7 u8) ++ [(q9, .inr (3, [.null, .null, .int 0, .int 0]))]) := hD
  refine lv_dup hx hb kd5_52 rfl ?_
  refine k_callN (cN := 3) (mc := 6) (ms := 91) (X := (((([(h, .inr (5, [.ref q1, .ref q3, .ref q5, .ref q7, .null, .null, .null, .int 0]))] ++ kwH q1 u2) ++ kwH q3 u4) ++ kwA q5 u6) ++ kwO q7 u8)) (Wd := kwR q9) (Ty := ktR) C hl.1 (by decide) (fun sz => k_Reader l D q9 sz) (zmg (i := 124) (by decide +kernel) rfl) rfl rfl (zme (List.mem_of_getElem? (i := 122) (by decide +kernel))) (zmg (i := 123) (by decide +kernel) rfl) (by decide) ⟨Nat.le_of_ble_eq_true rfl, Nat.le_of_ble_eq_true rfl⟩ ⟨Nat.le_of_ble_eq_true rfl, Nat.le_of_ble_eq_true rfl⟩ hK hP hD hS hA (Nat.le_of_ble_eq_true rfl) kd5_53 (fun u10 H locs hP hK hD hS => ?_)
  refine W.widen (k := 31) (n := 1446) (Nat.le_of_ble_eq_true rfl) (Nat.le_of_ble_eq_true rfl) ?_
  have hP : va_P D zcls ((((([(h, .inr (5, [.ref q1, .ref q3, .ref q5, .ref q7, .null, .null, .null, .int 0]))] ++ kwH q1 u2) ++ kwH q3 u4) ++ kwA q5 u6) ++ kwO q7 u8) ++ kwR q9 u10) H := hP
  have hD : va_D A ((((([(h, .inr (5, [.ref q1, .ref q3, .ref q5, .ref q7, .null, .null, .null, .int 0]))] ++ kwH q1 u2) ++ kwH q3 u4) ++ kwA q5 u6) ++ kwO q7 u8) ++ kwR q9 u10) := hD
  have hK : va_K D zcls (((((ktH u2) ++ ktH u4) ++ ktA u6) ++ ktO u8) ++ ktR u10) s := hK
  refine k_put C hK hP hD hS 0 rfl 4 (by decide) (pos := 163) (by decide +kernel) rfl rfl rfl rfl (Nat.le_of_ble_eq_true rfl) kd5_56 (fun H locs hP hD hS => ?_)
  have hP : va_P D zcls ((((([(h, .inr (5, [.ref q1, .ref q3, .ref q5, .ref q7, .ref q9, .null, .null, .int 0]))] ++ kwH q1 u2) ++ kwH q3 u4) ++ kwA q5 u6) ++ kwO q7 u8) ++ kwR q9 u10) H := hP
  have hD : va_D A ((((([(h, .inr (5, [.ref q1, .ref q3, .ref q5, .ref q7, .ref q9, .null, .null, .int 0]))] ++ kwH q1 u2) ++ kwH q3 u4) ++ kwA q5 u6) ++ kwO q7 u8) ++ kwR q9 u10) := hD
  refine lv_aload_n hx hb kd5_59 rfl (lv_at hl 0 rfl) ?_
  refine lv_bipush (v := 8) hx hb kd5_60 (by decide) ?_
  refine va_newq (C := zRn 4) (N' := 8) hx hb hown (hts _ (zmg (i := 141) (by decide +kernel) rfl)) hN.2 hK hP hD hS hA (by decide) (by decide) (Nat.le_of_ble_eq_true rfl) (Nat.le_of_ble_eq_true rfl) (Nat.le_of_ble_eq_true rfl) kd5_62 (fun q11 c11 H hK hP hD hS => ?_)
  refine W.widen (k := 32) (n := 1454) (Nat.le_of_ble_eq_true rfl) (Nat.le_of_ble_eq_true rfl) ?_
  have hP : va_P D zcls (((((([(h, .inr (5, [.ref q1, .ref q3, .ref q5, .ref q7, .ref q9, .null, .null, .int 0]))] ++ kwH q1 u2) ++ kwH q3 u4) ++ kwA q5 u6) ++ kwO q7 u8) ++ kwR q9 u10) ++ [(q11, .inl (c11, 8, .inr (.inr (.inr (.inr (fun _ => none))))))]) H := hP
  have hD : va_D A (((((([(h, .inr (5, [.ref q1, .ref q3, .ref q5, .ref q7, .ref q9, .null, .null, .int 0]))] ++ kwH q1 u2) ++ kwH q3 u4) ++ kwA q5 u6) ++ kwO q7 u8) ++ kwR q9 u10) ++ [(q11, .inl (c11, 8, .inr (.inr (.inr (.inr (fun _ => none))))))]) := hD
  have hK : va_K D zcls ((((((ktH u2) ++ ktH u4) ++ ktA u6) ++ ktO u8) ++ ktR u10) ++ [(c11, .object "TablesAndTips$Shelf")]) s := hK
  refine k_put C hK hP hD hS 0 rfl 5 (by decide) (pos := 164) (by decide +kernel) rfl rfl rfl rfl (Nat.le_of_ble_eq_true rfl) kd5_65 (fun H locs hP hD hS => ?_)
  have hP : va_P D zcls (((((([(h, .inr (5, [.ref q1, .ref q3, .ref q5, .ref q7, .ref q9, .ref q11, .null, .int 0]))] ++ kwH q1 u2) ++ kwH q3 u4) ++ kwA q5 u6) ++ kwO q7 u8) ++ kwR q9 u10) ++ [(q11, .inl (c11, 8, .inr (.inr (.inr (.inr (fun _ => none))))))]) H := hP
  have hD : va_D A (((((([(h, .inr (5, [.ref q1, .ref q3, .ref q5, .ref q7, .ref q9, .ref q11, .null, .int 0]))] ++ kwH q1 u2) ++ kwH q3 u4) ++ kwA q5 u6) ++ kwO q7 u8) ++ kwR q9 u10) ++ [(q11, .inl (c11, 8, .inr (.inr (.inr (.inr (fun _ => none))))))]) := hD
  refine lv_aload_n hx hb kd5_68 rfl (lv_at hl 0 rfl) ?_
  refine lv_bipush (v := 8) hx hb kd5_69 (by decide) ?_
  refine k_newi C hK hP hD hS hA (N := 8) (by decide) (by decide) (Nat.le_of_ble_eq_true rfl) (Nat.le_of_ble_eq_true rfl) (Nat.le_of_ble_eq_true rfl) kd5_71 (fun q12 c12 H hK hP hD hS => ?_)
  refine W.widen (k := 33) (n := 1462) (Nat.le_of_ble_eq_true rfl) (Nat.le_of_ble_eq_true rfl) ?_
  have hP : va_P D zcls (((((([(h, .inr (5, [.ref q1, .ref q3, .ref q5, .ref q7, .ref q9, .ref q11, .null, .int 0]))] ++ kwH q1 u2) ++ kwH q3 u4) ++ kwA q5 u6) ++ kwO q7 u8) ++ kwR q9 u10) ++ [(q11, .inl (c11, 8, .inr (.inr (.inr (.inr (fun _ => none)))))), (q12, .inl (c12, 8, .inl (fun _ => 0)))]) H := hP
  have hD : va_D A (((((([(h, .inr (5, [.ref q1, .ref q3, .ref q5, .ref q7, .ref q9, .ref q11, .null, .int 0]))] ++ kwH q1 u2) ++ kwH q3 u4) ++ kwA q5 u6) ++ kwO q7 u8) ++ kwR q9 u10) ++ [(q11, .inl (c11, 8, .inr (.inr (.inr (.inr (fun _ => none)))))), (q12, .inl (c12, 8, .inl (fun _ => 0)))]) := hD
  have hK : va_K D zcls ((((((ktH u2) ++ ktH u4) ++ ktA u6) ++ ktO u8) ++ ktR u10) ++ [(c11, .object "TablesAndTips$Shelf"), (c12, .int)]) s := hK
  refine k_put C hK hP hD hS 0 rfl 6 (by decide) (pos := 165) (by decide +kernel) rfl rfl rfl rfl (Nat.le_of_ble_eq_true rfl) kd5_73 (fun H locs hP hD hS => ?_)
  have hP : va_P D zcls (((((([(h, .inr (5, [.ref q1, .ref q3, .ref q5, .ref q7, .ref q9, .ref q11, .ref q12, .int 0]))] ++ kwH q1 u2) ++ kwH q3 u4) ++ kwA q5 u6) ++ kwO q7 u8) ++ kwR q9 u10) ++ [(q11, .inl (c11, 8, .inr (.inr (.inr (.inr (fun _ => none)))))), (q12, .inl (c12, 8, .inl (fun _ => 0)))]) H := hP
  have hD : va_D A (((((([(h, .inr (5, [.ref q1, .ref q3, .ref q5, .ref q7, .ref q9, .ref q11, .ref q12, .int 0]))] ++ kwH q1 u2) ++ kwH q3 u4) ++ kwA q5 u6) ++ kwO q7 u8) ++ kwR q9 u10) ++ [(q11, .inl (c11, 8, .inr (.inr (.inr (.inr (fun _ => none)))))), (q12, .inl (c12, 8, .inl (fun _ => 0)))]) := hD
  refine lv_aload_n hx hb kd5_76 rfl (lv_at hl 0 rfl) ?_
  refine lv_iconst (v := 0) hx hb kd5_77 (by decide) ?_
  refine k_put C hK hP hD hS 0 rfl 7 (by decide) (pos := 166) (by decide +kernel) rfl rfl rfl rfl (Nat.le_of_ble_eq_true rfl) kd5_78 (fun H locs hP hD hS => ?_)
  have hP : va_P D zcls (((((([(h, .inr (5, [.ref q1, .ref q3, .ref q5, .ref q7, .ref q9, .ref q11, .ref q12, .int 0]))] ++ kwH q1 u2) ++ kwH q3 u4) ++ kwA q5 u6) ++ kwO q7 u8) ++ kwR q9 u10) ++ [(q11, .inl (c11, 8, .inr (.inr (.inr (.inr (fun _ => none)))))), (q12, .inl (c12, 8, .inl (fun _ => 0)))]) H := hP
  have hD : va_D A (((((([(h, .inr (5, [.ref q1, .ref q3, .ref q5, .ref q7, .ref q9, .ref q11, .ref q12, .int 0]))] ++ kwH q1 u2) ++ kwH q3 u4) ++ kwA q5 u6) ++ kwO q7 u8) ++ kwR q9 u10) ++ [(q11, .inl (c11, 8, .inr (.inr (.inr (.inr (fun _ => none)))))), (q12, .inl (c12, 8, .inl (fun _ => 0)))]) := hD
  refine lv_iconst (v := 0) hx hb kd5_81 (by decide) ?_
  refine lv_istore_n (lv' := [(1, .int 0), (0, .ref h)]) hx hb kd5_82 rfl hl (by decide) rfl (fun ls hl => ?_)
  have h0 : (((((([(h, .inr (5, [.ref q1, .ref q3, .ref q5, .ref q7, .ref q9, .ref q11, .ref q12, .int 0]))] ++ kwH q1 u2) ++ kwH q3 u4) ++ kwA q5 u6) ++ kwO q7 u8) ++ kwR q9 u10))[0]? = some (h, .inr (5, [.ref q1, .ref q3, .ref q5, .ref q7, .ref q9, .ref q11, .ref q12, .int 0])) := rfl
  have ht : (((((((ktH u2) ++ ktH u4) ++ ktA u6) ++ ktO u8) ++ ktR u10) ++ [(c11, .object "TablesAndTips$Shelf"), (c12, .int)]))[24]? = some (c11, .object "TablesAndTips$Shelf") := rfl
  have hP : va_P D zcls (((((([(h, .inr (5, [.ref q1, .ref q3, .ref q5, .ref q7, .ref q9, .ref q11, .ref q12, .int 0]))] ++ kwH q1 u2) ++ kwH q3 u4) ++ kwA q5 u6) ++ kwO q7 u8) ++ kwR q9 u10) ++ ((q11, .inl (c11, 8, .inr (.inr (.inr (.inr (fun _ => none)))))) :: (q12, .inl (c12, 8, .inl (fun _ => 0))) :: [])) H := hP
  have hD : va_D A (((((([(h, .inr (5, [.ref q1, .ref q3, .ref q5, .ref q7, .ref q9, .ref q11, .ref q12, .int 0]))] ++ kwH q1 u2) ++ kwH q3 u4) ++ kwA q5 u6) ++ kwO q7 u8) ++ kwR q9 u10) ++ ((q11, .inl (c11, 8, .inr (.inr (.inr (.inr (fun _ => none)))))) :: (q12, .inl (c12, 8, .inl (fun _ => 0))) :: [])) := hD
  generalize hBs : ((((([(h, .inr (5, [.ref q1, .ref q3, .ref q5, .ref q7, .ref q9, .ref q11, .ref q12, .int 0]))] ++ kwH q1 u2) ++ kwH q3 u4) ++ kwA q5 u6) ++ kwO q7 u8) ++ kwR q9 u10) = Bs at hP hD h0
  generalize hTs : ((((((ktH u2) ++ ktH u4) ++ ktA u6) ++ ktO u8) ++ ktR u10) ++ [(c11, .object "TablesAndTips$Shelf"), (c12, .int)]) = Ts at hK ht
  refine k_iter (x := 0) (y := 1) (i := 0) (f := (fun _ => none)) (er := (q12, .inl (c12, 8, .inl (fun _ => 0)))) (Y := []) (t0 := 24) C (by decide) (by decide) (by decide) (by decide) h0 rfl ht hl (Nat.le_of_ble_eq_true rfl) (Nat.le_of_ble_eq_true rfl) (Nat.le_of_ble_eq_true rfl) (Nat.le_of_ble_eq_true rfl) hA hP hD hK hS (fun q13 u14 H locs ls hP hD hK hS hl => ?_)
  refine k_iter (x := 1) (y := 2) (i := 1) (f := (va_up (fun _ => none) 0 (some q13))) (er := (q12, .inl (c12, 8, .inl (fun _ => 0)))) (Y := ([] ++ kwS q13 u14)) (t0 := 24) C (by decide) (by decide) (by decide) (by decide) h0 rfl (k_apl ht) hl (Nat.le_of_ble_eq_true rfl) (Nat.le_of_ble_eq_true rfl) (Nat.le_of_ble_eq_true rfl) (Nat.le_of_ble_eq_true rfl) hA hP hD hK hS (fun q15 u16 H locs ls hP hD hK hS hl => ?_)
  refine k_iter (x := 2) (y := 3) (i := 2) (f := (va_up (va_up (fun _ => none) 0 (some q13)) 1 (some q15))) (er := (q12, .inl (c12, 8, .inl (fun _ => 0)))) (Y := (([] ++ kwS q13 u14) ++ kwS q15 u16)) (t0 := 24) C (by decide) (by decide) (by decide) (by decide) h0 rfl (k_apl (k_apl ht)) hl (Nat.le_of_ble_eq_true rfl) (Nat.le_of_ble_eq_true rfl) (Nat.le_of_ble_eq_true rfl) (Nat.le_of_ble_eq_true rfl) hA hP hD hK hS (fun q17 u18 H locs ls hP hD hK hS hl => ?_)
  refine k_iter (x := 3) (y := 4) (i := 3) (f := (va_up (va_up (va_up (fun _ => none) 0 (some q13)) 1 (some q15)) 2 (some q17))) (er := (q12, .inl (c12, 8, .inl (fun _ => 0)))) (Y := ((([] ++ kwS q13 u14) ++ kwS q15 u16) ++ kwS q17 u18)) (t0 := 24) C (by decide) (by decide) (by decide) (by decide) h0 rfl (k_apl (k_apl (k_apl ht))) hl (Nat.le_of_ble_eq_true rfl) (Nat.le_of_ble_eq_true rfl) (Nat.le_of_ble_eq_true rfl) (Nat.le_of_ble_eq_true rfl) hA hP hD hK hS (fun q19 u20 H locs ls hP hD hK hS hl => ?_)
  refine k_iter (x := 4) (y := 5) (i := 4) (f := (va_up (va_up (va_up (va_up (fun _ => none) 0 (some q13)) 1 (some q15)) 2 (some q17)) 3 (some q19))) (er := (q12, .inl (c12, 8, .inl (fun _ => 0)))) (Y := (((([] ++ kwS q13 u14) ++ kwS q15 u16) ++ kwS q17 u18) ++ kwS q19 u20)) (t0 := 24) C (by decide) (by decide) (by decide) (by decide) h0 rfl (k_apl (k_apl (k_apl (k_apl ht)))) hl (Nat.le_of_ble_eq_true rfl) (Nat.le_of_ble_eq_true rfl) (Nat.le_of_ble_eq_true rfl) (Nat.le_of_ble_eq_true rfl) hA hP hD hK hS (fun q21 u22 H locs ls hP hD hK hS hl => ?_)
  refine k_iter (x := 5) (y := 6) (i := 5) (f := (va_up (va_up (va_up (va_up (va_up (fun _ => none) 0 (some q13)) 1 (some q15)) 2 (some q17)) 3 (some q19)) 4 (some q21))) (er := (q12, .inl (c12, 8, .inl (fun _ => 0)))) (Y := ((((([] ++ kwS q13 u14) ++ kwS q15 u16) ++ kwS q17 u18) ++ kwS q19 u20) ++ kwS q21 u22)) (t0 := 24) C (by decide) (by decide) (by decide) (by decide) h0 rfl (k_apl (k_apl (k_apl (k_apl (k_apl ht))))) hl (Nat.le_of_ble_eq_true rfl) (Nat.le_of_ble_eq_true rfl) (Nat.le_of_ble_eq_true rfl) (Nat.le_of_ble_eq_true rfl) hA hP hD hK hS (fun q23 u24 H locs ls hP hD hK hS hl => ?_)
  refine k_iter (x := 6) (y := 7) (i := 6) (f := (va_up (va_up (va_up (va_up (va_up (va_up (fun _ => none) 0 (some q13)) 1 (some q15)) 2 (some q17)) 3 (some q19)) 4 (some q21)) 5 (some q23))) (er := (q12, .inl (c12, 8, .inl (fun _ => 0)))) (Y := (((((([] ++ kwS q13 u14) ++ kwS q15 u16) ++ kwS q17 u18) ++ kwS q19 u20) ++ kwS q21 u22) ++ kwS q23 u24)) (t0 := 24) C (by decide) (by decide) (by decide) (by decide) h0 rfl (k_apl (k_apl (k_apl (k_apl (k_apl (k_apl ht)))))) hl (Nat.le_of_ble_eq_true rfl) (Nat.le_of_ble_eq_true rfl) (Nat.le_of_ble_eq_true rfl) (Nat.le_of_ble_eq_true rfl) hA hP hD hK hS (fun q25 u26 H locs ls hP hD hK hS hl => ?_)
  refine k_iter (x := 7) (y := 8) (i := 7) (f := (va_up (va_up (va_up (va_up (va_up (va_up (va_up (fun _ => none) 0 (some q13)) 1 (some q15)) 2 (some q17)) 3 (some q19)) 4 (some q21)) 5 (some q23)) 6 (some q25))) (er := (q12, .inl (c12, 8, .inl (fun _ => 0)))) (Y := ((((((([] ++ kwS q13 u14) ++ kwS q15 u16) ++ kwS q17 u18) ++ kwS q19 u20) ++ kwS q21 u22) ++ kwS q23 u24) ++ kwS q25 u26)) (t0 := 24) C (by decide) (by decide) (by decide) (by decide) h0 rfl (k_apl (k_apl (k_apl (k_apl (k_apl (k_apl (k_apl ht))))))) hl (Nat.le_of_ble_eq_true rfl) (Nat.le_of_ble_eq_true rfl) (Nat.le_of_ble_eq_true rfl) (Nat.le_of_ble_eq_true rfl) hA hP hD hK hS (fun q27 u28 H locs ls hP hD hK hS hl => ?_)
  refine W.widen (k := 49) (n := 2766) (Nat.le_of_ble_eq_true rfl) (Nat.le_of_ble_eq_true rfl) ?_
  refine lv_iload_n hx hb kd5_83 rfl (lv_at hl 0 rfl) ?_
  refine lv_bipush (v := 8) hx hb kd5_84 (by decide) ?_
  refine lv_icmp_ge hx hb (tgt := 117) kd5_86 rfl (fun _ => ?_) (fun h9 => absurd (by decide) h9)
  subst hBs
  subst hTs
  exact W.vret hx hb hr (fun t ht hW => ⟨⟨((fun k => ([q11, q12] : List Nat).getD k 0, fun k => ([c11, c12] : List ClassId).getD k c11), fun k => if k < 20 then ([q1, q3, q5, q13, q15, q17, q19, q21, q23, q25, q27] : List Nat).getD k 0 else if k = 20 then q7 else q9, fun k => ([u2, u4, u6, u14, u16, u18, u20, u22, u24, u26, u28] : List kS).getD k u2, fun k => if k = 0 then u8 else u10), rfl, trivial, by rw [ht]; exact hP, va_K.moved hW.alike hK, hD⟩, hS.F ht⟩) hS.2.2 kd5_117
end KF
