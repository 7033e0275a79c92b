section KF
theorem kd5_0 : decode prog_1_method_1_code 0 = .ok (.aload_n 0, 1) := by decide +kernel
theorem kd5_1 : decode prog_1_method_1_code 1 = .ok (.invokespecial 1, 3) := by decide +kernel
theorem kd5_4 : decode prog_1_method_1_code 4 = .ok (.aload_n 0, 1) := by decide +kernel
theorem kd5_5 : decode prog_1_method_1_code 5 = .ok (.new 7, 3) := by decide +kernel
theorem kd5_8 : decode prog_1_method_1_code 8 = .ok (.dup, 1) := by decide +kernel
theorem kd5_9 : decode prog_1_method_1_code 9 = .ok (.invokespecial 9, 3) := by decide +kernel
theorem kd5_12 : decode prog_1_method_1_code 12 = .ok (.putfield 10, 3) := by decide +kernel
theorem kd5_15 : decode prog_1_method_1_code 15 = .ok (.aload_n 0, 1) := by decide +kernel
theorem kd5_16 : decode prog_1_method_1_code 16 = .ok (.new 7, 3) := by decide +kernel
theorem kd5_19 : decode prog_1_method_1_code 19 = .ok (.dup, 1) := by decide +kernel
theorem kd5_20 : decode prog_1_method_1_code 20 = .ok (.invokespecial 9, 3) := by decide +kernel
theorem kd5_23 : decode prog_1_method_1_code 23 = .ok (.putfield 16, 3) := by decide +kernel
theorem kd5_26 : decode prog_1_method_1_code 26 = .ok (.aload_n 0, 1) := by decide +kernel
theorem kd5_27 : decode prog_1_method_1_code 27 = .ok (.new 19, 3) := by decide +kernel
theorem kd5_30 : decode prog_1_method_1_code 30 = .ok (.dup, 1) := by decide +kernel
theorem kd5_31 : decode prog_1_method_1_code 31 = .ok (.invokespecial 21, 3) := by decide +kernel
theorem kd5_34 : decode prog_1_method_1_code 34 = .ok (.putfield 22, 3) := by decide +kernel
theorem kd5_37 : decode prog_1_method_1_code 37 = .ok (.aload_n 0, 1) := by decide +kernel
theorem kd5_38 : decode prog_1_method_1_code 38 = .ok (.new 26, 3) := by decide +kernel
theorem kd5_41 : decode prog_1_method_1_code 41 = .ok (.dup, 1) := by decide +kernel
theorem kd5_42 : decode prog_1_method_1_code 42 = .ok (.invokespecial 28, 3) := by decide +kernel
theorem kd5_45 : decode prog_1_method_1_code 45 = .ok (.putfield 29, 3) := by decide +kernel
theorem kd5_48 : decode prog_1_method_1_code 48 = .ok (.aload_n 0, 1) := by decide +kernel
theorem kd5_49 : decode prog_1_method_1_code 49 = .ok (.new 33, 3) := by decide +kernel
theorem kd5_52 : decode prog_1_method_1_code 52 = .ok (.dup, 1) := by decide +kernel
theorem kd5_53 : decode prog_1_method_1_code 53 = .ok (.invokespecial 35, 3) := by decide +kernel
theorem kd5_56 : decode prog_1_method_1_code 56 = .ok (.putfield 36, 3) := by decide +kernel
theorem kd5_59 : decode prog_1_method_1_code 59 = .ok (.aload_n 0, 1) := by decide +kernel
theorem kd5_60 : decode prog_1_method_1_code 60 = .ok (.bipush 8, 2) := by decide +kernel
theorem kd5_62 : decode prog_1_method_1_code 62 = .ok (.anewarray 40, 3) := by decide +kernel
theorem kd5_65 : decode prog_1_method_1_code 65 = .ok (.putfield 42, 3) := by decide +kernel
theorem kd5_68 : decode prog_1_method_1_code 68 = .ok (.aload_n 0, 1) := by decide +kernel
theorem kd5_69 : decode prog_1_method_1_code 69 = .ok (.bipush 8, 2) := by decide +kernel
theorem kd5_71 : decode prog_1_method_1_code 71 = .ok (.newarray .int, 2) := by decide +kernel
theorem kd5_73 : decode prog_1_method_1_code 73 = .ok (.putfield 46, 3) := by decide +kernel
theorem kd5_76 : decode prog_1_method_1_code 76 = .ok (.aload_n 0, 1) := by decide +kernel
theorem kd5_77 : decode prog_1_method_1_code 77 = .ok (.iconst 0, 1) := by decide +kernel
theorem kd5_78 : decode prog_1_method_1_code 78 = .ok (.putfield 50, 3) := by decide +kernel
theorem kd5_81 : decode prog_1_method_1_code 81 = .ok (.iconst 0, 1) := by decide +kernel
theorem kd5_82 : decode prog_1_method_1_code 82 = .ok (.istore_n 1, 1) := by decide +kernel
theorem kd5_83 : decode prog_1_method_1_code 83 = .ok (.iload_n 1, 1) := by decide +kernel
theorem kd5_84 : decode prog_1_method_1_code 84 = .ok (.bipush 8, 2) := by decide +kernel
theorem kd5_86 : decode prog_1_method_1_code 86 = .ok (.if_icmp .ge 31, 3) := by decide +kernel
theorem kd5_89 : decode prog_1_method_1_code 89 = .ok (.iload_n 1, 1) := by decide +kernel
theorem kd5_90 : decode prog_1_method_1_code 90 = .ok (.aload_n 0, 1) := by decide +kernel
theorem kd5_91 : decode prog_1_method_1_code 91 = .ok (.getfield 42, 3) := by decide +kernel
theorem kd5_94 : decode prog_1_method_1_code 94 = .ok (.arraylength, 1) := by decide +kernel
theorem kd5_95 : decode prog_1_method_1_code 95 = .ok (.if_icmp .ge 22, 3) := by decide +kernel
theorem kd5_98 : decode prog_1_method_1_code 98 = .ok (.aload_n 0, 1) := by decide +kernel
theorem kd5_99 : decode prog_1_method_1_code 99 = .ok (.getfield 42, 3) := by decide +kernel
theorem kd5_102 : decode prog_1_method_1_code 102 = .ok (.iload_n 1, 1) := by decide +kernel
theorem kd5_103 : decode prog_1_method_1_code 103 = .ok (.new 40, 3) := by decide +kernel
theorem kd5_106 : decode prog_1_method_1_code 106 = .ok (.dup, 1) := by decide +kernel
theorem kd5_107 : decode prog_1_method_1_code 107 = .ok (.invokespecial 54, 3) := by decide +kernel
theorem kd5_110 : decode prog_1_method_1_code 110 = .ok (.aastore, 1) := by decide +kernel
theorem kd5_111 : decode prog_1_method_1_code 111 = .ok (.iinc 1 1, 3) := by decide +kernel
theorem kd5_114 : decode prog_1_method_1_code 114 = .ok (.goto (-31), 3) := by decide +kernel
theorem kd5_117 : decode prog_1_method_1_code 117 = .ok (.return_, 1) := by decide +kernel
def kwT (h : Nat) (u : kS × (Nat → Nat) × (Nat → kS) × (Nat → kS × Nat × kS)) : va_W := (((((((((((((([(h, .inr (5, [.ref (u.2.1 0), .ref (u.2.1 1), .ref (u.2.1 2), .ref (u.2.1 20), .ref (u.2.1 21), .ref (u.1.1 0), .ref (u.1.1 1), .int 0]))] ++ kwH (u.2.1 0) (u.2.2.1 0)) ++ kwH (u.2.1 1) (u.2.2.1 1)) ++ kwA (u.2.1 2) (u.2.2.1 2)) ++ kwO (u.2.1 20) (u.2.2.2 0)) ++ kwR (u.2.1 21) (u.2.2.2 1)) ++ [((u.1.1 0), .inl ((u.1.2 0), 8, .inr (.inr (.inr (.inr (va_up (va_up (va_up (va_up (va_up (va_up (va_up (va_up (fun _ => none) 0 (some (u.2.1 3))) 1 (some (u.2.1 4))) 2 (some (u.2.1 5))) 3 (some (u.2.1 6))) 4 (some (u.2.1 7))) 5 (some (u.2.1 8))) 6 (some (u.2.1 9))) 7 (some (u.2.1 10)))))))), ((u.1.1 1), .inl ((u.1.2 1), 8, .inl (fun _ => 0)))]) ++ kwS (u.2.1 3) (u.2.2.1 3)) ++ kwS (u.2.1 4) (u.2.2.1 4)) ++ kwS (u.2.1 5) (u.2.2.1 5)) ++ kwS (u.2.1 6) (u.2.2.1 6)) ++ kwS (u.2.1 7) (u.2.2.1 7)) ++ kwS (u.2.1 8) (u.2.2.1 8)) ++ kwS (u.2.1 9) (u.2.2.1 9)) ++ kwS (u.2.1 10) (u.2.2.1 10))
def ktT (u : kS × (Nat → Nat) × (Nat → kS) × (Nat → kS × Nat × kS)) : List (ClassId × FieldType) := ((((((((((((((ktH (u.2.2.1 0)) ++ ktH (u.2.2.1 1)) ++ ktA (u.2.2.1 2)) ++ ktO (u.2.2.2 0)) ++ ktR (u.2.2.2 1)) ++ [((u.1.2 0), .object "TablesAndTips$Shelf"), ((u.1.2 1), .int)]) ++ ktS (u.2.2.1 3)) ++ ktS (u.2.2.1 4)) ++ ktS (u.2.2.1 5)) ++ ktS (u.2.2.1 6)) ++ ktS (u.2.2.1 7)) ++ ktS (u.2.2.1 8)) ++ ktS (u.2.2.1 9)) ++ ktS (u.2.2.1 10))
set_option maxHeartbeats 4000000 in
set_option maxRecDepth 100000 in
theorem k_T (l : Launch) (D : va_G) (h : Nat) (sz : Nat) : Met l ⟨zRn 5, "<init>", "()V"⟩ (jws (.code ⟨zRn 5, "<init>", "()V"⟩ prog_1_method_1_code 2 none)) (kRoom 4 49 2766) (kP D h [(h, .inr (5, [.null, .null, .null, .null, .null, .null, .null, .int 0]))] sz) (kQ (kwT h) ktT D (va_A [(h, .inr (5, [.null, .null, .null, .null, .null, .null, .null, .int 0]))] sz)) 49 2766 (va_A [(h, .inr (5, [.null, .null, .null, .null, .null, .null, .null, .int 0]))] sz) := by
  refine Met.ofW (cc := prog_1_method_1_code) (maxL := 2) (ret := none) (by decide) rfl ?_
  intro p e s m args below meth c s₁ B hml hv
  obtain ⟨rfl, hsz, hP, hK, hD0, hN⟩ := hv
  have hx := B.exec
  have hb := B.bytes
  have hr := B.returns
  have hts0 := atoms_spec (ws := jws (.code ⟨zRn 5, "<init>", "()V"⟩ prog_1_method_1_code 2 none)) B.pre
  have hts : ∀ w ∈ zTbl, w.before #[.ref h] s = true := fun w hw => hts0 w (List.mem_cons_of_mem _ hw)
  have hown : s.vm.findClass (zRn 5) = some m.cls := findClass_of_methodNamed B.named
  have hlocks := B.notSynchronized
  have hin : meth.name = "<init>" := (name_of_methodNamed B.named B.method).1
  have C : kCx p s m #[.ref h] meth c 5 prog_1_method_1_code 2 := ⟨hx, hb, hml, hown, hts, hin, hN, by decide⟩
  subst hsz
  have hD := hD0.self (sz := s.heap.size)
  generalize hAe : va_A [(h, .inr (5, [.null, .null, .null, .null, .null, .null, .null, .int 0]))] s.heap.size = A at hD ⊢
  have hA : ∀ q, s.heap.size ≤ q → A q := fun q h => by rw [← hAe]; exact Or.inr h
  have hS : va_S A s.heap s.heap [] := va_S.rf
  have hl := lv_entry ([.ref h]) (n := 2) (Nat.le_of_ble_eq_true rfl)
  rw [lg_entry_eq]
  generalize (lg_sl ([.ref h]) ++ List.replicate (2 - (lg_sl ([.ref h])).length) Slot.unset).toArray = ls at hl ⊢
  have hl : lv_has ls 2 [(0, .ref h)] := hl
  refine lv_aload_n hx hb kd5_0 rfl (lv_at hl 0 rfl) ?_
  refine k_obj C hl.1 (pos := 18) (by decide +kernel) (Nat.le_of_ble_eq_true rfl) (Nat.le_of_ble_eq_true rfl) (Nat.le_of_ble_eq_true rfl) (Nat.le_of_ble_eq_true rfl) kd5_1 ?_ rfl
  refine lv_aload_n hx hb kd5_4 rfl (lv_at hl 0 rfl) ?_
  refine k_new C hK hP hD hS hA (cN := 1) (by decide) (pos1 := 21) (pos2 := 22) (by decide +kernel) (by decide +kernel) (fs := [.null, .null, .null, .int 0, .int 0, .int 0, .int 0, .int 0, .null]) (by decide) (Nat.le_of_ble_eq_true rfl) (Nat.le_of_ble_eq_true rfl) kd5_5 (fun q1 H hP hD hS => ?_)
  refine W.widen (k := 1) (n := 9) (Nat.le_of_ble_eq_true rfl) (Nat.le_of_ble_eq_true rfl) ?_
  have hP : va_P D zcls [(h, .inr (5, [.null, .null, .null, .null, .null, .null, .null, .int 0])), (q1, .inr (1, [.null, .null, .null, .int 0, .int 0, .int 0, .int 0, .int 0, .null]))] H := hP
  have hD : va_D A [(h, .inr (5, [.null, .null, .null, .null, .null, .null, .null, .int 0])), (q1, .inr (1, [.null, .null, .null, .int 0, .int 0, .int 0, .int 0, .int 0, .null]))] := hD
  refine lv_dup hx hb kd5_8 rfl ?_
  refine k_callN (cN := 1) (mc := 4) (ms := 77) (X := [(h, .inr (5, [.null, .null, .null, .null, .null, .null, .null, .int 0]))]) (Wd := kwH q1) (Ty := ktH) C hl.1 (by decide) (fun sz => k_House l D q1 sz) (zmg (i := 25) (by decide +kernel) rfl) rfl rfl (zme (List.mem_of_getElem? (i := 23) (by decide +kernel))) (zmg (i := 24) (by decide +kernel) rfl) (by decide) ⟨Nat.le_of_ble_eq_true rfl, Nat.le_of_ble_eq_true rfl⟩ ⟨Nat.le_of_ble_eq_true rfl, Nat.le_of_ble_eq_true rfl⟩ hK hP hD hS hA (Nat.le_of_ble_eq_true rfl) kd5_9 (fun u2 H locs hP hK hD hS => ?_)
  refine W.widen (k := 5) (n := 86) (Nat.le_of_ble_eq_true rfl) (Nat.le_of_ble_eq_true rfl) ?_
  have hP : va_P D zcls ([(h, .inr (5, [.null, .null, .null, .null, .null, .null, .null, .int 0]))] ++ kwH q1 u2) H := hP
  have hD : va_D A ([(h, .inr (5, [.null, .null, .null, .null, .null, .null, .null, .int 0]))] ++ kwH q1 u2) := hD
  have hK : va_K D zcls (ktH u2) s := hK
  refine k_put C hK hP hD hS 0 rfl 0 (by decide) (pos := 159) (by decide +kernel) rfl rfl rfl rfl (Nat.le_of_ble_eq_true rfl) kd5_12 (fun H locs hP hD hS => ?_)
  have hP : va_P D zcls ([(h, .inr (5, [.ref q1, .null, .null, .null, .null, .null, .null, .int 0]))] ++ kwH q1 u2) H := hP
  have hD : va_D A ([(h, .inr (5, [.ref q1, .null, .null, .null, .null, .null, .null, .int 0]))] ++ kwH q1 u2) := hD
  refine lv_aload_n hx hb kd5_15 rfl (lv_at hl 0 rfl) ?_
  refine k_new C hK hP hD hS hA (cN := 1) (by decide) (pos1 := 21) (pos2 := 22) (by decide +kernel) (by decide +kernel) (fs := [.null, .null, .null, .int 0, .int 0, .int 0, .int 0, .int 0, .null]) (by decide) (Nat.le_of_ble_eq_true rfl) (Nat.le_of_ble_eq_true rfl) kd5_16 (fun q3 H hP hD hS => ?_)
  refine W.widen (k := 6) (n := 95) (Nat.le_of_ble_eq_true rfl) (Nat.le_of_ble_eq_true rfl) ?_
  have hP : va_P D zcls (([(h, .inr (5, [.ref q1, .null, .null, .null, .null, .null, .null, .int 0]))] ++ kwH q1 u2) ++ [(q3, .inr (1, [.null, .null, .null, .int 0, .int 0, .int 0, .int 0, .int 0, .null]))]) H := hP
  have hD : va_D A (([(h, .inr (5, [.ref q1, .null, .null, .null, .null, .null, .null, .int 0]))] ++ kwH q1 u2) ++ [(q3, .inr (1, [.null, .null, .null, .int 0, .int 0, .int 0, .int 0, .int 0, .null]))]) := hD
  refine lv_dup hx hb kd5_19 rfl ?_
  refine k_callN (cN := 1) (mc := 4) (ms := 77) (X := ([(h, .inr (5, [.ref q1, .null, .null, .null, .null, .null, .null, .int 0]))] ++ kwH q1 u2)) (Wd := kwH q3) (Ty := ktH) C hl.1 (by decide) (fun sz => k_House l D q3 sz) (zmg (i := 25) (by decide +kernel) rfl) rfl rfl (zme (List.mem_of_getElem? (i := 23) (by decide +kernel))) (zmg (i := 24) (by decide +kernel) rfl) (by decide) ⟨Nat.le_of_ble_eq_true rfl, Nat.le_of_ble_eq_true rfl⟩ ⟨Nat.le_of_ble_eq_true rfl, Nat.le_of_ble_eq_true rfl⟩ hK hP hD hS hA (Nat.le_of_ble_eq_true rfl) kd5_20 (fun u4 H locs hP hK hD hS => ?_)
  refine W.widen (k := 10) (n := 172) (Nat.le_of_ble_eq_true rfl) (Nat.le_of_ble_eq_true rfl) ?_
  have hP : va_P D zcls (([(h, .inr (5, [.ref q1, .null, .null, .null, .null, .null, .null, .int 0]))] ++ kwH q1 u2) ++ kwH q3 u4) H := hP
  have hD : va_D A (([(h, .inr (5, [.ref q1, .null, .null, .null, .null, .null, .null, .int 0]))] ++ kwH q1 u2) ++ kwH q3 u4) := hD
  have hK : va_K D zcls ((ktH u2) ++ ktH u4) s := hK
  refine k_put C hK hP hD hS 0 rfl 1 (by decide) (pos := 160) (by decide +kernel) rfl rfl rfl rfl (Nat.le_of_ble_eq_true rfl) kd5_23 (fun H locs hP hD hS => ?_)
  have hP : va_P D zcls (([(h, .inr (5, [.ref q1, .ref q3, .null, .null, .null, .null, .null, .int 0]))] ++ kwH q1 u2) ++ kwH q3 u4) H := hP
  have hD : va_D A (([(h, .inr (5, [.ref q1, .ref q3, .null, .null, .null, .null, .null, .int 0]))] ++ kwH q1 u2) ++ kwH q3 u4) := hD
  refine lv_aload_n hx hb kd5_26 rfl (lv_at hl 0 rfl) ?_
  refine k_new C hK hP hD hS hA (cN := 0) (by decide) (pos1 := 56) (pos2 := 57) (by decide +kernel) (by decide +kernel) (fs := [.null, .int 0, .int 0, .int 0, .int 0]) (by decide) (Nat.le_of_ble_eq_true rfl) (Nat.le_of_ble_eq_true rfl) kd5_27 (fun q5 H hP hD hS => ?_)
  refine W.widen (k := 11) (n := 177) (Nat.le_of_ble_eq_true rfl) (Nat.le_of_ble_eq_true rfl) ?_
  have hP : va_P D zcls ((([(h, .inr (5, [.ref q1, .ref q3, .null, .null, .null, .null, .null, .int 0]))] ++ kwH q1 u2) ++ kwH q3 u4) ++ [(q5, .inr (0, [.null, .int 0, .int 0, .int 0, .int 0]))]) H := hP
  have hD : va_D A ((([(h, .inr (5, [.ref q1, .ref q3, .null, .null, .null, .null, .null, .int 0]))] ++ kwH q1 u2) ++ kwH q3 u4) ++ [(q5, .inr (0, [.null, .int 0, .int 0, .int 0, .int 0]))]) := hD
  refine lv_dup hx hb kd5_30 rfl ?_
  refine k_callN (cN := 0) (mc := 1) (ms := 20) (X := (([(h, .inr (5, [.ref q1, .ref q3, .null, .null, .null, .null, .null, .int 0]))] ++ kwH q1 u2) ++ kwH q3 u4)) (Wd := kwA q5) (Ty := ktA) C hl.1 (by decide) (fun sz => k_Acts l D q5 sz) (zmg (i := 60) (by decide +kernel) rfl) rfl rfl (zme (List.mem_of_getElem? (i := 58) (by decide +kernel))) (zmg (i := 59) (by decide +kernel) rfl) (by decide) ⟨Nat.le_of_ble_eq_true rfl, Nat.le_of_ble_eq_true rfl⟩ ⟨Nat.le_of_ble_eq_true rfl, Nat.le_of_ble_eq_true rfl⟩ hK hP hD hS hA (Nat.le_of_ble_eq_true rfl) kd5_31 (fun u6 H locs hP hK hD hS => ?_)
  refine W.widen (k := 12) (n := 197) (Nat.le_of_ble_eq_true rfl) (Nat.le_of_ble_eq_true rfl) ?_
  have hP : va_P D zcls ((([(h, .inr (5, [.ref q1, .ref q3, .null, .null, .null, .null, .null, .int 0]))] ++ kwH q1 u2) ++ kwH q3 u4) ++ kwA q5 u6) H := hP
  have hD : va_D A ((([(h, .inr (5, [.ref q1, .ref q3, .null, .null, .null, .null, .null, .int 0]))] ++ kwH q1 u2) ++ kwH q3 u4) ++ kwA q5 u6) := hD
  have hK : va_K D zcls (((ktH u2) ++ ktH u4) ++ ktA u6) s := hK
  refine k_put C hK hP hD hS 0 rfl 2 (by decide) (pos := 161) (by decide +kernel) rfl rfl rfl rfl (Nat.le_of_ble_eq_true rfl) kd5_34 (fun H locs hP hD hS => ?_)
  have hP : va_P D zcls ((([(h, .inr (5, [.ref q1, .ref q3, .ref q5, .null, .null, .null, .null, .int 0]))] ++ kwH q1 u2) ++ kwH q3 u4) ++ kwA q5 u6) H := hP
  have hD : va_D A ((([(h, .inr (5, [.ref q1, .ref q3, .ref q5, .null, .null, .null, .null, .int 0]))] ++ kwH q1 u2) ++ kwH q3 u4) ++ kwA q5 u6) := hD
  refine lv_aload_n hx hb kd5_37 rfl (lv_at hl 0 rfl) ?_
  refine k_new C hK hP hD hS hA (cN := 2) (by decide) (pos1 := 78) (pos2 := 79) (by decide +kernel) (by decide +kernel) (fs := [.null, .null, .int 0, .int 0, .null, .null, .null, .null, .null, .int 0, .int 0]) (by decide) (Nat.le_of_ble_eq_true rfl) (Nat.le_of_ble_eq_true rfl) kd5_38 (fun q7 H hP hD hS => ?_)
  refine W.widen (k := 13) (n := 208) (Nat.le_of_ble_eq_true rfl) (Nat.le_of_ble_eq_true rfl) ?_
  have hP : va_P D zcls (((([(h, .inr (5, [.ref q1, .ref q3, .ref q5, .null, .null, .null, .null, .int 0]))] ++ kwH q1 u2) ++ kwH q3 u4) ++ kwA q5 u6) ++ [(q7, .inr (2, [.null, .null, .int 0, .int 0, .null, .null, .null, .null, .null, .int 0, .int 0]))]) H := hP
  have hD : va_D A (((([(h, .inr (5, [.ref q1, .ref q3, .ref q5, .null, .null, .null, .null, .int 0]))] ++ kwH q1 u2) ++ kwH q3 u4) ++ kwA q5 u6) ++ [(q7, .inr (2, [.null, .null, .int 0, .int 0, .null, .null, .null, .null, .null, .int 0, .int 0]))]) := hD
  refine lv_dup hx hb kd5_41 rfl ?_
  refine k_callN (cN := 2) (mc := 11) (ms := 1143) (X := ((([(h, .inr (5, [.ref q1, .ref q3, .ref q5, .null, .null, .null, .null, .int 0]))] ++ kwH q1 u2) ++ kwH q3 u4) ++ kwA q5 u6)) (Wd := kwO q7) (Ty := ktO) C hl.1 (by decide) (fun sz => k_Outcomes l D q7 sz) (zmg (i := 82) (by decide +kernel) rfl) rfl rfl (zme (List.mem_of_getElem? (i := 80) (by decide +kernel))) (zmg (i := 81) (by decide +kernel) rfl) (by decide) ⟨Nat.le_of_ble_eq_true rfl, Nat.le_of_ble_eq_true rfl⟩ ⟨Nat.le_of_ble_eq_true rfl, Nat.le_of_ble_eq_true rfl⟩ hK hP hD hS hA (Nat.le_of_ble_eq_true rfl) kd5_42 (fun u8 H locs hP hK hD hS => ?_)
  refine W.widen (k := 24) (n := 1351) (Nat.le_of_ble_eq_true rfl) (Nat.le_of_ble_eq_true rfl) ?_
  have hP : va_P D zcls (((([(h, .inr (5, [.ref q1, .ref q3, .ref q5, .null, .null, .null, .null, .int 0]))] ++ kwH q1 u2) ++ kwH q3 u4) ++ kwA q5 u6) ++ kwO q7 u8) H := hP
  have hD : va_D A (((([(h, .inr (5, [.ref q1, .ref q3, .ref q5, .null, .null, .null, .null, .int 0]))] ++ kwH q1 u2) ++ kwH q3 u4) ++ kwA q5 u6) ++ kwO q7 u8) := hD
  have hK : va_K D zcls ((((ktH u2) ++ ktH u4) ++ ktA u6) ++ ktO u8) s := hK
  refine k_put C hK hP hD hS 0 rfl 3 (by decide) (pos := 162) (by decide +kernel) rfl rfl rfl rfl (Nat.le_of_ble_eq_true rfl) kd5_45 (fun H locs hP hD hS => ?_)
  have hP : va_P D zcls (((([(h, .inr (5, [.ref q1, .ref q3, .ref q5, .ref q7, .null, .null, .null, .int 0]))] ++ kwH q1 u2) ++ kwH q3 u4) ++ kwA q5 u6) ++ kwO q7 u8) H := hP
  have hD : va_D A (((([(h, .inr (5, [.ref q1, .ref q3, .ref q5, .ref q7, .null, .null, .null, .int 0]))] ++ kwH q1 u2) ++ kwH q3 u4) ++ kwA q5 u6) ++ kwO q7 u8) := hD
  refine lv_aload_n hx hb kd5_48 rfl (lv_at hl 0 rfl) ?_
  refine k_new C hK hP hD hS hA (cN := 3) (by decide) (pos1 := 120) (pos2 := 121) (by decide +kernel) (by decide +kernel) (fs := [.null, .null, .int 0, .int 0]) (by decide) (Nat.le_of_ble_eq_true rfl) (Nat.le_of_ble_eq_true rfl) kd5_49 (fun q9 H hP hD hS => ?_)
  refine W.widen (k := 25) (n := 1355) (Nat.le_of_ble_eq_true rfl) (Nat.le_of_ble_eq_true rfl) ?_
  have hP : va_P D zcls ((((([(h, .inr (5, [.ref q1, .ref q3, .ref q5, .ref q7, .null, .null, .null, .int 0]))] ++ kwH q1 u2) ++ kwH q3 u4) ++ kwA q5 u6) ++ kwO q7 u8) ++ [(q9, .inr (3, [.null, .null, .int 0, .int 0]))]) H := hP
  have hD : va_D A ((((([(h, .inr (5, [.ref q1, .ref q3, .ref q5, .ref q7, .null, .null, .null, .int 0]))] ++ kwH q1 u2) ++ kwH q3 u4) ++ kwA q5 u6) ++ kwO q7 u8) ++ [(q9, .inr (3, [.null, .null, .int 0, .int 0]))]) := hD
  refine lv_dup hx hb kd5_52 rfl ?_
  refine k_callN (cN := 3) (mc := 6) (ms := 91) (X := (((([(h, .inr (5, [.ref q1, .ref q3, .ref q5, .ref q7, .null, .null, .null, .int 0]))] ++ kwH q1 u2) ++ kwH q3 u4) ++ kwA q5 u6) ++ kwO q7 u8)) (Wd := kwR q9) (Ty := ktR) C hl.1 (by decide) (fun sz => k_Reader l D q9 sz) (zmg (i := 124) (by decide +kernel) rfl) rfl rfl (zme (List.mem_of_getElem? (i := 122) (by decide +kernel))) (zmg (i := 123) (by decide +kernel) rfl) (by decide) ⟨Nat.le_of_ble_eq_true rfl, Nat.le_of_ble_eq_true rfl⟩ ⟨Nat.le_of_ble_eq_true rfl, Nat.le_of_ble_eq_true rfl⟩ hK hP hD hS hA (Nat.le_of_ble_eq_true rfl) kd5_53 (fun u10 H locs hP hK hD hS => ?_)
  refine W.widen (k := 31) (n := 1446) (Nat.le_of_ble_eq_true rfl) (Nat.le_of_ble_eq_true rfl) ?_
  have hP : va_P D zcls ((((([(h, .inr (5, [.ref q1, .ref q3, .ref q5, .ref q7, .null, .null, .null, .int 0]))] ++ kwH q1 u2) ++ kwH q3 u4) ++ kwA q5 u6) ++ kwO q7 u8) ++ kwR q9 u10) H := hP
  have hD : va_D A ((((([(h, .inr (5, [.ref q1, .ref q3, .ref q5, .ref q7, .null, .null, .null, .int 0]))] ++ kwH q1 u2) ++ kwH q3 u4) ++ kwA q5 u6) ++ kwO q7 u8) ++ kwR q9 u10) := hD
  have hK : va_K D zcls (((((ktH u2) ++ ktH u4) ++ ktA u6) ++ ktO u8) ++ ktR u10) s := hK
  refine k_put C hK hP hD hS 0 rfl 4 (by decide) (pos := 163) (by decide +kernel) rfl rfl rfl rfl (Nat.le_of_ble_eq_true rfl) kd5_56 (fun H locs hP hD hS => ?_)
  have hP : va_P D zcls ((((([(h, .inr (5, [.ref q1, .ref q3, .ref q5, .ref q7, .ref q9, .null, .null, .int 0]))] ++ kwH q1 u2) ++ kwH q3 u4) ++ kwA q5 u6) ++ kwO q7 u8) ++ kwR q9 u10) H := hP
  have hD : va_D A ((((([(h, .inr (5, [.ref q1, .ref q3, .ref q5, .ref q7, .ref q9, .null, .null, .int 0]))] ++ kwH q1 u2) ++ kwH q3 u4) ++ kwA q5 u6) ++ kwO q7 u8) ++ kwR q9 u10) := hD
  refine lv_aload_n hx hb kd5_59 rfl (lv_at hl 0 rfl) ?_
  refine lv_bipush (v := 8) hx hb kd5_60 (by decide) ?_
  refine va_newq (C := zRn 4) (N' := 8) hx hb hown (hts _ (zmg (i := 141) (by decide +kernel) rfl)) hN.2 hK hP hD hS hA (by decide) (by decide) (Nat.le_of_ble_eq_true rfl) (Nat.le_of_ble_eq_true rfl) (Nat.le_of_ble_eq_true rfl) kd5_62 (fun q11 c11 H hK hP hD hS => ?_)
  refine W.widen (k := 32) (n := 1454) (Nat.le_of_ble_eq_true rfl) (Nat.le_of_ble_eq_true rfl) ?_
  have hP : va_P D zcls (((((([(h, .inr (5, [.ref q1, .ref q3, .ref q5, .ref q7, .ref q9, .null, .null, .int 0]))] ++ kwH q1 u2) ++ kwH q3 u4) ++ kwA q5 u6) ++ kwO q7 u8) ++ kwR q9 u10) ++ [(q11, .inl (c11, 8, .inr (.inr (.inr (.inr (fun _ => none))))))]) H := hP
  have hD : va_D A (((((([(h, .inr (5, [.ref q1, .ref q3, .ref q5, .ref q7, .ref q9, .null, .null, .int 0]))] ++ kwH q1 u2) ++ kwH q3 u4) ++ kwA q5 u6) ++ kwO q7 u8) ++ kwR q9 u10) ++ [(q11, .inl (c11, 8, .inr (.inr (.inr (.inr (fun _ => none))))))]) := hD
  have hK : va_K D zcls ((((((ktH u2) ++ ktH u4) ++ ktA u6) ++ ktO u8) ++ ktR u10) ++ [(c11, .object "TablesAndTips$Shelf")]) s := hK
  refine k_put C hK hP hD hS 0 rfl 5 (by decide) (pos := 164) (by decide +kernel) rfl rfl rfl rfl (Nat.le_of_ble_eq_true rfl) kd5_65 (fun H locs hP hD hS => ?_)
  have hP : va_P D zcls (((((([(h, .inr (5, [.ref q1, .ref q3, .ref q5, .ref q7, .ref q9, .ref q11, .null, .int 0]))] ++ kwH q1 u2) ++ kwH q3 u4) ++ kwA q5 u6) ++ kwO q7 u8) ++ kwR q9 u10) ++ [(q11, .inl (c11, 8, .inr (.inr (.inr (.inr (fun _ => none))))))]) H := hP
  have hD : va_D A (((((([(h, .inr (5, [.ref q1, .ref q3, .ref q5, .ref q7, .ref q9, .ref q11, .null, .int 0]))] ++ kwH q1 u2) ++ kwH q3 u4) ++ kwA q5 u6) ++ kwO q7 u8) ++ kwR q9 u10) ++ [(q11, .inl (c11, 8, .inr (.inr (.inr (.inr (fun _ => none))))))]) := hD
  refine lv_aload_n hx hb kd5_68 rfl (lv_at hl 0 rfl) ?_
  refine lv_bipush (v := 8) hx hb kd5_69 (by decide) ?_
  refine k_newi C hK hP hD hS hA (N := 8) (by decide) (by decide) (Nat.le_of_ble_eq_true rfl) (Nat.le_of_ble_eq_true rfl) (Nat.le_of_ble_eq_true rfl) kd5_71 (fun q12 c12 H hK hP hD hS => ?_)
  refine W.widen (k := 33) (n := 1462) (Nat.le_of_ble_eq_true rfl) (Nat.le_of_ble_eq_true rfl) ?_
  have hP : va_P D zcls (((((([(h, .inr (5, [.ref q1, .ref q3, .ref q5, .ref q7, .ref q9, .ref q11, .null, .int 0]))] ++ kwH q1 u2) ++ kwH q3 u4) ++ kwA q5 u6) ++ kwO q7 u8) ++ kwR q9 u10) ++ [(q11, .inl (c11, 8, .inr (.inr (.inr (.inr (fun _ => none)))))), (q12, .inl (c12, 8, .inl (fun _ => 0)))]) H := hP
  have hD : va_D A (((((([(h, .inr (5, [.ref q1, .ref q3, .ref q5, .ref q7, .ref q9, .ref q11, .null, .int 0]))] ++ kwH q1 u2) ++ kwH q3 u4) ++ kwA q5 u6) ++ kwO q7 u8) ++ kwR q9 u10) ++ [(q11, .inl (c11, 8, .inr (.inr (.inr (.inr (fun _ => none)))))), (q12, .inl (c12, 8, .inl (fun _ => 0)))]) := hD
  have hK : va_K D zcls ((((((ktH u2) ++ ktH u4) ++ ktA u6) ++ ktO u8) ++ ktR u10) ++ [(c11, .object "TablesAndTips$Shelf"), (c12, .int)]) s := hK
  refine k_put C hK hP hD hS 0 rfl 6 (by decide) (pos := 165) (by decide +kernel) rfl rfl rfl rfl (Nat.le_of_ble_eq_true rfl) kd5_73 (fun H locs hP hD hS => ?_)
  have hP : va_P D zcls (((((([(h, .inr (5, [.ref q1, .ref q3, .ref q5, .ref q7, .ref q9, .ref q11, .ref q12, .int 0]))] ++ kwH q1 u2) ++ kwH q3 u4) ++ kwA q5 u6) ++ kwO q7 u8) ++ kwR q9 u10) ++ [(q11, .inl (c11, 8, .inr (.inr (.inr (.inr (fun _ => none)))))), (q12, .inl (c12, 8, .inl (fun _ => 0)))]) H := hP
  have hD : va_D A (((((([(h, .inr (5, [.ref q1, .ref q3, .ref q5, .ref q7, .ref q9, .ref q11, .ref q12, .int 0]))] ++ kwH q1 u2) ++ kwH q3 u4) ++ kwA q5 u6) ++ kwO q7 u8) ++ kwR q9 u10) ++ [(q11, .inl (c11, 8, .inr (.inr (.inr (.inr (fun _ => none)))))), (q12, .inl (c12, 8, .inl (fun _ => 0)))]) := hD
  refine lv_aload_n hx hb kd5_76 rfl (lv_at hl 0 rfl) ?_
  refine lv_iconst (v := 0) hx hb kd5_77 (by decide) ?_
  refine k_put C hK hP hD hS 0 rfl 7 (by decide) (pos := 166) (by decide +kernel) rfl rfl rfl rfl (Nat.le_of_ble_eq_true rfl) kd5_78 (fun H locs hP hD hS => ?_)
  have hP : va_P D zcls (((((([(h, .inr (5, [.ref q1, .ref q3, .ref q5, .ref q7, .ref q9, .ref q11, .ref q12, .int 0]))] ++ kwH q1 u2) ++ kwH q3 u4) ++ kwA q5 u6) ++ kwO q7 u8) ++ kwR q9 u10) ++ [(q11, .inl (c11, 8, .inr (.inr (.inr (.inr (fun _ => none)))))), (q12, .inl (c12, 8, .inl (fun _ => 0)))]) H := hP
  have hD : va_D A (((((([(h, .inr (5, [.ref q1, .ref q3, .ref q5, .ref q7, .ref q9, .ref q11, .ref q12, .int 0]))] ++ kwH q1 u2) ++ kwH q3 u4) ++ kwA q5 u6) ++ kwO q7 u8) ++ kwR q9 u10) ++ [(q11, .inl (c11, 8, .inr (.inr (.inr (.inr (fun _ => none)))))), (q12, .inl (c12, 8, .inl (fun _ => 0)))]) := hD
  refine lv_iconst (v := 0) hx hb kd5_81 (by decide) ?_
  refine lv_istore_n (lv' := [(1, .int 0), (0, .ref h)]) hx hb kd5_82 rfl hl (by decide) rfl (fun ls hl => ?_)
  refine lv_iload_n hx hb kd5_83 rfl (lv_at hl 0 rfl) ?_
  refine lv_bipush (v := 8) hx hb kd5_84 (by decide) ?_
  refine lv_icmp_ge hx hb (tgt := 117) kd5_86 rfl (fun h9 => absurd h9 (by decide)) (fun _ => ?_)
  refine lv_iload_n hx hb kd5_89 rfl (lv_at hl 0 rfl) ?_
  refine lv_aload_n hx hb kd5_90 rfl (lv_at hl 1 rfl) ?_
  refine k_get C hK hP 0 rfl 5 (by decide) (pos := 164) (by decide +kernel) rfl rfl kd5_91 ?_
  refine va_alen (v := 8) hx hb hK hP 32 24 rfl rfl rfl kd5_94 ?_
  refine lv_icmp_ge hx hb (tgt := 117) kd5_95 rfl (fun h9 => absurd h9 (by decide)) (fun _ => ?_)
  refine lv_aload_n hx hb kd5_98 rfl (lv_at hl 1 rfl) ?_
  refine k_get C hK hP 0 rfl 5 (by decide) (pos := 164) (by decide +kernel) rfl rfl kd5_99 ?_
  refine lv_iload_n hx hb kd5_102 rfl (lv_at hl 0 rfl) ?_
  refine k_new C hK hP hD hS hA (cN := 4) (by decide) (pos1 := 141) (pos2 := 143) (by decide +kernel) (by decide +kernel) (fs := [.null, .int 0, .int 0]) (by decide) (Nat.le_of_ble_eq_true rfl) (Nat.le_of_ble_eq_true rfl) kd5_103 (fun q13 H hP hD hS => ?_)
  refine W.widen (k := 34) (n := 1465) (Nat.le_of_ble_eq_true rfl) (Nat.le_of_ble_eq_true rfl) ?_
  have hP : va_P D zcls (((((([(h, .inr (5, [.ref q1, .ref q3, .ref q5, .ref q7, .ref q9, .ref q11, .ref q12, .int 0]))] ++ kwH q1 u2) ++ kwH q3 u4) ++ kwA q5 u6) ++ kwO q7 u8) ++ kwR q9 u10) ++ [(q11, .inl (c11, 8, .inr (.inr (.inr (.inr (fun _ => none)))))), (q12, .inl (c12, 8, .inl (fun _ => 0))), (q13, .inr (4, [.null, .int 0, .int 0]))]) H := hP
  have hD : va_D A (((((([(h, .inr (5, [.ref q1, .ref q3, .ref q5, .ref q7, .ref q9, .ref q11, .ref q12, .int 0]))] ++ kwH q1 u2) ++ kwH q3 u4) ++ kwA q5 u6) ++ kwO q7 u8) ++ kwR q9 u10) ++ [(q11, .inl (c11, 8, .inr (.inr (.inr (.inr (fun _ => none)))))), (q12, .inl (c12, 8, .inl (fun _ => 0))), (q13, .inr (4, [.null, .int 0, .int 0]))]) := hD
  refine lv_dup hx hb kd5_106 rfl ?_
  refine k_callN (cN := 4) (mc := 1) (ms := 160) (X := (((((([(h, .inr (5, [.ref q1, .ref q3, .ref q5, .ref q7, .ref q9, .ref q11, .ref q12, .int 0]))] ++ kwH q1 u2) ++ kwH q3 u4) ++ kwA q5 u6) ++ kwO q7 u8) ++ kwR q9 u10) ++ [(q11, .inl (c11, 8, .inr (.inr (.inr (.inr (fun _ => none)))))), (q12, .inl (c12, 8, .inl (fun _ => 0)))])) (Wd := kwS q13) (Ty := ktS) C hl.1 (by decide) (fun sz => k_Shelf l D q13 sz) (zmg (i := 146) (by decide +kernel) rfl) rfl rfl (zme (List.mem_of_getElem? (i := 144) (by decide +kernel))) (zmg (i := 145) (by decide +kernel) rfl) (by decide) ⟨Nat.le_of_ble_eq_true rfl, Nat.le_of_ble_eq_true rfl⟩ ⟨Nat.le_of_ble_eq_true rfl, Nat.le_of_ble_eq_true rfl⟩ hK hP hD hS hA (Nat.le_of_ble_eq_true rfl) kd5_107 (fun u14 H locs hP hK hD hS => ?_)
  refine W.widen (k := 35) (n := 1625) (Nat.le_of_ble_eq_true rfl) (Nat.le_of_ble_eq_true rfl) ?_
  have hP : va_P D zcls ((((((([(h, .inr (5, [.ref q1, .ref q3, .ref q5, .ref q7, .ref q9, .ref q11, .ref q12, .int 0]))] ++ kwH q1 u2) ++ kwH q3 u4) ++ kwA q5 u6) ++ kwO q7 u8) ++ kwR q9 u10) ++ [(q11, .inl (c11, 8, .inr (.inr (.inr (.inr (fun _ => none)))))), (q12, .inl (c12, 8, .inl (fun _ => 0)))]) ++ kwS q13 u14) H := hP
  have hD : va_D A ((((((([(h, .inr (5, [.ref q1, .ref q3, .ref q5, .ref q7, .ref q9, .ref q11, .ref q12, .int 0]))] ++ kwH q1 u2) ++ kwH q3 u4) ++ kwA q5 u6) ++ kwO q7 u8) ++ kwR q9 u10) ++ [(q11, .inl (c11, 8, .inr (.inr (.inr (.inr (fun _ => none)))))), (q12, .inl (c12, 8, .inl (fun _ => 0)))]) ++ kwS q13 u14) := hD
  have hK : va_K D zcls (((((((ktH u2) ++ ktH u4) ++ ktA u6) ++ ktO u8) ++ ktR u10) ++ [(c11, .object "TablesAndTips$Shelf"), (c12, .int)]) ++ ktS u14) s := hK
  refine va_astq hx hb hK hP hD hS 32 24 34 4 rfl rfl rfl (zcls_at 4 (by decide)) (zis_in (by decide)) kd5_110 (fun H locs hP hD hS => ?_)
  have hP : va_P D zcls ((((((([(h, .inr (5, [.ref q1, .ref q3, .ref q5, .ref q7, .ref q9, .ref q11, .ref q12, .int 0]))] ++ kwH q1 u2) ++ kwH q3 u4) ++ kwA q5 u6) ++ kwO q7 u8) ++ kwR q9 u10) ++ [(q11, .inl (c11, 8, .inr (.inr (.inr (.inr (va_up (fun _ => none) 0 (some q13))))))), (q12, .inl (c12, 8, .inl (fun _ => 0)))]) ++ kwS q13 u14) H := hP
  have hD : va_D A ((((((([(h, .inr (5, [.ref q1, .ref q3, .ref q5, .ref q7, .ref q9, .ref q11, .ref q12, .int 0]))] ++ kwH q1 u2) ++ kwH q3 u4) ++ kwA q5 u6) ++ kwO q7 u8) ++ kwR q9 u10) ++ [(q11, .inl (c11, 8, .inr (.inr (.inr (.inr (va_up (fun _ => none) 0 (some q13))))))), (q12, .inl (c12, 8, .inl (fun _ => 0)))]) ++ kwS q13 u14) := hD
  refine lv_iinc (v := 1) (lv' := [(1, .int 1), (0, .ref h)]) hx hb kd5_111 hl (k := 0) rfl (by decide) (by decide) rfl (fun ls hl => ?_)
  refine lv_goto hx hb (tgt := 83) kd5_114 rfl ?_
  refine lv_iload_n hx hb kd5_83 rfl (lv_at hl 0 rfl) ?_
  refine lv_bipush (v := 8) hx hb kd5_84 (by decide) ?_
  refine lv_icmp_ge hx hb (tgt := 117) kd5_86 rfl (fun h9 => absurd h9 (by decide)) (fun _ => ?_)
  refine lv_iload_n hx hb kd5_89 rfl (lv_at hl 0 rfl) ?_
  refine lv_aload_n hx hb kd5_90 rfl (lv_at hl 1 rfl) ?_
  refine k_get C hK hP 0 rfl 5 (by decide) (pos := 164) (by decide +kernel) rfl rfl kd5_91 ?_
  refine va_alen (v := 8) hx hb hK hP 32 24 rfl rfl rfl kd5_94 ?_
  refine lv_icmp_ge hx hb (tgt := 117) kd5_95 rfl (fun h9 => absurd h9 (by decide)) (fun _ => ?_)
  refine lv_aload_n hx hb kd5_98 rfl (lv_at hl 1 rfl) ?_
  refine k_get C hK hP 0 rfl 5 (by decide) (pos := 164) (by decide +kernel) rfl rfl kd5_99 ?_
  refine lv_iload_n hx hb kd5_102 rfl (lv_at hl 0 rfl) ?_
  refine k_new C hK hP hD hS hA (cN := 4) (by decide) (pos1 := 141) (pos2 := 143) (by decide +kernel) (by decide +kernel) (fs := [.null, .int 0, .int 0]) (by decide) (Nat.le_of_ble_eq_true rfl) (Nat.le_of_ble_eq_true rfl) kd5_103 (fun q15 H hP hD hS => ?_)
  refine W.widen (k := 36) (n := 1628) (Nat.le_of_ble_eq_true rfl) (Nat.le_of_ble_eq_true rfl) ?_
  have hP : va_P D zcls (((((((([(h, .inr (5, [.ref q1, .ref q3, .ref q5, .ref q7, .ref q9, .ref q11, .ref q12, .int 0]))] ++ kwH q1 u2) ++ kwH q3 u4) ++ kwA q5 u6) ++ kwO q7 u8) ++ kwR q9 u10) ++ [(q11, .inl (c11, 8, .inr (.inr (.inr (.inr (va_up (fun _ => none) 0 (some q13))))))), (q12, .inl (c12, 8, .inl (fun _ => 0)))]) ++ kwS q13 u14) ++ [(q15, .inr (4, [.null, .int 0, .int 0]))]) H := hP
  have hD : va_D A (((((((([(h, .inr (5, [.ref q1, .ref q3, .ref q5, .ref q7, .ref q9, .ref q11, .ref q12, .int 0]))] ++ kwH q1 u2) ++ kwH q3 u4) ++ kwA q5 u6) ++ kwO q7 u8) ++ kwR q9 u10) ++ [(q11, .inl (c11, 8, .inr (.inr (.inr (.inr (va_up (fun _ => none) 0 (some q13))))))), (q12, .inl (c12, 8, .inl (fun _ => 0)))]) ++ kwS q13 u14) ++ [(q15, .inr (4, [.null, .int 0, .int 0]))]) := hD
  refine lv_dup hx hb kd5_106 rfl ?_
  refine k_callN (cN := 4) (mc := 1) (ms := 160) (X := ((((((([(h, .inr (5, [.ref q1, .ref q3, .ref q5, .ref q7, .ref q9, .ref q11, .ref q12, .int 0]))] ++ kwH q1 u2) ++ kwH q3 u4) ++ kwA q5 u6) ++ kwO q7 u8) ++ kwR q9 u10) ++ [(q11, .inl (c11, 8, .inr (.inr (.inr (.inr (va_up (fun _ => none) 0 (some q13))))))), (q12, .inl (c12, 8, .inl (fun _ => 0)))]) ++ kwS q13 u14)) (Wd := kwS q15) (Ty := ktS) C hl.1 (by decide) (fun sz => k_Shelf l D q15 sz) (zmg (i := 146) (by decide +kernel) rfl) rfl rfl (zme (List.mem_of_getElem? (i := 144) (by decide +kernel))) (zmg (i := 145) (by decide +kernel) rfl) (by decide) ⟨Nat.le_of_ble_eq_true rfl, Nat.le_of_ble_eq_true rfl⟩ ⟨Nat.le_of_ble_eq_true rfl, Nat.le_of_ble_eq_true rfl⟩ hK hP hD hS hA (Nat.le_of_ble_eq_true rfl) kd5_107 (fun u16 H locs hP hK hD hS => ?_)
  refine W.widen (k := 37) (n := 1788) (Nat.le_of_ble_eq_true rfl) (Nat.le_of_ble_eq_true rfl) ?_
  have hP : va_P D zcls (((((((([(h, .inr (5, [.ref q1, .ref q3, .ref q5, .ref q7, .ref q9, .ref q11, .ref q12, .int 0]))] ++ kwH q1 u2) ++ kwH q3 u4) ++ kwA q5 u6) ++ kwO q7 u8) ++ kwR q9 u10) ++ [(q11, .inl (c11, 8, .inr (.inr (.inr (.inr (va_up (fun _ => none) 0 (some q13))))))), (q12, .inl (c12, 8, .inl (fun _ => 0)))]) ++ kwS q13 u14) ++ kwS q15 u16) H := hP
  have hD : va_D A (((((((([(h, .inr (5, [.ref q1, .ref q3, .ref q5, .ref q7, .ref q9, .ref q11, .ref q12, .int 0]))] ++ kwH q1 u2) ++ kwH q3 u4) ++ kwA q5 u6) ++ kwO q7 u8) ++ kwR q9 u10) ++ [(q11, .inl (c11, 8, .inr (.inr (.inr (.inr (va_up (fun _ => none) 0 (some q13))))))), (q12, .inl (c12, 8, .inl (fun _ => 0)))]) ++ kwS q13 u14) ++ kwS q15 u16) := hD
  have hK : va_K D zcls ((((((((ktH u2) ++ ktH u4) ++ ktA u6) ++ ktO u8) ++ ktR u10) ++ [(c11, .object "TablesAndTips$Shelf"), (c12, .int)]) ++ ktS u14) ++ ktS u16) s := hK
  refine va_astq hx hb hK hP hD hS 32 24 36 4 rfl rfl rfl (zcls_at 4 (by decide)) (zis_in (by decide)) kd5_110 (fun H locs hP hD hS => ?_)
  have hP : va_P D zcls (((((((([(h, .inr (5, [.ref q1, .ref q3, .ref q5, .ref q7, .ref q9, .ref q11, .ref q12, .int 0]))] ++ kwH q1 u2) ++ kwH q3 u4) ++ kwA q5 u6) ++ kwO q7 u8) ++ kwR q9 u10) ++ [(q11, .inl (c11, 8, .inr (.inr (.inr (.inr (va_up (va_up (fun _ => none) 0 (some q13)) 1 (some q15))))))), (q12, .inl (c12, 8, .inl (fun _ => 0)))]) ++ kwS q13 u14) ++ kwS q15 u16) H := hP
  have hD : va_D A (((((((([(h, .inr (5, [.ref q1, .ref q3, .ref q5, .ref q7, .ref q9, .ref q11, .ref q12, .int 0]))] ++ kwH q1 u2) ++ kwH q3 u4) ++ kwA q5 u6) ++ kwO q7 u8) ++ kwR q9 u10) ++ [(q11, .inl (c11, 8, .inr (.inr (.inr (.inr (va_up (va_up (fun _ => none) 0 (some q13)) 1 (some q15))))))), (q12, .inl (c12, 8, .inl (fun _ => 0)))]) ++ kwS q13 u14) ++ kwS q15 u16) := hD
  refine lv_iinc (v := 2) (lv' := [(1, .int 2), (0, .ref h)]) hx hb kd5_111 hl (k := 0) rfl (by decide) (by decide) rfl (fun ls hl => ?_)
  refine lv_goto hx hb (tgt := 83) kd5_114 rfl ?_
  refine lv_iload_n hx hb kd5_83 rfl (lv_at hl 0 rfl) ?_
  refine lv_bipush (v := 8) hx hb kd5_84 (by decide) ?_
  refine lv_icmp_ge hx hb (tgt := 117) kd5_86 rfl (fun h9 => absurd h9 (by decide)) (fun _ => ?_)
  refine lv_iload_n hx hb kd5_89 rfl (lv_at hl 0 rfl) ?_
  refine lv_aload_n hx hb kd5_90 rfl (lv_at hl 1 rfl) ?_
  refine k_get C hK hP 0 rfl 5 (by decide) (pos := 164) (by decide +kernel) rfl rfl kd5_91 ?_
  refine va_alen (v := 8) hx hb hK hP 32 24 rfl rfl rfl kd5_94 ?_
  refine lv_icmp_ge hx hb (tgt := 117) kd5_95 rfl (fun h9 => absurd h9 (by decide)) (fun _ => ?_)
  refine lv_aload_n hx hb kd5_98 rfl (lv_at hl 1 rfl) ?_
  refine k_get C hK hP 0 rfl 5 (by decide) (pos := 164) (by decide +kernel) rfl rfl kd5_99 ?_
  refine lv_iload_n hx hb kd5_102 rfl (lv_at hl 0 rfl) ?_
  refine k_new C hK hP hD hS hA (cN := 4) (by decide) (pos1 := 141) (pos2 := 143) (by decide +kernel) (by decide +kernel) (fs := [.null, .int 0, .int 0]) (by decide) (Nat.le_of_ble_eq_true rfl) (Nat.le_of_ble_eq_true rfl) kd5_103 (fun q17 H hP hD hS => ?_)
  refine W.widen (k := 38) (n := 1791) (Nat.le_of_ble_eq_true rfl) (Nat.le_of_ble_eq_true rfl) ?_
  have hP : va_P D zcls ((((((((([(h, .inr (5, [.ref q1, .ref q3, .ref q5, .ref q7, .ref q9, .ref q11, .ref q12, .int 0]))] ++ kwH q1 u2) ++ kwH q3 u4) ++ kwA q5 u6) ++ kwO q7 u8) ++ kwR q9 u10) ++ [(q11, .inl (c11, 8, .inr (.inr (.inr (.inr (va_up (va_up (fun _ => none) 0 (some q13)) 1 (some q15))))))), (q12, .inl (c12, 8, .inl (fun _ => 0)))]) ++ kwS q13 u14) ++ kwS q15 u16) ++ [(q17, .inr (4, [.null, .int 0, .int 0]))]) H := hP
  have hD : va_D A ((((((((([(h, .inr (5, [.ref q1, .ref q3, .ref q5, .ref q7, .ref q9, .ref q11, .ref q12, .int 0]))] ++ kwH q1 u2) ++ kwH q3 u4) ++ kwA q5 u6) ++ kwO q7 u8) ++ kwR q9 u10) ++ [(q11, .inl (c11, 8, .inr (.inr (.inr (.inr (va_up (va_up (fun _ => none) 0 (some q13)) 1 (some q15))))))), (q12, .inl (c12, 8, .inl (fun _ => 0)))]) ++ kwS q13 u14) ++ kwS q15 u16) ++ [(q17, .inr (4, [.null, .int 0, .int 0]))]) := hD
  refine lv_dup hx hb kd5_106 rfl ?_
  refine k_callN (cN := 4) (mc := 1) (ms := 160) (X := (((((((([(h, .inr (5, [.ref q1, .ref q3, .ref q5, .ref q7, .ref q9, .ref q11, .ref q12, .int 0]))] ++ kwH q1 u2) ++ kwH q3 u4) ++ kwA q5 u6) ++ kwO q7 u8) ++ kwR q9 u10) ++ [(q11, .inl (c11, 8, .inr (.inr (.inr (.inr (va_up (va_up (fun _ => none) 0 (some q13)) 1 (some q15))))))), (q12, .inl (c12, 8, .inl (fun _ => 0)))]) ++ kwS q13 u14) ++ kwS q15 u16)) (Wd := kwS q17) (Ty := ktS) C hl.1 (by decide) (fun sz => k_Shelf l D q17 sz) (zmg (i := 146) (by decide +kernel) rfl) rfl rfl (zme (List.mem_of_getElem? (i := 144) (by decide +kernel))) (zmg (i := 145) (by decide +kernel) rfl) (by decide) ⟨Nat.le_of_ble_eq_true rfl, Nat.le_of_ble_eq_true rfl⟩ ⟨Nat.le_of_ble_eq_true rfl, Nat.le_of_ble_eq_true rfl⟩ hK hP hD hS hA (Nat.le_of_ble_eq_true rfl) kd5_107 (fun u18 H locs hP hK hD hS => ?_)
  refine W.widen (k := 39) (n := 1951) (Nat.le_of_ble_eq_true rfl) (Nat.le_of_ble_eq_true rfl) ?_
  have hP : va_P D zcls ((((((((([(h, .inr (5, [.ref q1, .ref q3, .ref q5, .ref q7, .ref q9, .ref q11, .ref q12, .int 0]))] ++ kwH q1 u2) ++ kwH q3 u4) ++ kwA q5 u6) ++ kwO q7 u8) ++ kwR q9 u10) ++ [(q11, .inl (c11, 8, .inr (.inr (.inr (.inr (va_up (va_up (fun _ => none) 0 (some q13)) 1 (some q15))))))), (q12, .inl (c12, 8, .inl (fun _ => 0)))]) ++ kwS q13 u14) ++ kwS q15 u16) ++ kwS q17 u18) H := hP
  have hD : va_D A ((((((((([(h, .inr (5, [.ref q1, .ref q3, .ref q5, .ref q7, .ref q9, .ref q11, .ref q12, .int 0]))] ++ kwH q1 u2) ++ kwH q3 u4) ++ kwA q5 u6) ++ kwO q7 u8) ++ kwR q9 u10) ++ [(q11, .inl (c11, 8, .inr (.inr (.inr (.inr (va_up (va_up (fun _ => none) 0 (some q13)) 1 (some q15))))))), (q12, .inl (c12, 8, .inl (fun _ => 0)))]) ++ kwS q13 u14) ++ kwS q15 u16) ++ kwS q17 u18) := hD
  have hK : va_K D zcls (((((((((ktH u2) ++ ktH u4) ++ ktA u6) ++ ktO u8) ++ ktR u10) ++ [(c11, .object "TablesAndTips$Shelf"), (c12, .int)]) ++ ktS u14) ++ ktS u16) ++ ktS u18) s := hK
  refine va_astq hx hb hK hP hD hS 32 24 38 4 rfl rfl rfl (zcls_at 4 (by decide)) (zis_in (by decide)) kd5_110 (fun H locs hP hD hS => ?_)
  have hP : va_P D zcls ((((((((([(h, .inr (5, [.ref q1, .ref q3, .ref q5, .ref q7, .ref q9, .ref q11, .ref q12, .int 0]))] ++ kwH q1 u2) ++ kwH q3 u4) ++ kwA q5 u6) ++ kwO q7 u8) ++ kwR q9 u10) ++ [(q11, .inl (c11, 8, .inr (.inr (.inr (.inr (va_up (va_up (va_up (fun _ => none) 0 (some q13)) 1 (some q15)) 2 (some q17))))))), (q12, .inl (c12, 8, .inl (fun _ => 0)))]) ++ kwS q13 u14) ++ kwS q15 u16) ++ kwS q17 u18) H := hP
  have hD : va_D A ((((((((([(h, .inr (5, [.ref q1, .ref q3, .ref q5, .ref q7, .ref q9, .ref q11, .ref q12, .int 0]))] ++ kwH q1 u2) ++ kwH q3 u4) ++ kwA q5 u6) ++ kwO q7 u8) ++ kwR q9 u10) ++ [(q11, .inl (c11, 8, .inr (.inr (.inr (.inr (va_up (va_up (va_up (fun _ => none) 0 (some q13)) 1 (some q15)) 2 (some q17))))))), (q12, .inl (c12, 8, .inl (fun _ => 0)))]) ++ kwS q13 u14) ++ kwS q15 u16) ++ kwS q17 u18) := hD
  refine lv_iinc (v := 3) (lv' := [(1, .int 3), (0, .ref h)]) hx hb kd5_111 hl (k := 0) rfl (by decide) (by decide) rfl (fun ls hl => ?_)
  refine lv_goto hx hb (tgt := 83) kd5_114 rfl ?_
  refine lv_iload_n hx hb kd5_83 rfl (lv_at hl 0 rfl) ?_
  refine lv_bipush (v := 8) hx hb kd5_84 (by decide) ?_
  refine lv_icmp_ge hx hb (tgt := 117) kd5_86 rfl (fun h9 => absurd h9 (by decide)) (fun _ => ?_)
  refine lv_iload_n hx hb kd5_89 rfl (lv_at hl 0 rfl) ?_
  refine lv_aload_n hx hb kd5_90 rfl (lv_at hl 1 rfl) ?_
  refine k_get C hK hP 0 rfl 5 (by decide) (pos := 164) (by decide +kernel) rfl rfl kd5_91 ?_
  refine va_alen (v := 8) hx hb hK hP 32 24 rfl rfl rfl kd5_94 ?_
  refine lv_icmp_ge hx hb (tgt := 117) kd5_95 rfl (fun h9 => absurd h9 (by decide)) (fun _ => ?_)
  refine lv_aload_n hx hb kd5_98 rfl (lv_at hl 1 rfl) ?_
  refine k_get C hK hP 0 rfl 5 (by decide) (pos := 164) (by decide +kernel) rfl rfl kd5_99 ?_
  refine lv_iload_n hx hb kd5_102 rfl (lv_at hl 0 rfl) ?_
  refine k_new C hK hP hD hS hA (cN := 4) (by decide) (pos1 := 141) (pos2 := 143) (by decide +kernel) (by decide +kernel) (fs := [.null, .int 0, .int 0]) (by decide) (Nat.le_of_ble_eq_true rfl) (Nat.le_of_ble_eq_true rfl) kd5_103 (fun q19 H hP hD hS => ?_)
  refine W.widen (k := 40) (n := 1954) (Nat.le_of_ble_eq_true rfl) (Nat.le_of_ble_eq_true rfl) ?_
  have hP : va_P D zcls (((((((((([(h, .inr (5, [.ref q1, .ref q3, .ref q5, .ref q7, .ref q9, .ref q11, .ref q12, .int 0]))] ++ kwH q1 u2) ++ kwH q3 u4) ++ kwA q5 u6) ++ kwO q7 u8) ++ kwR q9 u10) ++ [(q11, .inl (c11, 8, .inr (.inr (.inr (.inr (va_up (va_up (va_up (fun _ => none) 0 (some q13)) 1 (some q15)) 2 (some q17))))))), (q12, .inl (c12, 8, .inl (fun _ => 0)))]) ++ kwS q13 u14) ++ kwS q15 u16) ++ kwS q17 u18) ++ [(q19, .inr (4, [.null, .int 0, .int 0]))]) H := hP
  have hD : va_D A (((((((((([(h, .inr (5, [.ref q1, .ref q3, .ref q5, .ref q7, .ref q9, .ref q11, .ref q12, .int 0]))] ++ kwH q1 u2) ++ kwH q3 u4) ++ kwA q5 u6) ++ kwO q7 u8) ++ kwR q9 u10) ++ [(q11, .inl (c11, 8, .inr (.inr (.inr (.inr (va_up (va_up (va_up (fun _ => none) 0 (some q13)) 1 (some q15)) 2 (some q17))))))), (q12, .inl (c12, 8, .inl (fun _ => 0)))]) ++ kwS q13 u14) ++ kwS q15 u16) ++ kwS q17 u18) ++ [(q19, .inr (4, [.null, .int 0, .int 0]))]) := hD
  refine lv_dup hx hb kd5_106 rfl ?_
  refine k_callN (cN := 4) (mc := 1) (ms := 160) (X := ((((((((([(h, .inr (5, [.ref q1, .ref q3, .ref q5, .ref q7, .ref q9, .ref q11, .ref q12, .int 0]))] ++ kwH q1 u2) ++ kwH q3 u4) ++ kwA q5 u6) ++ kwO q7 u8) ++ kwR q9 u10) ++ [(q11, .inl (c11, 8, .inr (.inr (.inr (.inr (va_up (va_up (va_up (fun _ => none) 0 (some q13)) 1 (some q15)) 2 (some q17))))))), (q12, .inl (c12, 8, .inl (fun _ => 0)))]) ++ kwS q13 u14) ++ kwS q15 u16) ++ kwS q17 u18)) (Wd := kwS q19) (Ty := ktS) C hl.1 (by decide) (fun sz => k_Shelf l D q19 sz) (zmg (i := 146) (by decide +kernel) rfl) rfl rfl (zme (List.mem_of_getElem? (i := 144) (by decide +kernel))) (zmg (i := 145) (by decide +kernel) rfl) (by decide) ⟨Nat.le_of_ble_eq_true rfl, Nat.le_of_ble_eq_true rfl⟩ ⟨Nat.le_of_ble_eq_true rfl, Nat.le_of_ble_eq_true rfl⟩ hK hP hD hS hA (Nat.le_of_ble_eq_true rfl) kd5_107 (fun u20 H locs hP hK hD hS => ?_)
  refine W.widen (k := 41) (n := 2114) (Nat.le_of_ble_eq_true rfl) (Nat.le_of_ble_eq_true rfl) ?_
  have hP : va_P D zcls (((((((((([(h, .inr (5, [.ref q1, .ref q3, .ref q5, .ref q7, .ref q9, .ref q11, .ref q12, .int 0]))] ++ kwH q1 u2) ++ kwH q3 u4) ++ kwA q5 u6) ++ kwO q7 u8) ++ kwR q9 u10) ++ [(q11, .inl (c11, 8, .inr (.inr (.inr (.inr (va_up (va_up (va_up (fun _ => none) 0 (some q13)) 1 (some q15)) 2 (some q17))))))), (q12, .inl (c12, 8, .inl (fun _ => 0)))]) ++ kwS q13 u14) ++ kwS q15 u16) ++ kwS q17 u18) ++ kwS q19 u20) H := hP
  have hD : va_D A (((((((((([(h, .inr (5, [.ref q1, .ref q3, .ref q5, .ref q7, .ref q9, .ref q11, .ref q12, .int 0]))] ++ kwH q1 u2) ++ kwH q3 u4) ++ kwA q5 u6) ++ kwO q7 u8) ++ kwR q9 u10) ++ [(q11, .inl (c11, 8, .inr (.inr (.inr (.inr (va_up (va_up (va_up (fun _ => none) 0 (some q13)) 1 (some q15)) 2 (some q17))))))), (q12, .inl (c12, 8, .inl (fun _ => 0)))]) ++ kwS q13 u14) ++ kwS q15 u16) ++ kwS q17 u18) ++ kwS q19 u20) := hD
  have hK : va_K D zcls ((((((((((ktH u2) ++ ktH u4) ++ ktA u6) ++ ktO u8) ++ ktR u10) ++ [(c11, .object "TablesAndTips$Shelf"), (c12, .int)]) ++ ktS u14) ++ ktS u16) ++ ktS u18) ++ ktS u20) s := hK
  refine va_astq hx hb hK hP hD hS 32 24 40 4 rfl rfl rfl (zcls_at 4 (by decide)) (zis_in (by decide)) kd5_110 (fun H locs hP hD hS => ?_)
  have hP : va_P D zcls (((((((((([(h, .inr (5, [.ref q1, .ref q3, .ref q5, .ref q7, .ref q9, .ref q11, .ref q12, .int 0]))] ++ kwH q1 u2) ++ kwH q3 u4) ++ kwA q5 u6) ++ kwO q7 u8) ++ kwR q9 u10) ++ [(q11, .inl (c11, 8, .inr (.inr (.inr (.inr (va_up (va_up (va_up (va_up (fun _ => none) 0 (some q13)) 1 (some q15)) 2 (some q17)) 3 (some q19))))))), (q12, .inl (c12, 8, .inl (fun _ => 0)))]) ++ kwS q13 u14) ++ kwS q15 u16) ++ kwS q17 u18) ++ kwS q19 u20) H := hP
  have hD : va_D A (((((((((([(h, .inr (5, [.ref q1, .ref q3, .ref q5, .ref q7, .ref q9, .ref q11, .ref q12, .int 0]))] ++ kwH q1 u2) ++ kwH q3 u4) ++ kwA q5 u6) ++ kwO q7 u8) ++ kwR q9 u10) ++ [(q11, .inl (c11, 8, .inr (.inr (.inr (.inr (va_up (va_up (va_up (va_up (fun _ => none) 0 (some q13)) 1 (some q15)) 2 (some q17)) 3 (some q19))))))), (q12, .inl (c12, 8, .inl (fun _ => 0)))]) ++ kwS q13 u14) ++ kwS q15 u16) ++ kwS q17 u18) ++ kwS q19 u20) := hD
  refine lv_iinc (v := 4) (lv' := [(1, .int 4), (0, .ref h)]) hx hb kd5_111 hl (k := 0) rfl (by decide) (by decide) rfl (fun ls hl => ?_)
  refine lv_goto hx hb (tgt := 83) kd5_114 rfl ?_
  refine lv_iload_n hx hb kd5_83 rfl (lv_at hl 0 rfl) ?_
  refine lv_bipush (v := 8) hx hb kd5_84 (by decide) ?_
  refine lv_icmp_ge hx hb (tgt := 117) kd5_86 rfl (fun h9 => absurd h9 (by decide)) (fun _ => ?_)
  refine lv_iload_n hx hb kd5_89 rfl (lv_at hl 0 rfl) ?_
  refine lv_aload_n hx hb kd5_90 rfl (lv_at hl 1 rfl) ?_
  refine k_get C hK hP 0 rfl 5 (by decide) (pos := 164) (by decide +kernel) rfl rfl kd5_91 ?_
  refine va_alen (v := 8) hx hb hK hP 32 24 rfl rfl rfl kd5_94 ?_
  refine lv_icmp_ge hx hb (tgt := 117) kd5_95 rfl (fun h9 => absurd h9 (by decide)) (fun _ => ?_)
  refine lv_aload_n hx hb kd5_98 rfl (lv_at hl 1 rfl) ?_
  refine k_get C hK hP 0 rfl 5 (by decide) (pos := 164) (by decide +kernel) rfl rfl kd5_99 ?_
  refine lv_iload_n hx hb kd5_102 rfl (lv_at hl 0 rfl) ?_
  refine k_new C hK hP hD hS hA (cN := 4) (by decide) (pos1 := 141) (pos2 := 143) (by decide +kernel) (by decide +kernel) (fs := [.null, .int 0, .int 0]) (by decide) (Nat.le_of_ble_eq_true rfl) (Nat.le_of_ble_eq_true rfl) kd5_103 (fun q21 H hP hD hS => ?_)
  refine W.widen (k := 42) (n := 2117) (Nat.le_of_ble_eq_true rfl) (Nat.le_of_ble_eq_true rfl) ?_
  have hP : va_P D zcls ((((((((((([(h, .inr (5, [.ref q1, .ref q3, .ref q5, .ref q7, .ref q9, .ref q11, .ref q12, .int 0]))] ++ kwH q1 u2) ++ kwH q3 u4) ++ kwA q5 u6) ++ kwO q7 u8) ++ kwR q9 u10) ++ [(q11, .inl (c11, 8, .inr (.inr (.inr (.inr (va_up (va_up (va_up (va_up (fun _ => none) 0 (some q13)) 1 (some q15)) 2 (some q17)) 3 (some q19))))))), (q12, .inl (c12, 8, .inl (fun _ => 0)))]) ++ kwS q13 u14) ++ kwS q15 u16) ++ kwS q17 u18) ++ kwS q19 u20) ++ [(q21, .inr (4, [.null, .int 0, .int 0]))]) H := hP
  have hD : va_D A ((((((((((([(h, .inr (5, [.ref q1, .ref q3, .ref q5, .ref q7, .ref q9, .ref q11, .ref q12, .int 0]))] ++ kwH q1 u2) ++ kwH q3 u4) ++ kwA q5 u6) ++ kwO q7 u8) ++ kwR q9 u10) ++ [(q11, .inl (c11, 8, .inr (.inr (.inr (.inr (va_up (va_up (va_up (va_up (fun _ => none) 0 (some q13)) 1 (some q15)) 2 (some q17)) 3 (some q19))))))), (q12, .inl (c12, 8, .inl (fun _ => 0)))]) ++ kwS q13 u14) ++ kwS q15 u16) ++ kwS q17 u18) ++ kwS q19 u20) ++ [(q21, .inr (4, [.null, .int 0, .int 0]))]) := hD
  refine lv_dup hx hb kd5_106 rfl ?_
  refine k_callN (cN := 4) (mc := 1) (ms := 160) (X := (((((((((([(h, .inr (5, [.ref q1, .ref q3, .ref q5, .ref q7, .ref q9, .ref q11, .ref q12, .int 0]))] ++ kwH q1 u2) ++ kwH q3 u4) ++ kwA q5 u6) ++ kwO q7 u8) ++ kwR q9 u10) ++ [(q11, .inl (c11, 8, .inr (.inr (.inr (.inr (va_up (va_up (va_up (va_up (fun _ => none) 0 (some q13)) 1 (some q15)) 2 (some q17)) 3 (some q19))))))), (q12, .inl (c12, 8, .inl (fun _ => 0)))]) ++ kwS q13 u14) ++ kwS q15 u16) ++ kwS q17 u18) ++ kwS q19 u20)) (Wd := kwS q21) (Ty := ktS) C hl.1 (by decide) (fun sz => k_Shelf l D q21 sz) (zmg (i := 146) (by decide +kernel) rfl) rfl rfl (zme (List.mem_of_getElem? (i := 144) (by decide +kernel))) (zmg (i := 145) (by decide +kernel) rfl) (by decide) ⟨Nat.le_of_ble_eq_true rfl, Nat.le_of_ble_eq_true rfl⟩ ⟨Nat.le_of_ble_eq_true rfl, Nat.le_of_ble_eq_true rfl⟩ hK hP hD hS hA (Nat.le_of_ble_eq_true rfl) kd5_107 (fun u22 H locs hP hK hD hS => ?_)
  refine W.widen (k := 43) (n := 2277) (Nat.le_of_ble_eq_true rfl) (Nat.le_of_ble_eq_true rfl) ?_
  have hP : va_P D zcls ((((((((((([(h, .inr (5, [.ref q1, .ref q3, .ref q5, .ref q7, .ref q9, .ref q11, .ref q12, .int 0]))] ++ kwH q1 u2) ++ kwH q3 u4) ++ kwA q5 u6) ++ kwO q7 u8) ++ kwR q9 u10) ++ [(q11, .inl (c11, 8, .inr (.inr (.inr (.inr (va_up (va_up (va_up (va_up (fun _ => none) 0 (some q13)) 1 (some q15)) 2 (some q17)) 3 (some q19))))))), (q12, .inl (c12, 8, .inl (fun _ => 0)))]) ++ kwS q13 u14) ++ kwS q15 u16) ++ kwS q17 u18) ++ kwS q19 u20) ++ kwS q21 u22) H := hP
  have hD : va_D A ((((((((((([(h, .inr (5, [.ref q1, .ref q3, .ref q5, .ref q7, .ref q9, .ref q11, .ref q12, .int 0]))] ++ kwH q1 u2) ++ kwH q3 u4) ++ kwA q5 u6) ++ kwO q7 u8) ++ kwR q9 u10) ++ [(q11, .inl (c11, 8, .inr (.inr (.inr (.inr (va_up (va_up (va_up (va_up (fun _ => none) 0 (some q13)) 1 (some q15)) 2 (some q17)) 3 (some q19))))))), (q12, .inl (c12, 8, .inl (fun _ => 0)))]) ++ kwS q13 u14) ++ kwS q15 u16) ++ kwS q17 u18) ++ kwS q19 u20) ++ kwS q21 u22) := hD
  have hK : va_K D zcls (((((((((((ktH u2) ++ ktH u4) ++ ktA u6) ++ ktO u8) ++ ktR u10) ++ [(c11, .object "TablesAndTips$Shelf"), (c12, .int)]) ++ ktS u14) ++ ktS u16) ++ ktS u18) ++ ktS u20) ++ ktS u22) s := hK
  refine va_astq hx hb hK hP hD hS 32 24 42 4 rfl rfl rfl (zcls_at 4 (by decide)) (zis_in (by decide)) kd5_110 (fun H locs hP hD hS => ?_)
  have hP : va_P D zcls ((((((((((([(h, .inr (5, [.ref q1, .ref q3, .ref q5, .ref q7, .ref q9, .ref q11, .ref q12, .int 0]))] ++ kwH q1 u2) ++ kwH q3 u4) ++ kwA q5 u6) ++ kwO q7 u8) ++ kwR q9 u10) ++ [(q11, .inl (c11, 8, .inr (.inr (.inr (.inr (va_up (va_up (va_up (va_up (va_up (fun _ => none) 0 (some q13)) 1 (some q15)) 2 (some q17)) 3 (some q19)) 4 (some q21))))))), (q12, .inl (c12, 8, .inl (fun _ => 0)))]) ++ kwS q13 u14) ++ kwS q15 u16) ++ kwS q17 u18) ++ kwS q19 u20) ++ kwS q21 u22) H := hP
  have hD : va_D A ((((((((((([(h, .inr (5, [.ref q1, .ref q3, .ref q5, .ref q7, .ref q9, .ref q11, .ref q12, .int 0]))] ++ kwH q1 u2) ++ kwH q3 u4) ++ kwA q5 u6) ++ kwO q7 u8) ++ kwR q9 u10) ++ [(q11, .inl (c11, 8, .inr (.inr (.inr (.inr (va_up (va_up (va_up (va_up (va_up (fun _ => none) 0 (some q13)) 1 (some q15)) 2 (some q17)) 3 (some q19)) 4 (some q21))))))), (q12, .inl (c12, 8, .inl (fun _ => 0)))]) ++ kwS q13 u14) ++ kwS q15 u16) ++ kwS q17 u18) ++ kwS q19 u20) ++ kwS q21 u22) := hD
  refine lv_iinc (v := 5) (lv' := [(1, .int 5), (0, .ref h)]) hx hb kd5_111 hl (k := 0) rfl (by decide) (by decide) rfl (fun ls hl => ?_)
  refine lv_goto hx hb (tgt := 83) kd5_114 rfl ?_
  refine lv_iload_n hx hb kd5_83 rfl (lv_at hl 0 rfl) ?_
  refine lv_bipush (v := 8) hx hb kd5_84 (by decide) ?_
  refine lv_icmp_ge hx hb (tgt := 117) kd5_86 rfl (fun h9 => absurd h9 (by decide)) (fun _ => ?_)
  refine lv_iload_n hx hb kd5_89 rfl (lv_at hl 0 rfl) ?_
  refine lv_aload_n hx hb kd5_90 rfl (lv_at hl 1 rfl) ?_
  refine k_get C hK hP 0 rfl 5 (by decide) (pos := 164) (by decide +kernel) rfl rfl kd5_91 ?_
  refine va_alen (v := 8) hx hb hK hP 32 24 rfl rfl rfl kd5_94 ?_
  refine lv_icmp_ge hx hb (tgt := 117) kd5_95 rfl (fun h9 => absurd h9 (by decide)) (fun _ => ?_)
  refine lv_aload_n hx hb kd5_98 rfl (lv_at hl 1 rfl) ?_
  refine k_get C hK hP 0 rfl 5 (by decide) (pos := 164) (by decide +kernel) rfl rfl kd5_99 ?_
  refine lv_iload_n hx hb kd5_102 rfl (lv_at hl 0 rfl) ?_
  refine k_new C hK hP hD hS hA (cN := 4) (by decide) (pos1 := 141) (pos2 := 143) (by decide +kernel) (by decide +kernel) (fs := [.null, .int 0, .int 0]) (by decide) (Nat.le_of_ble_eq_true rfl) (Nat.le_of_ble_eq_true rfl) kd5_103 (fun q23 H hP hD hS => ?_)
  refine W.widen (k := 44) (n := 2280) (Nat.le_of_ble_eq_true rfl) (Nat.le_of_ble_eq_true rfl) ?_
  have hP : va_P D zcls (((((((((((([(h, .inr (5, [.ref q1, .ref q3, .ref q5, .ref q7, .ref q9, .ref q11, .ref q12, .int 0]))] ++ kwH q1 u2) ++ kwH q3 u4) ++ kwA q5 u6) ++ kwO q7 u8) ++ kwR q9 u10) ++ [(q11, .inl (c11, 8, .inr (.inr (.inr (.inr (va_up (va_up (va_up (va_up (va_up (fun _ => none) 0 (some q13)) 1 (some q15)) 2 (some q17)) 3 (some q19)) 4 (some q21))))))), (q12, .inl (c12, 8, .inl (fun _ => 0)))]) ++ kwS q13 u14) ++ kwS q15 u16) ++ kwS q17 u18) ++ kwS q19 u20) ++ kwS q21 u22) ++ [(q23, .inr (4, [.null, .int 0, .int 0]))]) H := hP
  have hD : va_D A (((((((((((([(h, .inr (5, [.ref q1, .ref q3, .ref q5, .ref q7, .ref q9, .ref q11, .ref q12, .int 0]))] ++ kwH q1 u2) ++ kwH q3 u4) ++ kwA q5 u6) ++ kwO q7 u8) ++ kwR q9 u10) ++ [(q11, .inl (c11, 8, .inr (.inr (.inr (.inr (va_up (va_up (va_up (va_up (va_up (fun _ => none) 0 (some q13)) 1 (some q15)) 2 (some q17)) 3 (some q19)) 4 (some q21))))))), (q12, .inl (c12, 8, .inl (fun _ => 0)))]) ++ kwS q13 u14) ++ kwS q15 u16) ++ kwS q17 u18) ++ kwS q19 u20) ++ kwS q21 u22) ++ [(q23, .inr (4, [.null, .int 0, .int 0]))]) := hD
  refine lv_dup hx hb kd5_106 rfl ?_
  refine k_callN (cN := 4) (mc := 1) (ms := 160) (X := ((((((((((([(h, .inr (5, [.ref q1, .ref q3, .ref q5, .ref q7, .ref q9, .ref q11, .ref q12, .int 0]))] ++ kwH q1 u2) ++ kwH q3 u4) ++ kwA q5 u6) ++ kwO q7 u8) ++ kwR q9 u10) ++ [(q11, .inl (c11, 8, .inr (.inr (.inr (.inr (va_up (va_up (va_up (va_up (va_up (fun _ => none) 0 (some q13)) 1 (some q15)) 2 (some q17)) 3 (some q19)) 4 (some q21))))))), (q12, .inl (c12, 8, .inl (fun _ => 0)))]) ++ kwS q13 u14) ++ kwS q15 u16) ++ kwS q17 u18) ++ kwS q19 u20) ++ kwS q21 u22)) (Wd := kwS q23) (Ty := ktS) C hl.1 (by decide) (fun sz => k_Shelf l D q23 sz) (zmg (i := 146) (by decide +kernel) rfl) rfl rfl (zme (List.mem_of_getElem? (i := 144) (by decide +kernel))) (zmg (i := 145) (by decide +kernel) rfl) (by decide) ⟨Nat.le_of_ble_eq_true rfl, Nat.le_of_ble_eq_true rfl⟩ ⟨Nat.le_of_ble_eq_true rfl, Nat.le_of_ble_eq_true rfl⟩ hK hP hD hS hA (Nat.le_of_ble_eq_true rfl) kd5_107 (fun u24 H locs hP hK hD hS => ?_)
  refine W.widen (k := 45) (n := 2440) (Nat.le_of_ble_eq_true rfl) (Nat.le_of_ble_eq_true rfl) ?_
  have hP : va_P D zcls (((((((((((([(h, .inr (5, [.ref q1, .ref q3, .ref q5, .ref q7, .ref q9, .ref q11, .ref q12, .int 0]))] ++ kwH q1 u2) ++ kwH q3 u4) ++ kwA q5 u6) ++ kwO q7 u8) ++ kwR q9 u10) ++ [(q11, .inl (c11, 8, .inr (.inr (.inr (.inr (va_up (va_up (va_up (va_up (va_up (fun _ => none) 0 (some q13)) 1 (some q15)) 2 (some q17)) 3 (some q19)) 4 (some q21))))))), (q12, .inl (c12, 8, .inl (fun _ => 0)))]) ++ kwS q13 u14) ++ kwS q15 u16) ++ kwS q17 u18) ++ kwS q19 u20) ++ kwS q21 u22) ++ kwS q23 u24) H := hP
  have hD : va_D A (((((((((((([(h, .inr (5, [.ref q1, .ref q3, .ref q5, .ref q7, .ref q9, .ref q11, .ref q12, .int 0]))] ++ kwH q1 u2) ++ kwH q3 u4) ++ kwA q5 u6) ++ kwO q7 u8) ++ kwR q9 u10) ++ [(q11, .inl (c11, 8, .inr (.inr (.inr (.inr (va_up (va_up (va_up (va_up (va_up (fun _ => none) 0 (some q13)) 1 (some q15)) 2 (some q17)) 3 (some q19)) 4 (some q21))))))), (q12, .inl (c12, 8, .inl (fun _ => 0)))]) ++ kwS q13 u14) ++ kwS q15 u16) ++ kwS q17 u18) ++ kwS q19 u20) ++ kwS q21 u22) ++ kwS q23 u24) := hD
  have hK : va_K D zcls ((((((((((((ktH u2) ++ ktH u4) ++ ktA u6) ++ ktO u8) ++ ktR u10) ++ [(c11, .object "TablesAndTips$Shelf"), (c12, .int)]) ++ ktS u14) ++ ktS u16) ++ ktS u18) ++ ktS u20) ++ ktS u22) ++ ktS u24) s := hK
  refine va_astq hx hb hK hP hD hS 32 24 44 4 rfl rfl rfl (zcls_at 4 (by decide)) (zis_in (by decide)) kd5_110 (fun H locs hP hD hS => ?_)
  have hP : va_P D zcls (((((((((((([(h, .inr (5, [.ref q1, .ref q3, .ref q5, .ref q7, .ref q9, .ref q11, .ref q12, .int 0]))] ++ kwH q1 u2) ++ kwH q3 u4) ++ kwA q5 u6) ++ kwO q7 u8) ++ kwR q9 u10) ++ [(q11, .inl (c11, 8, .inr (.inr (.inr (.inr (va_up (va_up (va_up (va_up (va_up (va_up (fun _ => none) 0 (some q13)) 1 (some q15)) 2 (some q17)) 3 (some q19)) 4 (some q21)) 5 (some q23))))))), (q12, .inl (c12, 8, .inl (fun _ => 0)))]) ++ kwS q13 u14) ++ kwS q15 u16) ++ kwS q17 u18) ++ kwS q19 u20) ++ kwS q21 u22) ++ kwS q23 u24) H := hP
  have hD : va_D A (((((((((((([(h, .inr (5, [.ref q1, .ref q3, .ref q5, .ref q7, .ref q9, .ref q11, .ref q12, .int 0]))] ++ kwH q1 u2) ++ kwH q3 u4) ++ kwA q5 u6) ++ kwO q7 u8) ++ kwR q9 u10) ++ [(q11, .inl (c11, 8, .inr (.inr (.inr (.inr (va_up (va_up (va_up (va_up (va_up (va_up (fun _ => none) 0 (some q13)) 1 (some q15)) 2 (some q17)) 3 (some q19)) 4 (some q21)) 5 (some q23))))))), (q12, .inl (c12, 8, .inl (fun _ => 0)))]) ++ kwS q13 u14) ++ kwS q15 u16) ++ kwS q17 u18) ++ kwS q19 u20) ++ kwS q21 u22) ++ kwS q23 u24) := hD
  refine lv_iinc (v := 6) (lv' := [(1, .int 6), (0, .ref h)]) hx hb kd5_111 hl (k := 0) rfl (by decide) (by decide) rfl (fun ls hl => ?_)
  refine lv_goto hx hb (tgt := 83) kd5_114 rfl ?_
  refine lv_iload_n hx hb kd5_83 rfl (lv_at hl 0 rfl) ?_
  refine lv_bipush (v := 8) hx hb kd5_84 (by decide) ?_
  refine lv_icmp_ge hx hb (tgt := 117) kd5_86 rfl (fun h9 => absurd h9 (by decide)) (fun _ => ?_)
  refine lv_iload_n hx hb kd5_89 rfl (lv_at hl 0 rfl) ?_
  refine lv_aload_n hx hb kd5_90 rfl (lv_at hl 1 rfl) ?_
  refine k_get C hK hP 0 rfl 5 (by decide) (pos := 164) (by decide +kernel) rfl rfl kd5_91 ?_
  refine va_alen (v := 8) hx hb hK hP 32 24 rfl rfl rfl kd5_94 ?_
  refine lv_icmp_ge hx hb (tgt := 117) kd5_95 rfl (fun h9 => absurd h9 (by decide)) (fun _ => ?_)
  refine lv_aload_n hx hb kd5_98 rfl (lv_at hl 1 rfl) ?_
  refine k_get C hK hP 0 rfl 5 (by decide) (pos := 164) (by decide +kernel) rfl rfl kd5_99 ?_
  refine lv_iload_n hx hb kd5_102 rfl (lv_at hl 0 rfl) ?_
  refine k_new C hK hP hD hS hA (cN := 4) (by decide) (pos1 := 141) (pos2 := 143) (by decide +kernel) (by decide +kernel) (fs := [.null, .int 0, .int 0]) (by decide) (Nat.le_of_ble_eq_true rfl) (Nat.le_of_ble_eq_true rfl) kd5_103 (fun q25 H hP hD hS => ?_)
  refine W.widen (k := 46) (n := 2443) (Nat.le_of_ble_eq_true rfl) (Nat.le_of_ble_eq_true rfl) ?_
  have hP : va_P D zcls ((((((((((((([(h, .inr (5, [.ref q1, .ref q3, .ref q5, .ref q7, .ref q9, .ref q11, .ref q12, .int 0]))] ++ kwH q1 u2) ++ kwH q3 u4) ++ kwA q5 u6) ++ kwO q7 u8) ++ kwR q9 u10) ++ [(q11, .inl (c11, 8, .inr (.inr (.inr (.inr (va_up (va_up (va_up (va_up (va_up (va_up (fun _ => none) 0 (some q13)) 1 (some q15)) 2 (some q17)) 3 (some q19)) 4 (some q21)) 5 (some q23))))))), (q12, .inl (c12, 8, .inl (fun _ => 0)))]) ++ kwS q13 u14) ++ kwS q15 u16) ++ kwS q17 u18) ++ kwS q19 u20) ++ kwS q21 u22) ++ kwS q23 u24) ++ [(q25, .inr (4, [.null, .int 0, .int 0]))]) H := hP
  have hD : va_D A ((((((((((((([(h, .inr (5, [.ref q1, .ref q3, .ref q5, .ref q7, .ref q9, .ref q11, .ref q12, .int 0]))] ++ kwH q1 u2) ++ kwH q3 u4) ++ kwA q5 u6) ++ kwO q7 u8) ++ kwR q9 u10) ++ [(q11, .inl (c11, 8, .inr (.inr (.inr (.inr (va_up (va_up (va_up (va_up (va_up (va_up (fun _ => none) 0 (some q13)) 1 (some q15)) 2 (some q17)) 3 (some q19)) 4 (some q21)) 5 (some q23))))))), (q12, .inl (c12, 8, .inl (fun _ => 0)))]) ++ kwS q13 u14) ++ kwS q15 u16) ++ kwS q17 u18) ++ kwS q19 u20) ++ kwS q21 u22) ++ kwS q23 u24) ++ [(q25, .inr (4, [.null, .int 0, .int 0]))]) := hD
  refine lv_dup hx hb kd5_106 rfl ?_
  refine k_callN (cN := 4) (mc := 1) (ms := 160) (X := (((((((((((([(h, .inr (5, [.ref q1, .ref q3, .ref q5, .ref q7, .ref q9, .ref q11, .ref q12, .int 0]))] ++ kwH q1 u2) ++ kwH q3 u4) ++ kwA q5 u6) ++ kwO q7 u8) ++ kwR q9 u10) ++ [(q11, .inl (c11, 8, .inr (.inr (.inr (.inr (va_up (va_up (va_up (va_up (va_up (va_up (fun _ => none) 0 (some q13)) 1 (some q15)) 2 (some q17)) 3 (some q19)) 4 (some q21)) 5 (some q23))))))), (q12, .inl (c12, 8, .inl (fun _ => 0)))]) ++ kwS q13 u14) ++ kwS q15 u16) ++ kwS q17 u18) ++ kwS q19 u20) ++ kwS q21 u22) ++ kwS q23 u24)) (Wd := kwS q25) (Ty := ktS) C hl.1 (by decide) (fun sz => k_Shelf l D q25 sz) (zmg (i := 146) (by decide +kernel) rfl) rfl rfl (zme (List.mem_of_getElem? (i := 144) (by decide +kernel))) (zmg (i := 145) (by decide +kernel) rfl) (by decide) ⟨Nat.le_of_ble_eq_true rfl, Nat.le_of_ble_eq_true rfl⟩ ⟨Nat.le_of_ble_eq_true rfl, Nat.le_of_ble_eq_true rfl⟩ hK hP hD hS hA (Nat.le_of_ble_eq_true rfl) kd5_107 (fun u26 H locs hP hK hD hS => ?_)
  refine W.widen (k := 47) (n := 2603) (Nat.le_of_ble_eq_true rfl) (Nat.le_of_ble_eq_true rfl) ?_
  have hP : va_P D zcls ((((((((((((([(h, .inr (5, [.ref q1, .ref q3, .ref q5, .ref q7, .ref q9, .ref q11, .ref q12, .int 0]))] ++ kwH q1 u2) ++ kwH q3 u4) ++ kwA q5 u6) ++ kwO q7 u8) ++ kwR q9 u10) ++ [(q11, .inl (c11, 8, .inr (.inr (.inr (.inr (va_up (va_up (va_up (va_up (va_up (va_up (fun _ => none) 0 (some q13)) 1 (some q15)) 2 (some q17)) 3 (some q19)) 4 (some q21)) 5 (some q23))))))), (q12, .inl (c12, 8, .inl (fun _ => 0)))]) ++ kwS q13 u14) ++ kwS q15 u16) ++ kwS q17 u18) ++ kwS q19 u20) ++ kwS q21 u22) ++ kwS q23 u24) ++ kwS q25 u26) H := hP
  have hD : va_D A ((((((((((((([(h, .inr (5, [.ref q1, .ref q3, .ref q5, .ref q7, .ref q9, .ref q11, .ref q12, .int 0]))] ++ kwH q1 u2) ++ kwH q3 u4) ++ kwA q5 u6) ++ kwO q7 u8) ++ kwR q9 u10) ++ [(q11, .inl (c11, 8, .inr (.inr (.inr (.inr (va_up (va_up (va_up (va_up (va_up (va_up (fun _ => none) 0 (some q13)) 1 (some q15)) 2 (some q17)) 3 (some q19)) 4 (some q21)) 5 (some q23))))))), (q12, .inl (c12, 8, .inl (fun _ => 0)))]) ++ kwS q13 u14) ++ kwS q15 u16) ++ kwS q17 u18) ++ kwS q19 u20) ++ kwS q21 u22) ++ kwS q23 u24) ++ kwS q25 u26) := hD
  have hK : va_K D zcls (((((((((((((ktH u2) ++ ktH u4) ++ ktA u6) ++ ktO u8) ++ ktR u10) ++ [(c11, .object "TablesAndTips$Shelf"), (c12, .int)]) ++ ktS u14) ++ ktS u16) ++ ktS u18) ++ ktS u20) ++ ktS u22) ++ ktS u24) ++ ktS u26) s := hK
  refine va_astq hx hb hK hP hD hS 32 24 46 4 rfl rfl rfl (zcls_at 4 (by decide)) (zis_in (by decide)) kd5_110 (fun H locs hP hD hS => ?_)
  have hP : va_P D zcls ((((((((((((([(h, .inr (5, [.ref q1, .ref q3, .ref q5, .ref q7, .ref q9, .ref q11, .ref q12, .int 0]))] ++ kwH q1 u2) ++ kwH q3 u4) ++ kwA q5 u6) ++ kwO q7 u8) ++ kwR q9 u10) ++ [(q11, .inl (c11, 8, .inr (.inr (.inr (.inr (va_up (va_up (va_up (va_up (va_up (va_up (va_up (fun _ => none) 0 (some q13)) 1 (some q15)) 2 (some q17)) 3 (some q19)) 4 (some q21)) 5 (some q23)) 6 (some q25))))))), (q12, .inl (c12, 8, .inl (fun _ => 0)))]) ++ kwS q13 u14) ++ kwS q15 u16) ++ kwS q17 u18) ++ kwS q19 u20) ++ kwS q21 u22) ++ kwS q23 u24) ++ kwS q25 u26) H := hP
  have hD : va_D A ((((((((((((([(h, .inr (5, [.ref q1, .ref q3, .ref q5, .ref q7, .ref q9, .ref q11, .ref q12, .int 0]))] ++ kwH q1 u2) ++ kwH q3 u4) ++ kwA q5 u6) ++ kwO q7 u8) ++ kwR q9 u10) ++ [(q11, .inl (c11, 8, .inr (.inr (.inr (.inr (va_up (va_up (va_up (va_up (va_up (va_up (va_up (fun _ => none) 0 (some q13)) 1 (some q15)) 2 (some q17)) 3 (some q19)) 4 (some q21)) 5 (some q23)) 6 (some q25))))))), (q12, .inl (c12, 8, .inl (fun _ => 0)))]) ++ kwS q13 u14) ++ kwS q15 u16) ++ kwS q17 u18) ++ kwS q19 u20) ++ kwS q21 u22) ++ kwS q23 u24) ++ kwS q25 u26) := hD
  refine lv_iinc (v := 7) (lv' := [(1, .int 7), (0, .ref h)]) hx hb kd5_111 hl (k := 0) rfl (by decide) (by decide) rfl (fun ls hl => ?_)
  refine lv_goto hx hb (tgt := 83) kd5_114 rfl ?_
  refine lv_iload_n hx hb kd5_83 rfl (lv_at hl 0 rfl) ?_
  refine lv_bipush (v := 8) hx hb kd5_84 (by decide) ?_
  refine lv_icmp_ge hx hb (tgt := 117) kd5_86 rfl (fun h9 => absurd h9 (by decide)) (fun _ => ?_)
  refine lv_iload_n hx hb kd5_89 rfl (lv_at hl 0 rfl) ?_
  refine lv_aload_n hx hb kd5_90 rfl (lv_at hl 1 rfl) ?_
  refine k_get C hK hP 0 rfl 5 (by decide) (pos := 164) (by decide +kernel) rfl rfl kd5_91 ?_
  refine va_alen (v := 8) hx hb hK hP 32 24 rfl rfl rfl kd5_94 ?_
  refine lv_icmp_ge hx hb (tgt := 117) kd5_95 rfl (fun h9 => absurd h9 (by decide)) (fun _ => ?_)
  refine lv_aload_n hx hb kd5_98 rfl (lv_at hl 1 rfl) ?_
  refine k_get C hK hP 0 rfl 5 (by decide) (pos := 164) (by decide +kernel) rfl rfl kd5_99 ?_
  refine lv_iload_n hx hb kd5_102 rfl (lv_at hl 0 rfl) ?_
  refine k_new C hK hP hD hS hA (cN := 4) (by decide) (pos1 := 141) (pos2 := 143) (by decide +kernel) (by decide +kernel) (fs := [.null, .int 0, .int 0]) (by decide) (Nat.le_of_ble_eq_true rfl) (Nat.le_of_ble_eq_true rfl) kd5_103 (fun q27 H hP hD hS => ?_)
  refine W.widen (k := 48) (n := 2606) (Nat.le_of_ble_eq_true rfl) (Nat.le_of_ble_eq_true rfl) ?_
  have hP : va_P D zcls (((((((((((((([(h, .inr (5, [.ref q1, .ref q3, .ref q5, .ref q7, .ref q9, .ref q11, .ref q12, .int 0]))] ++ kwH q1 u2) ++ kwH q3 u4) ++ kwA q5 u6) ++ kwO q7 u8) ++ kwR q9 u10) ++ [(q11, .inl (c11, 8, .inr (.inr (.inr (.inr (va_up (va_up (va_up (va_up (va_up (va_up (va_up (fun _ => none) 0 (some q13)) 1 (some q15)) 2 (some q17)) 3 (some q19)) 4 (some q21)) 5 (some q23)) 6 (some q25))))))), (q12, .inl (c12, 8, .inl (fun _ => 0)))]) ++ kwS q13 u14) ++ kwS q15 u16) ++ kwS q17 u18) ++ kwS q19 u20) ++ kwS q21 u22) ++ kwS q23 u24) ++ kwS q25 u26) ++ [(q27, .inr (4, [.null, .int 0, .int 0]))]) H := hP
  have hD : va_D A (((((((((((((([(h, .inr (5, [.ref q1, .ref q3, .ref q5, .ref q7, .ref q9, .ref q11, .ref q12, .int 0]))] ++ kwH q1 u2) ++ kwH q3 u4) ++ kwA q5 u6) ++ kwO q7 u8) ++ kwR q9 u10) ++ [(q11, .inl (c11, 8, .inr (.inr (.inr (.inr (va_up (va_up (va_up (va_up (va_up (va_up (va_up (fun _ => none) 0 (some q13)) 1 (some q15)) 2 (some q17)) 3 (some q19)) 4 (some q21)) 5 (some q23)) 6 (some q25))))))), (q12, .inl (c12, 8, .inl (fun _ => 0)))]) ++ kwS q13 u14) ++ kwS q15 u16) ++ kwS q17 u18) ++ kwS q19 u20) ++ kwS q21 u22) ++ kwS q23 u24) ++ kwS q25 u26) ++ [(q27, .inr (4, [.null, .int 0, .int 0]))]) := hD
  refine lv_dup hx hb kd5_106 rfl ?_
  refine k_callN (cN := 4) (mc := 1) (ms := 160) (X := ((((((((((((([(h, .inr (5, [.ref q1, .ref q3, .ref q5, .ref q7, .ref q9, .ref q11, .ref q12, .int 0]))] ++ kwH q1 u2) ++ kwH q3 u4) ++ kwA q5 u6) ++ kwO q7 u8) ++ kwR q9 u10) ++ [(q11, .inl (c11, 8, .inr (.inr (.inr (.inr (va_up (va_up (va_up (va_up (va_up (va_up (va_up (fun _ => none) 0 (some q13)) 1 (some q15)) 2 (some q17)) 3 (some q19)) 4 (some q21)) 5 (some q23)) 6 (some q25))))))), (q12, .inl (c12, 8, .inl (fun _ => 0)))]) ++ kwS q13 u14) ++ kwS q15 u16) ++ kwS q17 u18) ++ kwS q19 u20) ++ kwS q21 u22) ++ kwS q23 u24) ++ kwS q25 u26)) (Wd := kwS q27) (Ty := ktS) C hl.1 (by decide) (fun sz => k_Shelf l D q27 sz) (zmg (i := 146) (by decide +kernel) rfl) rfl rfl (zme (List.mem_of_getElem? (i := 144) (by decide +kernel))) (zmg (i := 145) (by decide +kernel) rfl) (by decide) ⟨Nat.le_of_ble_eq_true rfl, Nat.le_of_ble_eq_true rfl⟩ ⟨Nat.le_of_ble_eq_true rfl, Nat.le_of_ble_eq_true rfl⟩ hK hP hD hS hA (Nat.le_of_ble_eq_true rfl) kd5_107 (fun u28 H locs hP hK hD hS => ?_)
  refine W.widen (k := 49) (n := 2766) (Nat.le_of_ble_eq_true rfl) (Nat.le_of_ble_eq_true rfl) ?_
  have hP : va_P D zcls (((((((((((((([(h, .inr (5, [.ref q1, .ref q3, .ref q5, .ref q7, .ref q9, .ref q11, .ref q12, .int 0]))] ++ kwH q1 u2) ++ kwH q3 u4) ++ kwA q5 u6) ++ kwO q7 u8) ++ kwR q9 u10) ++ [(q11, .inl (c11, 8, .inr (.inr (.inr (.inr (va_up (va_up (va_up (va_up (va_up (va_up (va_up (fun _ => none) 0 (some q13)) 1 (some q15)) 2 (some q17)) 3 (some q19)) 4 (some q21)) 5 (some q23)) 6 (some q25))))))), (q12, .inl (c12, 8, .inl (fun _ => 0)))]) ++ kwS q13 u14) ++ kwS q15 u16) ++ kwS q17 u18) ++ kwS q19 u20) ++ kwS q21 u22) ++ kwS q23 u24) ++ kwS q25 u26) ++ kwS q27 u28) H := hP
  have hD : va_D A (((((((((((((([(h, .inr (5, [.ref q1, .ref q3, .ref q5, .ref q7, .ref q9, .ref q11, .ref q12, .int 0]))] ++ kwH q1 u2) ++ kwH q3 u4) ++ kwA q5 u6) ++ kwO q7 u8) ++ kwR q9 u10) ++ [(q11, .inl (c11, 8, .inr (.inr (.inr (.inr (va_up (va_up (va_up (va_up (va_up (va_up (va_up (fun _ => none) 0 (some q13)) 1 (some q15)) 2 (some q17)) 3 (some q19)) 4 (some q21)) 5 (some q23)) 6 (some q25))))))), (q12, .inl (c12, 8, .inl (fun _ => 0)))]) ++ kwS q13 u14) ++ kwS q15 u16) ++ kwS q17 u18) ++ kwS q19 u20) ++ kwS q21 u22) ++ kwS q23 u24) ++ kwS q25 u26) ++ kwS q27 u28) := hD
  have hK : va_K D zcls ((((((((((((((ktH u2) ++ ktH u4) ++ ktA u6) ++ ktO u8) ++ ktR u10) ++ [(c11, .object "TablesAndTips$Shelf"), (c12, .int)]) ++ ktS u14) ++ ktS u16) ++ ktS u18) ++ ktS u20) ++ ktS u22) ++ ktS u24) ++ ktS u26) ++ ktS u28) s := hK
  refine va_astq hx hb hK hP hD hS 32 24 48 4 rfl rfl rfl (zcls_at 4 (by decide)) (zis_in (by decide)) kd5_110 (fun H locs hP hD hS => ?_)
  have hP : va_P D zcls (((((((((((((([(h, .inr (5, [.ref q1, .ref q3, .ref q5, .ref q7, .ref q9, .ref q11, .ref q12, .int 0]))] ++ kwH q1 u2) ++ kwH q3 u4) ++ kwA q5 u6) ++ kwO q7 u8) ++ kwR q9 u10) ++ [(q11, .inl (c11, 8, .inr (.inr (.inr (.inr (va_up (va_up (va_up (va_up (va_up (va_up (va_up (va_up (fun _ => none) 0 (some q13)) 1 (some q15)) 2 (some q17)) 3 (some q19)) 4 (some q21)) 5 (some q23)) 6 (some q25)) 7 (some q27))))))), (q12, .inl (c12, 8, .inl (fun _ => 0)))]) ++ kwS q13 u14) ++ kwS q15 u16) ++ kwS q17 u18) ++ kwS q19 u20) ++ kwS q21 u22) ++ kwS q23 u24) ++ kwS q25 u26) ++ kwS q27 u28) H := hP
  have hD : va_D A (((((((((((((([(h, .inr (5, [.ref q1, .ref q3, .ref q5, .ref q7, .ref q9, .ref q11, .ref q12, .int 0]))] ++ kwH q1 u2) ++ kwH q3 u4) ++ kwA q5 u6) ++ kwO q7 u8) ++ kwR q9 u10) ++ [(q11, .inl (c11, 8, .inr (.inr (.inr (.inr (va_up (va_up (va_up (va_up (va_up (va_up (va_up (va_up (fun _ => none) 0 (some q13)) 1 (some q15)) 2 (some q17)) 3 (some q19)) 4 (some q21)) 5 (some q23)) 6 (some q25)) 7 (some q27))))))), (q12, .inl (c12, 8, .inl (fun _ => 0)))]) ++ kwS q13 u14) ++ kwS q15 u16) ++ kwS q17 u18) ++ kwS q19 u20) ++ kwS q21 u22) ++ kwS q23 u24) ++ kwS q25 u26) ++ kwS q27 u28) := hD
  refine lv_iinc (v := 8) (lv' := [(1, .int 8), (0, .ref h)]) hx hb kd5_111 hl (k := 0) rfl (by decide) (by decide) rfl (fun ls hl => ?_)
  refine lv_goto hx hb (tgt := 83) kd5_114 rfl ?_
  refine lv_iload_n hx hb kd5_83 rfl (lv_at hl 0 rfl) ?_
  refine lv_bipush (v := 8) hx hb kd5_84 (by decide) ?_
  refine lv_icmp_ge hx hb (tgt := 117) kd5_86 rfl (fun _ => ?_) (fun h9 => absurd (by decide) h9)
  exact W.vret hx hb hr (fun t ht hW => ⟨⟨((fun k => ([q11, q12] : List Nat).getD k 0, fun k => ([c11, c12] : List ClassId).getD k c11), fun k => if k < 20 then ([q1, q3, q5, q13, q15, q17, q19, q21, q23, q25, q27] : List Nat).getD k 0 else if k = 20 then q7 else q9, fun k => ([u2, u4, u6, u14, u16, u18, u20, u22, u24, u26, u28] : List kS).getD k u2, fun k => if k = 0 then u8 else u10), rfl, trivial, by rw [ht]; exact hP, va_K.moved hW.alike hK, hD⟩, hS.F ht⟩) hS.2.2 kd5_117
end KF
