section KE
theorem kd2_0 : decode prog_4_method_1_code 0 = .ok (.aload_n 0, 1) := by decide +kernel
theorem kd2_1 : decode prog_4_method_1_code 1 = .ok (.invokespecial 3, 3) := by decide +kernel
theorem kd2_4 : decode prog_4_method_1_code 4 = .ok (.aload_n 0, 1) := by decide +kernel
theorem kd2_5 : decode prog_4_method_1_code 5 = .ok (.new 9, 3) := by decide +kernel
theorem kd2_8 : decode prog_4_method_1_code 8 = .ok (.dup, 1) := by decide +kernel
theorem kd2_9 : decode prog_4_method_1_code 9 = .ok (.invokespecial 11, 3) := by decide +kernel
theorem kd2_12 : decode prog_4_method_1_code 12 = .ok (.putfield 12, 3) := by decide +kernel
theorem kd2_15 : decode prog_4_method_1_code 15 = .ok (.aload_n 0, 1) := by decide +kernel
theorem kd2_16 : decode prog_4_method_1_code 16 = .ok (.sipush 1024, 3) := by decide +kernel
theorem kd2_19 : decode prog_4_method_1_code 19 = .ok (.newarray .int, 2) := by decide +kernel
theorem kd2_21 : decode prog_4_method_1_code 21 = .ok (.putfield 18, 3) := by decide +kernel
theorem kd2_24 : decode prog_4_method_1_code 24 = .ok (.aload_n 0, 1) := by decide +kernel
theorem kd2_25 : decode prog_4_method_1_code 25 = .ok (.iconst 0, 1) := by decide +kernel
theorem kd2_26 : decode prog_4_method_1_code 26 = .ok (.putfield 22, 3) := by decide +kernel
theorem kd2_29 : decode prog_4_method_1_code 29 = .ok (.aload_n 0, 1) := by decide +kernel
theorem kd2_30 : decode prog_4_method_1_code 30 = .ok (.iconst 0, 1) := by decide +kernel
theorem kd2_31 : decode prog_4_method_1_code 31 = .ok (.putfield 26, 3) := by decide +kernel
theorem kd2_34 : decode prog_4_method_1_code 34 = .ok (.aload_n 0, 1) := by decide +kernel
theorem kd2_35 : decode prog_4_method_1_code 35 = .ok (.iconst 4, 1) := by decide +kernel
theorem kd2_36 : decode prog_4_method_1_code 36 = .ok (.newarray .int, 2) := by decide +kernel
theorem kd2_38 : decode prog_4_method_1_code 38 = .ok (.putfield 29, 3) := by decide +kernel
theorem kd2_41 : decode prog_4_method_1_code 41 = .ok (.aload_n 0, 1) := by decide +kernel
theorem kd2_42 : decode prog_4_method_1_code 42 = .ok (.iconst 4, 1) := by decide +kernel
theorem kd2_43 : decode prog_4_method_1_code 43 = .ok (.newarray .int, 2) := by decide +kernel
theorem kd2_45 : decode prog_4_method_1_code 45 = .ok (.putfield 32, 3) := by decide +kernel
theorem kd2_48 : decode prog_4_method_1_code 48 = .ok (.aload_n 0, 1) := by decide +kernel
theorem kd2_49 : decode prog_4_method_1_code 49 = .ok (.bipush 9, 2) := by decide +kernel
theorem kd2_51 : decode prog_4_method_1_code 51 = .ok (.newarray .int, 2) := by decide +kernel
theorem kd2_53 : decode prog_4_method_1_code 53 = .ok (.putfield 35, 3) := by decide +kernel
theorem kd2_56 : decode prog_4_method_1_code 56 = .ok (.aload_n 0, 1) := by decide +kernel
theorem kd2_57 : decode prog_4_method_1_code 57 = .ok (.bipush 8, 2) := by decide +kernel
theorem kd2_59 : decode prog_4_method_1_code 59 = .ok (.newarray .int, 2) := by decide +kernel
theorem kd2_61 : decode prog_4_method_1_code 61 = .ok (.putfield 38, 3) := by decide +kernel
theorem kd2_64 : decode prog_4_method_1_code 64 = .ok (.aload_n 0, 1) := by decide +kernel
theorem kd2_65 : decode prog_4_method_1_code 65 = .ok (.bipush 8, 2) := by decide +kernel
theorem kd2_67 : decode prog_4_method_1_code 67 = .ok (.newarray .int, 2) := by decide +kernel
theorem kd2_69 : decode prog_4_method_1_code 69 = .ok (.putfield 41, 3) := by decide +kernel
theorem kd2_72 : decode prog_4_method_1_code 72 = .ok (.aload_n 0, 1) := by decide +kernel
theorem kd2_73 : decode prog_4_method_1_code 73 = .ok (.iconst 0, 1) := by decide +kernel
theorem kd2_74 : decode prog_4_method_1_code 74 = .ok (.putfield 44, 3) := by decide +kernel
theorem kd2_77 : decode prog_4_method_1_code 77 = .ok (.aload_n 0, 1) := by decide +kernel
theorem kd2_78 : decode prog_4_method_1_code 78 = .ok (.iconst 0, 1) := by decide +kernel
theorem kd2_79 : decode prog_4_method_1_code 79 = .ok (.putfield 48, 3) := by decide +kernel
theorem kd2_82 : decode prog_4_method_1_code 82 = .ok (.return_, 1) := by decide +kernel
def kwO (h : Nat) (u : kS × Nat × kS) : va_W := (([(h, .inr (2, [.ref (u.2.1), .ref (u.1.1 0), .int 0, .int 0, .ref (u.1.1 1), .ref (u.1.1 2), .ref (u.1.1 3), .ref (u.1.1 4), .ref (u.1.1 5), .int 0, .int 0]))] ++ kwH (u.2.1) (u.2.2)) ++ [((u.1.1 0), .inl ((u.1.2 0), 1024, .inl (fun _ => 0))), ((u.1.1 1), .inl ((u.1.2 1), 4, .inl (fun _ => 0))), ((u.1.1 2), .inl ((u.1.2 2), 4, .inl (fun _ => 0))), ((u.1.1 3), .inl ((u.1.2 3), 9, .inl (fun _ => 0))), ((u.1.1 4), .inl ((u.1.2 4), 8, .inl (fun _ => 0))), ((u.1.1 5), .inl ((u.1.2 5), 8, .inl (fun _ => 0)))])
def ktO (u : kS × Nat × kS) : List (ClassId × FieldType) := ((ktH (u.2.2)) ++ [((u.1.2 0), .int), ((u.1.2 1), .int), ((u.1.2 2), .int), ((u.1.2 3), .int), ((u.1.2 4), .int), ((u.1.2 5), .int)])
set_option maxHeartbeats 4000000 in
set_option maxRecDepth 100000 in
theorem k_Outcomes (l : Launch) (D : va_G) (h : Nat) (sz : Nat) : Met l ⟨zRn 2, "<init>", "()V"⟩ (jws (.code ⟨zRn 2, "<init>", "()V"⟩ prog_4_method_1_code 1 none)) (kRoom 3 11 1143) (kP D h [(h, .inr (2, [.null, .null, .int 0, .int 0, .null, .null, .null, .null, .null, .int 0, .int 0]))] sz) (kQ (kwO h) ktO D (va_A [(h, .inr (2, [.null, .null, .int 0, .int 0, .null, .null, .null, .null, .null, .int 0, .int 0]))] sz)) 11 1143 (va_A [(h, .inr (2, [.null, .null, .int 0, .int 0, .null, .null, .null, .null, .null, .int 0, .int 0]))] sz) := by
  refine Met.ofW (cc := prog_4_method_1_code) (maxL := 1) (ret := none) (by decide) rfl ?_
  intro p e s m args below meth c s₁ B hml hv
  obtain ⟨rfl, hsz, hP, hK, hD0, hN⟩ := hv
  have hx := B.exec
  have hb := B.bytes
  have hr := B.returns
  have hts0 := atoms_spec (ws := jws (.code ⟨zRn 2, "<init>", "()V"⟩ prog_4_method_1_code 1 none)) B.pre
  have hts : ∀ w ∈ zTbl, w.before #[.ref h] s = true := fun w hw => hts0 w (List.mem_cons_of_mem _ hw)
  have hown : s.vm.findClass (zRn 2) = some m.cls := findClass_of_methodNamed B.named
  have hlocks := B.notSynchronized
  have hin : meth.name = "<init>" := (name_of_methodNamed B.named B.method).1
  have C : kCx p s m #[.ref h] meth c 2 prog_4_method_1_code 1 := ⟨hx, hb, hml, hown, hts, hin, hN, by decide⟩
  subst hsz
  have hD := hD0.self (sz := s.heap.size)
  generalize hAe : va_A [(h, .inr (2, [.null, .null, .int 0, .int 0, .null, .null, .null, .null, .null, .int 0, .int 0]))] s.heap.size = A at hD ⊢
  have hA : ∀ q, s.heap.size ≤ q → A q := fun q h => by rw [← hAe]; exact Or.inr h
  have hS : va_S A s.heap s.heap [] := va_S.rf
  have hl := lv_entry ([.ref h]) (n := 1) (Nat.le_of_ble_eq_true rfl)
  rw [lg_entry_eq]
  generalize (lg_sl ([.ref h]) ++ List.replicate (1 - (lg_sl ([.ref h])).length) Slot.unset).toArray = ls at hl ⊢
  have hl : lv_has ls 1 [(0, .ref h)] := hl
  refine lv_aload_n hx hb kd2_0 rfl (lv_at hl 0 rfl) ?_
  refine k_obj C hl.1 (pos := 83) (by decide +kernel) (Nat.le_of_ble_eq_true rfl) (Nat.le_of_ble_eq_true rfl) (Nat.le_of_ble_eq_true rfl) (Nat.le_of_ble_eq_true rfl) kd2_1 ?_ rfl
  refine lv_aload_n hx hb kd2_4 rfl (lv_at hl 0 rfl) ?_
  refine k_new C hK hP hD hS hA (cN := 1) (by decide) (pos1 := 84) (pos2 := 22) (by decide +kernel) (by decide +kernel) (fs := [.null, .null, .null, .int 0, .int 0, .int 0, .int 0, .int 0, .null]) (by decide) (Nat.le_of_ble_eq_true rfl) (Nat.le_of_ble_eq_true rfl) kd2_5 (fun q1 H hP hD hS => ?_)
  refine W.widen (k := 1) (n := 9) (Nat.le_of_ble_eq_true rfl) (Nat.le_of_ble_eq_true rfl) ?_
  have hP : va_P D zcls [(h, .inr (2, [.null, .null, .int 0, .int 0, .null, .null, .null, .null, .null, .int 0, .int 0])), (q1, .inr (1, [.null, .null, .null, .int 0, .int 0, .int 0, .int 0, .int 0, .null]))] H := hP
  have hD : va_D A [(h, .inr (2, [.null, .null, .int 0, .int 0, .null, .null, .null, .null, .null, .int 0, .int 0])), (q1, .inr (1, [.null, .null, .null, .int 0, .int 0, .int 0, .int 0, .int 0, .null]))] := hD
  refine lv_dup hx hb kd2_8 rfl ?_
  refine k_callN (cN := 1) (mc := 4) (ms := 77) (X := [(h, .inr (2, [.null, .null, .int 0, .int 0, .null, .null, .null, .null, .null, .int 0, .int 0]))]) (Wd := kwH q1) (Ty := ktH) C hl.1 (by decide) (fun sz => k_House l D q1 sz) (zmg (i := 25) (by decide +kernel) rfl) rfl rfl (zme (List.mem_of_getElem? (i := 85) (by decide +kernel))) (zmg (i := 24) (by decide +kernel) rfl) (by decide) ⟨Nat.le_of_ble_eq_true rfl, Nat.le_of_ble_eq_true rfl⟩ ⟨Nat.le_of_ble_eq_true rfl, Nat.le_of_ble_eq_true rfl⟩ hK hP hD hS hA (Nat.le_of_ble_eq_true rfl) kd2_9 (fun u2 H locs hP hK hD hS => ?_)
  refine W.widen (k := 5) (n := 86) (Nat.le_of_ble_eq_true rfl) (Nat.le_of_ble_eq_true rfl) ?_
  have hP : va_P D zcls ([(h, .inr (2, [.null, .null, .int 0, .int 0, .null, .null, .null, .null, .null, .int 0, .int 0]))] ++ kwH q1 u2) H := hP
  have hD : va_D A ([(h, .inr (2, [.null, .null, .int 0, .int 0, .null, .null, .null, .null, .null, .int 0, .int 0]))] ++ kwH q1 u2) := hD
  have hK : va_K D zcls (ktH u2) s := hK
  refine k_put C hK hP hD hS 0 rfl 0 (by decide) (pos := 86) (by decide +kernel) rfl rfl rfl rfl (Nat.le_of_ble_eq_true rfl) kd2_12 (fun H locs hP hD hS => ?_)
  have hP : va_P D zcls ([(h, .inr (2, [.ref q1, .null, .int 0, .int 0, .null, .null, .null, .null, .null, .int 0, .int 0]))] ++ kwH q1 u2) H := hP
  have hD : va_D A ([(h, .inr (2, [.ref q1, .null, .int 0, .int 0, .null, .null, .null, .null, .null, .int 0, .int 0]))] ++ kwH q1 u2) := hD
  refine lv_aload_n hx hb kd2_15 rfl (lv_at hl 0 rfl) ?_
  refine lv_sipush (v := 1024) hx hb kd2_16 (by decide) ?_
  refine k_newi C hK hP hD hS hA (N := 1024) (by decide) (by decide) (Nat.le_of_ble_eq_true rfl) (Nat.le_of_ble_eq_true rfl) (Nat.le_of_ble_eq_true rfl) kd2_19 (fun q3 c3 H hK hP hD hS => ?_)
  refine W.widen (k := 6) (n := 1110) (Nat.le_of_ble_eq_true rfl) (Nat.le_of_ble_eq_true rfl) ?_
  have hP : va_P D zcls (([(h, .inr (2, [.ref q1, .null, .int 0, .int 0, .null, .null, .null, .null, .null, .int 0, .int 0]))] ++ kwH q1 u2) ++ [(q3, .inl (c3, 1024, .inl (fun _ => 0)))]) H := hP
  have hD : va_D A (([(h, .inr (2, [.ref q1, .null, .int 0, .int 0, .null, .null, .null, .null, .null, .int 0, .int 0]))] ++ kwH q1 u2) ++ [(q3, .inl (c3, 1024, .inl (fun _ => 0)))]) := hD
  have hK : va_K D zcls ((ktH u2) ++ [(c3, .int)]) s := hK
  refine k_put C hK hP hD hS 0 rfl 1 (by decide) (pos := 87) (by decide +kernel) rfl rfl rfl rfl (Nat.le_of_ble_eq_true rfl) kd2_21 (fun H locs hP hD hS => ?_)
  have hP : va_P D zcls (([(h, .inr (2, [.ref q1, .ref q3, .int 0, .int 0, .null, .null, .null, .null, .null, .int 0, .int 0]))] ++ kwH q1 u2) ++ [(q3, .inl (c3, 1024, .inl (fun _ => 0)))]) H := hP
  have hD : va_D A (([(h, .inr (2, [.ref q1, .ref q3, .int 0, .int 0, .null, .null, .null, .null, .null, .int 0, .int 0]))] ++ kwH q1 u2) ++ [(q3, .inl (c3, 1024, .inl (fun _ => 0)))]) := hD
  refine lv_aload_n hx hb kd2_24 rfl (lv_at hl 0 rfl) ?_
  refine lv_iconst (v := 0) hx hb kd2_25 (by decide) ?_
  refine k_put C hK hP hD hS 0 rfl 2 (by decide) (pos := 88) (by decide +kernel) rfl rfl rfl rfl (Nat.le_of_ble_eq_true rfl) kd2_26 (fun H locs hP hD hS => ?_)
  have hP : va_P D zcls (([(h, .inr (2, [.ref q1, .ref q3, .int 0, .int 0, .null, .null, .null, .null, .null, .int 0, .int 0]))] ++ kwH q1 u2) ++ [(q3, .inl (c3, 1024, .inl (fun _ => 0)))]) H := hP
  have hD : va_D A (([(h, .inr (2, [.ref q1, .ref q3, .int 0, .int 0, .null, .null, .null, .null, .null, .int 0, .int 0]))] ++ kwH q1 u2) ++ [(q3, .inl (c3, 1024, .inl (fun _ => 0)))]) := hD
  refine lv_aload_n hx hb kd2_29 rfl (lv_at hl 0 rfl) ?_
  refine lv_iconst (v := 0) hx hb kd2_30 (by decide) ?_
  refine k_put C hK hP hD hS 0 rfl 3 (by decide) (pos := 89) (by decide +kernel) rfl rfl rfl rfl (Nat.le_of_ble_eq_true rfl) kd2_31 (fun H locs hP hD hS => ?_)
  have hP : va_P D zcls (([(h, .inr (2, [.ref q1, .ref q3, .int 0, .int 0, .null, .null, .null, .null, .null, .int 0, .int 0]))] ++ kwH q1 u2) ++ [(q3, .inl (c3, 1024, .inl (fun _ => 0)))]) H := hP
  have hD : va_D A (([(h, .inr (2, [.ref q1, .ref q3, .int 0, .int 0, .null, .null, .null, .null, .null, .int 0, .int 0]))] ++ kwH q1 u2) ++ [(q3, .inl (c3, 1024, .inl (fun _ => 0)))]) := hD
  refine lv_aload_n hx hb kd2_34 rfl (lv_at hl 0 rfl) ?_
  refine lv_iconst (v := 4) hx hb kd2_35 (by decide) ?_
  refine k_newi C hK hP hD hS hA (N := 4) (by decide) (by decide) (Nat.le_of_ble_eq_true rfl) (Nat.le_of_ble_eq_true rfl) (Nat.le_of_ble_eq_true rfl) kd2_36 (fun q4 c4 H hK hP hD hS => ?_)
  refine W.widen (k := 7) (n := 1114) (Nat.le_of_ble_eq_true rfl) (Nat.le_of_ble_eq_true rfl) ?_
  have hP : va_P D zcls (([(h, .inr (2, [.ref q1, .ref q3, .int 0, .int 0, .null, .null, .null, .null, .null, .int 0, .int 0]))] ++ kwH q1 u2) ++ [(q3, .inl (c3, 1024, .inl (fun _ => 0))), (q4, .inl (c4, 4, .inl (fun _ => 0)))]) H := hP
  have hD : va_D A (([(h, .inr (2, [.ref q1, .ref q3, .int 0, .int 0, .null, .null, .null, .null, .null, .int 0, .int 0]))] ++ kwH q1 u2) ++ [(q3, .inl (c3, 1024, .inl (fun _ => 0))), (q4, .inl (c4, 4, .inl (fun _ => 0)))]) := hD
  have hK : va_K D zcls ((ktH u2) ++ [(c3, .int), (c4, .int)]) s := hK
  refine k_put C hK hP hD hS 0 rfl 4 (by decide) (pos := 90) (by decide +kernel) rfl rfl rfl rfl (Nat.le_of_ble_eq_true rfl) kd2_38 (fun H locs hP hD hS => ?_)
  have hP : va_P D zcls (([(h, .inr (2, [.ref q1, .ref q3, .int 0, .int 0, .ref q4, .null, .null, .null, .null, .int 0, .int 0]))] ++ kwH q1 u2) ++ [(q3, .inl (c3, 1024, .inl (fun _ => 0))), (q4, .inl (c4, 4, .inl (fun _ => 0)))]) H := hP
  have hD : va_D A (([(h, .inr (2, [.ref q1, .ref q3, .int 0, .int 0, .ref q4, .null, .null, .null, .null, .int 0, .int 0]))] ++ kwH q1 u2) ++ [(q3, .inl (c3, 1024, .inl (fun _ => 0))), (q4, .inl (c4, 4, .inl (fun _ => 0)))]) := hD
  refine lv_aload_n hx hb kd2_41 rfl (lv_at hl 0 rfl) ?_
  refine lv_iconst (v := 4) hx hb kd2_42 (by decide) ?_
  refine k_newi C hK hP hD hS hA (N := 4) (by decide) (by decide) (Nat.le_of_ble_eq_true rfl) (Nat.le_of_ble_eq_true rfl) (Nat.le_of_ble_eq_true rfl) kd2_43 (fun q5 c5 H hK hP hD hS => ?_)
  refine W.widen (k := 8) (n := 1118) (Nat.le_of_ble_eq_true rfl) (Nat.le_of_ble_eq_true rfl) ?_
  have hP : va_P D zcls (([(h, .inr (2, [.ref q1, .ref q3, .int 0, .int 0, .ref q4, .null, .null, .null, .null, .int 0, .int 0]))] ++ kwH q1 u2) ++ [(q3, .inl (c3, 1024, .inl (fun _ => 0))), (q4, .inl (c4, 4, .inl (fun _ => 0))), (q5, .inl (c5, 4, .inl (fun _ => 0)))]) H := hP
  have hD : va_D A (([(h, .inr (2, [.ref q1, .ref q3, .int 0, .int 0, .ref q4, .null, .null, .null, .null, .int 0, .int 0]))] ++ kwH q1 u2) ++ [(q3, .inl (c3, 1024, .inl (fun _ => 0))), (q4, .inl (c4, 4, .inl (fun _ => 0))), (q5, .inl (c5, 4, .inl (fun _ => 0)))]) := hD
  have hK : va_K D zcls ((ktH u2) ++ [(c3, .int), (c4, .int), (c5, .int)]) s := hK
  refine k_put C hK hP hD hS 0 rfl 5 (by decide) (pos := 91) (by decide +kernel) rfl rfl rfl rfl (Nat.le_of_ble_eq_true rfl) kd2_45 (fun H locs hP hD hS => ?_)
  have hP : va_P D zcls (([(h, .inr (2, [.ref q1, .ref q3, .int 0, .int 0, .ref q4, .ref q5, .null, .null, .null, .int 0, .int 0]))] ++ kwH q1 u2) ++ [(q3, .inl (c3, 1024, .inl (fun _ => 0))), (q4, .inl (c4, 4, .inl (fun _ => 0))), (q5, .inl (c5, 4, .inl (fun _ => 0)))]) H := hP
  have hD : va_D A (([(h, .inr (2, [.ref q1, .ref q3, .int 0, .int 0, .ref q4, .ref q5, .null, .null, .null, .int 0, .int 0]))] ++ kwH q1 u2) ++ [(q3, .inl (c3, 1024, .inl (fun _ => 0))), (q4, .inl (c4, 4, .inl (fun _ => 0))), (q5, .inl (c5, 4, .inl (fun _ => 0)))]) := hD
  refine lv_aload_n hx hb kd2_48 rfl (lv_at hl 0 rfl) ?_
  refine lv_bipush (v := 9) hx hb kd2_49 (by decide) ?_
  refine k_newi C hK hP hD hS hA (N := 9) (by decide) (by decide) (Nat.le_of_ble_eq_true rfl) (Nat.le_of_ble_eq_true rfl) (Nat.le_of_ble_eq_true rfl) kd2_51 (fun q6 c6 H hK hP hD hS => ?_)
  refine W.widen (k := 9) (n := 1127) (Nat.le_of_ble_eq_true rfl) (Nat.le_of_ble_eq_true rfl) ?_
  have hP : va_P D zcls (([(h, .inr (2, [.ref q1, .ref q3, .int 0, .int 0, .ref q4, .ref q5, .null, .null, .null, .int 0, .int 0]))] ++ kwH q1 u2) ++ [(q3, .inl (c3, 1024, .inl (fun _ => 0))), (q4, .inl (c4, 4, .inl (fun _ => 0))), (q5, .inl (c5, 4, .inl (fun _ => 0))), (q6, .inl (c6, 9, .inl (fun _ => 0)))]) H := hP
  have hD : va_D A (([(h, .inr (2, [.ref q1, .ref q3, .int 0, .int 0, .ref q4, .ref q5, .null, .null, .null, .int 0, .int 0]))] ++ kwH q1 u2) ++ [(q3, .inl (c3, 1024, .inl (fun _ => 0))), (q4, .inl (c4, 4, .inl (fun _ => 0))), (q5, .inl (c5, 4, .inl (fun _ => 0))), (q6, .inl (c6, 9, .inl (fun _ => 0)))]) := hD
  have hK : va_K D zcls ((ktH u2) ++ [(c3, .int), (c4, .int), (c5, .int), (c6, .int)]) s := hK
  refine k_put C hK hP hD hS 0 rfl 6 (by decide) (pos := 92) (by decide +kernel) rfl rfl rfl rfl (Nat.le_of_ble_eq_true rfl) kd2_53 (fun H locs hP hD hS => ?_)
  have hP : va_P D zcls (([(h, .inr (2, [.ref q1, .ref q3, .int 0, .int 0, .ref q4, .ref q5, .ref q6, .null, .null, .int 0, .int 0]))] ++ kwH q1 u2) ++ [(q3, .inl (c3, 1024, .inl (fun _ => 0))), (q4, .inl (c4, 4, .inl (fun _ => 0))), (q5, .inl (c5, 4, .inl (fun _ => 0))), (q6, .inl (c6, 9, .inl (fun _ => 0)))]) H := hP
  have hD : va_D A (([(h, .inr (2, [.ref q1, .ref q3, .int 0, .int 0, .ref q4, .ref q5, .ref q6, .null, .null, .int 0, .int 0]))] ++ kwH q1 u2) ++ [(q3, .inl (c3, 1024, .inl (fun _ => 0))), (q4, .inl (c4, 4, .inl (fun _ => 0))), (q5, .inl (c5, 4, .inl (fun _ => 0))), (q6, .inl (c6, 9, .inl (fun _ => 0)))]) := hD
  refine lv_aload_n hx hb kd2_56 rfl (lv_at hl 0 rfl) ?_
  refine lv_bipush (v := 8) hx hb kd2_57 (by decide) ?_
  refine k_newi C hK hP hD hS hA (N := 8) (by decide) (by decide) (Nat.le_of_ble_eq_true rfl) (Nat.le_of_ble_eq_true rfl) (Nat.le_of_ble_eq_true rfl) kd2_59 (fun q7 c7 H hK hP hD hS => ?_)
  refine W.widen (k := 10) (n := 1135) (Nat.le_of_ble_eq_true rfl) (Nat.le_of_ble_eq_true rfl) ?_
  have hP : va_P D zcls (([(h, .inr (2, [.ref q1, .ref q3, .int 0, .int 0, .ref q4, .ref q5, .ref q6, .null, .null, .int 0, .int 0]))] ++ kwH q1 u2) ++ [(q3, .inl (c3, 1024, .inl (fun _ => 0))), (q4, .inl (c4, 4, .inl (fun _ => 0))), (q5, .inl (c5, 4, .inl (fun _ => 0))), (q6, .inl (c6, 9, .inl (fun _ => 0))), (q7, .inl (c7, 8, .inl (fun _ => 0)))]) H := hP
  have hD : va_D A (([(h, .inr (2, [.ref q1, .ref q3, .int 0, .int 0, .ref q4, .ref q5, .ref q6, .null, .null, .int 0, .int 0]))] ++ kwH q1 u2) ++ [(q3, .inl (c3, 1024, .inl (fun _ => 0))), (q4, .inl (c4, 4, .inl (fun _ => 0))), (q5, .inl (c5, 4, .inl (fun _ => 0))), (q6, .inl (c6, 9, .inl (fun _ => 0))), (q7, .inl (c7, 8, .inl (fun _ => 0)))]) := hD
  have hK : va_K D zcls ((ktH u2) ++ [(c3, .int), (c4, .int), (c5, .int), (c6, .int), (c7, .int)]) s := hK
  refine k_put C hK hP hD hS 0 rfl 7 (by decide) (pos := 93) (by decide +kernel) rfl rfl rfl rfl (Nat.le_of_ble_eq_true rfl) kd2_61 (fun H locs hP hD hS => ?_)
  have hP : va_P D zcls (([(h, .inr (2, [.ref q1, .ref q3, .int 0, .int 0, .ref q4, .ref q5, .ref q6, .ref q7, .null, .int 0, .int 0]))] ++ kwH q1 u2) ++ [(q3, .inl (c3, 1024, .inl (fun _ => 0))), (q4, .inl (c4, 4, .inl (fun _ => 0))), (q5, .inl (c5, 4, .inl (fun _ => 0))), (q6, .inl (c6, 9, .inl (fun _ => 0))), (q7, .inl (c7, 8, .inl (fun _ => 0)))]) H := hP
  have hD : va_D A (([(h, .inr (2, [.ref q1, .ref q3, .int 0, .int 0, .ref q4, .ref q5, .ref q6, .ref q7, .null, .int 0, .int 0]))] ++ kwH q1 u2) ++ [(q3, .inl (c3, 1024, .inl (fun _ => 0))), (q4, .inl (c4, 4, .inl (fun _ => 0))), (q5, .inl (c5, 4, .inl (fun _ => 0))), (q6, .inl (c6, 9, .inl (fun _ => 0))), (q7, .inl (c7, 8, .inl (fun _ => 0)))]) := hD
  refine lv_aload_n hx hb kd2_64 rfl (lv_at hl 0 rfl) ?_
  refine lv_bipush (v := 8) hx hb kd2_65 (by decide) ?_
  refine k_newi C hK hP hD hS hA (N := 8) (by decide) (by decide) (Nat.le_of_ble_eq_true rfl) (Nat.le_of_ble_eq_true rfl) (Nat.le_of_ble_eq_true rfl) kd2_67 (fun q8 c8 H hK hP hD hS => ?_)
  refine W.widen (k := 11) (n := 1143) (Nat.le_of_ble_eq_true rfl) (Nat.le_of_ble_eq_true rfl) ?_
  have hP : va_P D zcls (([(h, .inr (2, [.ref q1, .ref q3, .int 0, .int 0, .ref q4, .ref q5, .ref q6, .ref q7, .null, .int 0, .int 0]))] ++ kwH q1 u2) ++ [(q3, .inl (c3, 1024, .inl (fun _ => 0))), (q4, .inl (c4, 4, .inl (fun _ => 0))), (q5, .inl (c5, 4, .inl (fun _ => 0))), (q6, .inl (c6, 9, .inl (fun _ => 0))), (q7, .inl (c7, 8, .inl (fun _ => 0))), (q8, .inl (c8, 8, .inl (fun _ => 0)))]) H := hP
  have hD : va_D A (([(h, .inr (2, [.ref q1, .ref q3, .int 0, .int 0, .ref q4, .ref q5, .ref q6, .ref q7, .null, .int 0, .int 0]))] ++ kwH q1 u2) ++ [(q3, .inl (c3, 1024, .inl (fun _ => 0))), (q4, .inl (c4, 4, .inl (fun _ => 0))), (q5, .inl (c5, 4, .inl (fun _ => 0))), (q6, .inl (c6, 9, .inl (fun _ => 0))), (q7, .inl (c7, 8, .inl (fun _ => 0))), (q8, .inl (c8, 8, .inl (fun _ => 0)))]) := hD
  have hK : va_K D zcls ((ktH u2) ++ [(c3, .int), (c4, .int), (c5, .int), (c6, .int), (c7, .int), (c8, .int)]) s := hK
  refine k_put C hK hP hD hS 0 rfl 8 (by decide) (pos := 94) (by decide +kernel) rfl rfl rfl rfl (Nat.le_of_ble_eq_true rfl) kd2_69 (fun H locs hP hD hS => ?_)
  have hP : va_P D zcls (([(h, .inr (2, [.ref q1, .ref q3, .int 0, .int 0, .ref q4, .ref q5, .ref q6, .ref q7, .ref q8, .int 0, .int 0]))] ++ kwH q1 u2) ++ [(q3, .inl (c3, 1024, .inl (fun _ => 0))), (q4, .inl (c4, 4, .inl (fun _ => 0))), (q5, .inl (c5, 4, .inl (fun _ => 0))), (q6, .inl (c6, 9, .inl (fun _ => 0))), (q7, .inl (c7, 8, .inl (fun _ => 0))), (q8, .inl (c8, 8, .inl (fun _ => 0)))]) H := hP
  have hD : va_D A (([(h, .inr (2, [.ref q1, .ref q3, .int 0, .int 0, .ref q4, .ref q5, .ref q6, .ref q7, .ref q8, .int 0, .int 0]))] ++ kwH q1 u2) ++ [(q3, .inl (c3, 1024, .inl (fun _ => 0))), (q4, .inl (c4, 4, .inl (fun _ => 0))), (q5, .inl (c5, 4, .inl (fun _ => 0))), (q6, .inl (c6, 9, .inl (fun _ => 0))), (q7, .inl (c7, 8, .inl (fun _ => 0))), (q8, .inl (c8, 8, .inl (fun _ => 0)))]) := hD
  refine lv_aload_n hx hb kd2_72 rfl (lv_at hl 0 rfl) ?_
  refine lv_iconst (v := 0) hx hb kd2_73 (by decide) ?_
  refine k_put C hK hP hD hS 0 rfl 9 (by decide) (pos := 95) (by decide +kernel) rfl rfl rfl rfl (Nat.le_of_ble_eq_true rfl) kd2_74 (fun H locs hP hD hS => ?_)
  have hP : va_P D zcls (([(h, .inr (2, [.ref q1, .ref q3, .int 0, .int 0, .ref q4, .ref q5, .ref q6, .ref q7, .ref q8, .int 0, .int 0]))] ++ kwH q1 u2) ++ [(q3, .inl (c3, 1024, .inl (fun _ => 0))), (q4, .inl (c4, 4, .inl (fun _ => 0))), (q5, .inl (c5, 4, .inl (fun _ => 0))), (q6, .inl (c6, 9, .inl (fun _ => 0))), (q7, .inl (c7, 8, .inl (fun _ => 0))), (q8, .inl (c8, 8, .inl (fun _ => 0)))]) H := hP
  have hD : va_D A (([(h, .inr (2, [.ref q1, .ref q3, .int 0, .int 0, .ref q4, .ref q5, .ref q6, .ref q7, .ref q8, .int 0, .int 0]))] ++ kwH q1 u2) ++ [(q3, .inl (c3, 1024, .inl (fun _ => 0))), (q4, .inl (c4, 4, .inl (fun _ => 0))), (q5, .inl (c5, 4, .inl (fun _ => 0))), (q6, .inl (c6, 9, .inl (fun _ => 0))), (q7, .inl (c7, 8, .inl (fun _ => 0))), (q8, .inl (c8, 8, .inl (fun _ => 0)))]) := hD
  refine lv_aload_n hx hb kd2_77 rfl (lv_at hl 0 rfl) ?_
  refine lv_iconst (v := 0) hx hb kd2_78 (by decide) ?_
  refine k_put C hK hP hD hS 0 rfl 10 (by decide) (pos := 96) (by decide +kernel) rfl rfl rfl rfl (Nat.le_of_ble_eq_true rfl) kd2_79 (fun H locs hP hD hS => ?_)
  have hP : va_P D zcls (([(h, .inr (2, [.ref q1, .ref q3, .int 0, .int 0, .ref q4, .ref q5, .ref q6, .ref q7, .ref q8, .int 0, .int 0]))] ++ kwH q1 u2) ++ [(q3, .inl (c3, 1024, .inl (fun _ => 0))), (q4, .inl (c4, 4, .inl (fun _ => 0))), (q5, .inl (c5, 4, .inl (fun _ => 0))), (q6, .inl (c6, 9, .inl (fun _ => 0))), (q7, .inl (c7, 8, .inl (fun _ => 0))), (q8, .inl (c8, 8, .inl (fun _ => 0)))]) H := hP
  have hD : va_D A (([(h, .inr (2, [.ref q1, .ref q3, .int 0, .int 0, .ref q4, .ref q5, .ref q6, .ref q7, .ref q8, .int 0, .int 0]))] ++ kwH q1 u2) ++ [(q3, .inl (c3, 1024, .inl (fun _ => 0))), (q4, .inl (c4, 4, .inl (fun _ => 0))), (q5, .inl (c5, 4, .inl (fun _ => 0))), (q6, .inl (c6, 9, .inl (fun _ => 0))), (q7, .inl (c7, 8, .inl (fun _ => 0))), (q8, .inl (c8, 8, .inl (fun _ => 0)))]) := hD
  exact W.vret hx hb hr (fun t ht hW => ⟨⟨((fun k => ([q3, q4, q5, q6, q7, q8] : List Nat).getD k 0, fun k => ([c3, c4, c5, c6, c7, c8] : List ClassId).getD k c3), q1, u2), rfl, trivial, by rw [ht]; exact hP, va_K.moved hW.alike hK, hD⟩, hS.F ht⟩) hS.2.2 kd2_82
theorem kd3_0 : decode prog_5_method_1_code 0 = .ok (.aload_n 0, 1) := by decide +kernel
theorem kd3_1 : decode prog_5_method_1_code 1 = .ok (.invokespecial 3, 3) := by decide +kernel
theorem kd3_4 : decode prog_5_method_1_code 4 = .ok (.aload_n 0, 1) := by decide +kernel
theorem kd3_5 : decode prog_5_method_1_code 5 = .ok (.new 9, 3) := by decide +kernel
theorem kd3_8 : decode prog_5_method_1_code 8 = .ok (.dup, 1) := by decide +kernel
theorem kd3_9 : decode prog_5_method_1_code 9 = .ok (.invokespecial 11, 3) := by decide +kernel
theorem kd3_12 : decode prog_5_method_1_code 12 = .ok (.putfield 12, 3) := by decide +kernel
theorem kd3_15 : decode prog_5_method_1_code 15 = .ok (.aload_n 0, 1) := by decide +kernel
theorem kd3_16 : decode prog_5_method_1_code 16 = .ok (.iconst 5, 1) := by decide +kernel
theorem kd3_17 : decode prog_5_method_1_code 17 = .ok (.newarray .int, 2) := by decide +kernel
theorem kd3_19 : decode prog_5_method_1_code 19 = .ok (.putfield 18, 3) := by decide +kernel
theorem kd3_22 : decode prog_5_method_1_code 22 = .ok (.aload_n 0, 1) := by decide +kernel
theorem kd3_23 : decode prog_5_method_1_code 23 = .ok (.iconst 0, 1) := by decide +kernel
theorem kd3_24 : decode prog_5_method_1_code 24 = .ok (.putfield 22, 3) := by decide +kernel
theorem kd3_27 : decode prog_5_method_1_code 27 = .ok (.aload_n 0, 1) := by decide +kernel
theorem kd3_28 : decode prog_5_method_1_code 28 = .ok (.iconst (-1), 1) := by decide +kernel
theorem kd3_29 : decode prog_5_method_1_code 29 = .ok (.putfield 26, 3) := by decide +kernel
theorem kd3_32 : decode prog_5_method_1_code 32 = .ok (.return_, 1) := by decide +kernel
def kwR (h : Nat) (u : kS × Nat × kS) : va_W := (([(h, .inr (3, [.ref (u.2.1), .ref (u.1.1 0), .int 0, .int (-1)]))] ++ kwH (u.2.1) (u.2.2)) ++ [((u.1.1 0), .inl ((u.1.2 0), 5, .inl (fun _ => 0)))])
def ktR (u : kS × Nat × kS) : List (ClassId × FieldType) := ((ktH (u.2.2)) ++ [((u.1.2 0), .int)])
set_option maxHeartbeats 4000000 in
set_option maxRecDepth 100000 in
theorem k_Reader (l : Launch) (D : va_G) (h : Nat) (sz : Nat) : Met l ⟨zRn 3, "<init>", "()V"⟩ (jws (.code ⟨zRn 3, "<init>", "()V"⟩ prog_5_method_1_code 1 none)) (kRoom 3 6 91) (kP D h [(h, .inr (3, [.null, .null, .int 0, .int 0]))] sz) (kQ (kwR h) ktR D (va_A [(h, .inr (3, [.null, .null, .int 0, .int 0]))] sz)) 6 91 (va_A [(h, .inr (3, [.null, .null, .int 0, .int 0]))] sz) := by
  refine Met.ofW (cc := prog_5_method_1_code) (maxL := 1) (ret := none) (by decide) rfl ?_
  intro p e s m args below meth c s₁ B hml hv
  obtain ⟨rfl, hsz, hP, hK, hD0, hN⟩ := hv
  have hx := B.exec
  have hb := B.bytes
  have hr := B.returns
  have hts0 := atoms_spec (ws := jws (.code ⟨zRn 3, "<init>", "()V"⟩ prog_5_method_1_code 1 none)) B.pre
  have hts : ∀ w ∈ zTbl, w.before #[.ref h] s = true := fun w hw => hts0 w (List.mem_cons_of_mem _ hw)
  have hown : s.vm.findClass (zRn 3) = some m.cls := findClass_of_methodNamed B.named
  have hlocks := B.notSynchronized
  have hin : meth.name = "<init>" := (name_of_methodNamed B.named B.method).1
  have C : kCx p s m #[.ref h] meth c 3 prog_5_method_1_code 1 := ⟨hx, hb, hml, hown, hts, hin, hN, by decide⟩
  subst hsz
  have hD := hD0.self (sz := s.heap.size)
  generalize hAe : va_A [(h, .inr (3, [.null, .null, .int 0, .int 0]))] s.heap.size = A at hD ⊢
  have hA : ∀ q, s.heap.size ≤ q → A q := fun q h => by rw [← hAe]; exact Or.inr h
  have hS : va_S A s.heap s.heap [] := va_S.rf
  have hl := lv_entry ([.ref h]) (n := 1) (Nat.le_of_ble_eq_true rfl)
  rw [lg_entry_eq]
  generalize (lg_sl ([.ref h]) ++ List.replicate (1 - (lg_sl ([.ref h])).length) Slot.unset).toArray = ls at hl ⊢
  have hl : lv_has ls 1 [(0, .ref h)] := hl
  refine lv_aload_n hx hb kd3_0 rfl (lv_at hl 0 rfl) ?_
  refine k_obj C hl.1 (pos := 125) (by decide +kernel) (Nat.le_of_ble_eq_true rfl) (Nat.le_of_ble_eq_true rfl) (Nat.le_of_ble_eq_true rfl) (Nat.le_of_ble_eq_true rfl) kd3_1 ?_ rfl
  refine lv_aload_n hx hb kd3_4 rfl (lv_at hl 0 rfl) ?_
  refine k_new C hK hP hD hS hA (cN := 1) (by decide) (pos1 := 126) (pos2 := 22) (by decide +kernel) (by decide +kernel) (fs := [.null, .null, .null, .int 0, .int 0, .int 0, .int 0, .int 0, .null]) (by decide) (Nat.le_of_ble_eq_true rfl) (Nat.le_of_ble_eq_true rfl) kd3_5 (fun q1 H hP hD hS => ?_)
  refine W.widen (k := 1) (n := 9) (Nat.le_of_ble_eq_true rfl) (Nat.le_of_ble_eq_true rfl) ?_
  have hP : va_P D zcls [(h, .inr (3, [.null, .null, .int 0, .int 0])), (q1, .inr (1, [.null, .null, .null, .int 0, .int 0, .int 0, .int 0, .int 0, .null]))] H := hP
  have hD : va_D A [(h, .inr (3, [.null, .null, .int 0, .int 0])), (q1, .inr (1, [.null, .null, .null, .int 0, .int 0, .int 0, .int 0, .int 0, .null]))] := hD
  refine lv_dup hx hb kd3_8 rfl ?_
  refine k_callN (cN := 1) (mc := 4) (ms := 77) (X := [(h, .inr (3, [.null, .null, .int 0, .int 0]))]) (Wd := kwH q1) (Ty := ktH) C hl.1 (by decide) (fun sz => k_House l D q1 sz) (zmg (i := 25) (by decide +kernel) rfl) rfl rfl (zme (List.mem_of_getElem? (i := 127) (by decide +kernel))) (zmg (i := 24) (by decide +kernel) rfl) (by decide) ⟨Nat.le_of_ble_eq_true rfl, Nat.le_of_ble_eq_true rfl⟩ ⟨Nat.le_of_ble_eq_true rfl, Nat.le_of_ble_eq_true rfl⟩ hK hP hD hS hA (Nat.le_of_ble_eq_true rfl) kd3_9 (fun u2 H locs hP hK hD hS => ?_)
  refine W.widen (k := 5) (n := 86) (Nat.le_of_ble_eq_true rfl) (Nat.le_of_ble_eq_true rfl) ?_
  have hP : va_P D zcls ([(h, .inr (3, [.null, .null, .int 0, .int 0]))] ++ kwH q1 u2) H := hP
  have hD : va_D A ([(h, .inr (3, [.null, .null, .int 0, .int 0]))] ++ kwH q1 u2) := hD
  have hK : va_K D zcls (ktH u2) s := hK
  refine k_put C hK hP hD hS 0 rfl 0 (by decide) (pos := 128) (by decide +kernel) rfl rfl rfl rfl (Nat.le_of_ble_eq_true rfl) kd3_12 (fun H locs hP hD hS => ?_)
  have hP : va_P D zcls ([(h, .inr (3, [.ref q1, .null, .int 0, .int 0]))] ++ kwH q1 u2) H := hP
  have hD : va_D A ([(h, .inr (3, [.ref q1, .null, .int 0, .int 0]))] ++ kwH q1 u2) := hD
  refine lv_aload_n hx hb kd3_15 rfl (lv_at hl 0 rfl) ?_
  refine lv_iconst (v := 5) hx hb kd3_16 (by decide) ?_
  refine k_newi C hK hP hD hS hA (N := 5) (by decide) (by decide) (Nat.le_of_ble_eq_true rfl) (Nat.le_of_ble_eq_true rfl) (Nat.le_of_ble_eq_true rfl) kd3_17 (fun q3 c3 H hK hP hD hS => ?_)
  refine W.widen (k := 6) (n := 91) (Nat.le_of_ble_eq_true rfl) (Nat.le_of_ble_eq_true rfl) ?_
  have hP : va_P D zcls (([(h, .inr (3, [.ref q1, .null, .int 0, .int 0]))] ++ kwH q1 u2) ++ [(q3, .inl (c3, 5, .inl (fun _ => 0)))]) H := hP
  have hD : va_D A (([(h, .inr (3, [.ref q1, .null, .int 0, .int 0]))] ++ kwH q1 u2) ++ [(q3, .inl (c3, 5, .inl (fun _ => 0)))]) := hD
  have hK : va_K D zcls ((ktH u2) ++ [(c3, .int)]) s := hK
  refine k_put C hK hP hD hS 0 rfl 1 (by decide) (pos := 129) (by decide +kernel) rfl rfl rfl rfl (Nat.le_of_ble_eq_true rfl) kd3_19 (fun H locs hP hD hS => ?_)
  have hP : va_P D zcls (([(h, .inr (3, [.ref q1, .ref q3, .int 0, .int 0]))] ++ kwH q1 u2) ++ [(q3, .inl (c3, 5, .inl (fun _ => 0)))]) H := hP
  have hD : va_D A (([(h, .inr (3, [.ref q1, .ref q3, .int 0, .int 0]))] ++ kwH q1 u2) ++ [(q3, .inl (c3, 5, .inl (fun _ => 0)))]) := hD
  refine lv_aload_n hx hb kd3_22 rfl (lv_at hl 0 rfl) ?_
  refine lv_iconst (v := 0) hx hb kd3_23 (by decide) ?_
  refine k_put C hK hP hD hS 0 rfl 2 (by decide) (pos := 130) (by decide +kernel) rfl rfl rfl rfl (Nat.le_of_ble_eq_true rfl) kd3_24 (fun H locs hP hD hS => ?_)
  have hP : va_P D zcls (([(h, .inr (3, [.ref q1, .ref q3, .int 0, .int 0]))] ++ kwH q1 u2) ++ [(q3, .inl (c3, 5, .inl (fun _ => 0)))]) H := hP
  have hD : va_D A (([(h, .inr (3, [.ref q1, .ref q3, .int 0, .int 0]))] ++ kwH q1 u2) ++ [(q3, .inl (c3, 5, .inl (fun _ => 0)))]) := hD
  refine lv_aload_n hx hb kd3_27 rfl (lv_at hl 0 rfl) ?_
  refine lv_iconst (v := (-1)) hx hb kd3_28 (by decide) ?_
  refine k_put C hK hP hD hS 0 rfl 3 (by decide) (pos := 131) (by decide +kernel) rfl rfl rfl rfl (Nat.le_of_ble_eq_true rfl) kd3_29 (fun H locs hP hD hS => ?_)
  have hP : va_P D zcls (([(h, .inr (3, [.ref q1, .ref q3, .int 0, .int (-1)]))] ++ kwH q1 u2) ++ [(q3, .inl (c3, 5, .inl (fun _ => 0)))]) H := hP
  have hD : va_D A (([(h, .inr (3, [.ref q1, .ref q3, .int 0, .int (-1)]))] ++ kwH q1 u2) ++ [(q3, .inl (c3, 5, .inl (fun _ => 0)))]) := hD
  exact W.vret hx hb hr (fun t ht hW => ⟨⟨((fun k => ([q3] : List Nat).getD k 0, fun k => ([c3] : List ClassId).getD k c3), q1, u2), rfl, trivial, by rw [ht]; exact hP, va_K.moved hW.alike hK, hD⟩, hS.F ht⟩) hS.2.2 kd3_32
end KE
