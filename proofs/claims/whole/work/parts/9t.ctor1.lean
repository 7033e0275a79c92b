section KD
theorem kd1_0 : decode prog_3_method_1_code 0 = .ok (.aload_n 0, 1) := by decide +kernel
theorem kd1_1 : decode prog_3_method_1_code 1 = .ok (.invokespecial 3, 3) := by decide +kernel
theorem kd1_4 : decode prog_3_method_1_code 4 = .ok (.aload_n 0, 1) := by decide +kernel
theorem kd1_5 : decode prog_3_method_1_code 5 = .ok (.bipush 40, 2) := by decide +kernel
theorem kd1_7 : decode prog_3_method_1_code 7 = .ok (.newarray .int, 2) := by decide +kernel
theorem kd1_9 : decode prog_3_method_1_code 9 = .ok (.putfield 9, 3) := by decide +kernel
theorem kd1_12 : decode prog_3_method_1_code 12 = .ok (.aload_n 0, 1) := by decide +kernel
theorem kd1_13 : decode prog_3_method_1_code 13 = .ok (.bipush 24, 2) := by decide +kernel
theorem kd1_15 : decode prog_3_method_1_code 15 = .ok (.newarray .int, 2) := by decide +kernel
theorem kd1_17 : decode prog_3_method_1_code 17 = .ok (.putfield 15, 3) := by decide +kernel
theorem kd1_20 : decode prog_3_method_1_code 20 = .ok (.aload_n 0, 1) := by decide +kernel
theorem kd1_21 : decode prog_3_method_1_code 21 = .ok (.iconst 5, 1) := by decide +kernel
theorem kd1_22 : decode prog_3_method_1_code 22 = .ok (.newarray .int, 2) := by decide +kernel
theorem kd1_24 : decode prog_3_method_1_code 24 = .ok (.dup, 1) := by decide +kernel
theorem kd1_25 : decode prog_3_method_1_code 25 = .ok (.iconst 0, 1) := by decide +kernel
theorem kd1_26 : decode prog_3_method_1_code 26 = .ok (.iconst 0, 1) := by decide +kernel
theorem kd1_27 : decode prog_3_method_1_code 27 = .ok (.iastore, 1) := by decide +kernel
theorem kd1_28 : decode prog_3_method_1_code 28 = .ok (.dup, 1) := by decide +kernel
theorem kd1_29 : decode prog_3_method_1_code 29 = .ok (.iconst 1, 1) := by decide +kernel
theorem kd1_30 : decode prog_3_method_1_code 30 = .ok (.iconst 0, 1) := by decide +kernel
theorem kd1_31 : decode prog_3_method_1_code 31 = .ok (.iastore, 1) := by decide +kernel
theorem kd1_32 : decode prog_3_method_1_code 32 = .ok (.dup, 1) := by decide +kernel
theorem kd1_33 : decode prog_3_method_1_code 33 = .ok (.iconst 2, 1) := by decide +kernel
theorem kd1_34 : decode prog_3_method_1_code 34 = .ok (.bipush 10, 2) := by decide +kernel
theorem kd1_36 : decode prog_3_method_1_code 36 = .ok (.iastore, 1) := by decide +kernel
theorem kd1_37 : decode prog_3_method_1_code 37 = .ok (.dup, 1) := by decide +kernel
theorem kd1_38 : decode prog_3_method_1_code 38 = .ok (.iconst 3, 1) := by decide +kernel
theorem kd1_39 : decode prog_3_method_1_code 39 = .ok (.bipush 15, 2) := by decide +kernel
theorem kd1_41 : decode prog_3_method_1_code 41 = .ok (.iastore, 1) := by decide +kernel
theorem kd1_42 : decode prog_3_method_1_code 42 = .ok (.dup, 1) := by decide +kernel
theorem kd1_43 : decode prog_3_method_1_code 43 = .ok (.iconst 4, 1) := by decide +kernel
theorem kd1_44 : decode prog_3_method_1_code 44 = .ok (.bipush 20, 2) := by decide +kernel
theorem kd1_46 : decode prog_3_method_1_code 46 = .ok (.iastore, 1) := by decide +kernel
theorem kd1_47 : decode prog_3_method_1_code 47 = .ok (.putfield 18, 3) := by decide +kernel
theorem kd1_50 : decode prog_3_method_1_code 50 = .ok (.aload_n 0, 1) := by decide +kernel
theorem kd1_51 : decode prog_3_method_1_code 51 = .ok (.iconst 0, 1) := by decide +kernel
theorem kd1_52 : decode prog_3_method_1_code 52 = .ok (.putfield 21, 3) := by decide +kernel
theorem kd1_55 : decode prog_3_method_1_code 55 = .ok (.aload_n 0, 1) := by decide +kernel
theorem kd1_56 : decode prog_3_method_1_code 56 = .ok (.iconst 0, 1) := by decide +kernel
theorem kd1_57 : decode prog_3_method_1_code 57 = .ok (.putfield 25, 3) := by decide +kernel
theorem kd1_60 : decode prog_3_method_1_code 60 = .ok (.aload_n 0, 1) := by decide +kernel
theorem kd1_61 : decode prog_3_method_1_code 61 = .ok (.iconst 0, 1) := by decide +kernel
theorem kd1_62 : decode prog_3_method_1_code 62 = .ok (.putfield 28, 3) := by decide +kernel
theorem kd1_65 : decode prog_3_method_1_code 65 = .ok (.aload_n 0, 1) := by decide +kernel
theorem kd1_66 : decode prog_3_method_1_code 66 = .ok (.iconst 0, 1) := by decide +kernel
theorem kd1_67 : decode prog_3_method_1_code 67 = .ok (.putfield 31, 3) := by decide +kernel
theorem kd1_70 : decode prog_3_method_1_code 70 = .ok (.aload_n 0, 1) := by decide +kernel
theorem kd1_71 : decode prog_3_method_1_code 71 = .ok (.iconst 1, 1) := by decide +kernel
theorem kd1_72 : decode prog_3_method_1_code 72 = .ok (.putfield 34, 3) := by decide +kernel
theorem kd1_75 : decode prog_3_method_1_code 75 = .ok (.aload_n 0, 1) := by decide +kernel
theorem kd1_76 : decode prog_3_method_1_code 76 = .ok (.bipush 8, 2) := by decide +kernel
theorem kd1_78 : decode prog_3_method_1_code 78 = .ok (.newarray .int, 2) := by decide +kernel
theorem kd1_80 : decode prog_3_method_1_code 80 = .ok (.putfield 37, 3) := by decide +kernel
theorem kd1_83 : decode prog_3_method_1_code 83 = .ok (.return_, 1) := by decide +kernel
def kwH (h : Nat) (u : kS) : va_W := [(h, .inr (1, [.ref (u.1 0), .ref (u.1 1), .ref (u.1 2), .int 0, .int 0, .int 0, .int 0, .int 1, .ref (u.1 3)])), ((u.1 0), .inl ((u.2 0), 40, .inl (fun _ => 0))), ((u.1 1), .inl ((u.2 1), 24, .inl (fun _ => 0))), ((u.1 2), .inl ((u.2 2), 5, .inl (upd (upd (upd (upd (upd (fun _ => 0) 0 0) 1 0) 2 10) 3 15) 4 20))), ((u.1 3), .inl ((u.2 3), 8, .inl (fun _ => 0)))]
def ktH (u : kS) : List (ClassId × FieldType) := [((u.2 0), .int), ((u.2 1), .int), ((u.2 2), .int), ((u.2 3), .int)]
set_option maxHeartbeats 4000000 in
set_option maxRecDepth 100000 in
theorem k_House (l : Launch) (D : va_G) (h : Nat) (sz : Nat) : Met l ⟨zRn 1, "<init>", "()V"⟩ (jws (.code ⟨zRn 1, "<init>", "()V"⟩ prog_3_method_1_code 1 none)) (kRoom 2 4 77) (kP D h [(h, .inr (1, [.null, .null, .null, .int 0, .int 0, .int 0, .int 0, .int 0, .null]))] sz) (kQ (kwH h) ktH D (va_A [(h, .inr (1, [.null, .null, .null, .int 0, .int 0, .int 0, .int 0, .int 0, .null]))] sz)) 4 77 (va_A [(h, .inr (1, [.null, .null, .null, .int 0, .int 0, .int 0, .int 0, .int 0, .null]))] sz) := by
  refine Met.ofW (cc := prog_3_method_1_code) (maxL := 1) (ret := none) (by decide) rfl ?_
  intro p e s m args below meth c s₁ B hml hv
  obtain ⟨rfl, hsz, hP, hK, hD0, hN⟩ := hv
  have hx := B.exec
  have hb := B.bytes
  have hr := B.returns
  have hts0 := atoms_spec (ws := jws (.code ⟨zRn 1, "<init>", "()V"⟩ prog_3_method_1_code 1 none)) B.pre
  have hts : ∀ w ∈ zTbl, w.before #[.ref h] s = true := fun w hw => hts0 w (List.mem_cons_of_mem _ hw)
  have hown : s.vm.findClass (zRn 1) = some m.cls := findClass_of_methodNamed B.named
  have hlocks := B.notSynchronized
  have hin : meth.name = "<init>" := (name_of_methodNamed B.named B.method).1
  have C : kCx p s m #[.ref h] meth c 1 prog_3_method_1_code 1 := ⟨hx, hb, hml, hown, hts, hin, hN, by decide⟩
  subst hsz
  have hD := hD0.self (sz := s.heap.size)
  generalize hAe : va_A [(h, .inr (1, [.null, .null, .null, .int 0, .int 0, .int 0, .int 0, .int 0, .null]))] s.heap.size = A at hD ⊢
  have hA : ∀ q, s.heap.size ≤ q → A q := fun q h => by rw [← hAe]; exact Or.inr h
  have hS : va_S A s.heap s.heap [] := va_S.rf
  have hl := lv_entry ([.ref h]) (n := 1) (Nat.le_of_ble_eq_true rfl)
  rw [lg_entry_eq]
  generalize (lg_sl ([.ref h]) ++ List.replicate (1 - (lg_sl ([.ref h])).length) Slot.unset).toArray = ls at hl ⊢
  have hl : lv_has ls 1 [(0, .ref h)] := hl
  refine lv_aload_n hx hb kd1_0 rfl (lv_at hl 0 rfl) ?_
  refine k_obj C hl.1 (pos := 26) (by decide +kernel) (Nat.le_of_ble_eq_true rfl) (Nat.le_of_ble_eq_true rfl) (Nat.le_of_ble_eq_true rfl) (Nat.le_of_ble_eq_true rfl) kd1_1 ?_ rfl
  refine lv_aload_n hx hb kd1_4 rfl (lv_at hl 0 rfl) ?_
  refine lv_bipush (v := 40) hx hb kd1_5 (by decide) ?_
  refine k_newi C hK hP hD hS hA (N := 40) (by decide) (by decide) (Nat.le_of_ble_eq_true rfl) (Nat.le_of_ble_eq_true rfl) (Nat.le_of_ble_eq_true rfl) kd1_7 (fun q1 c1 H hK hP hD hS => ?_)
  refine W.widen (k := 1) (n := 40) (Nat.le_of_ble_eq_true rfl) (Nat.le_of_ble_eq_true rfl) ?_
  have hP : va_P D zcls [(h, .inr (1, [.null, .null, .null, .int 0, .int 0, .int 0, .int 0, .int 0, .null])), (q1, .inl (c1, 40, .inl (fun _ => 0)))] H := hP
  have hD : va_D A [(h, .inr (1, [.null, .null, .null, .int 0, .int 0, .int 0, .int 0, .int 0, .null])), (q1, .inl (c1, 40, .inl (fun _ => 0)))] := hD
  have hK : va_K D zcls [(c1, .int)] s := hK
  refine k_put C hK hP hD hS 0 rfl 0 (by decide) (pos := 27) (by decide +kernel) rfl rfl rfl rfl (Nat.le_of_ble_eq_true rfl) kd1_9 (fun H locs hP hD hS => ?_)
  have hP : va_P D zcls [(h, .inr (1, [.ref q1, .null, .null, .int 0, .int 0, .int 0, .int 0, .int 0, .null])), (q1, .inl (c1, 40, .inl (fun _ => 0)))] H := hP
  have hD : va_D A [(h, .inr (1, [.ref q1, .null, .null, .int 0, .int 0, .int 0, .int 0, .int 0, .null])), (q1, .inl (c1, 40, .inl (fun _ => 0)))] := hD
  refine lv_aload_n hx hb kd1_12 rfl (lv_at hl 0 rfl) ?_
  refine lv_bipush (v := 24) hx hb kd1_13 (by decide) ?_
  refine k_newi C hK hP hD hS hA (N := 24) (by decide) (by decide) (Nat.le_of_ble_eq_true rfl) (Nat.le_of_ble_eq_true rfl) (Nat.le_of_ble_eq_true rfl) kd1_15 (fun q2 c2 H hK hP hD hS => ?_)
  refine W.widen (k := 2) (n := 64) (Nat.le_of_ble_eq_true rfl) (Nat.le_of_ble_eq_true rfl) ?_
  have hP : va_P D zcls [(h, .inr (1, [.ref q1, .null, .null, .int 0, .int 0, .int 0, .int 0, .int 0, .null])), (q1, .inl (c1, 40, .inl (fun _ => 0))), (q2, .inl (c2, 24, .inl (fun _ => 0)))] H := hP
  have hD : va_D A [(h, .inr (1, [.ref q1, .null, .null, .int 0, .int 0, .int 0, .int 0, .int 0, .null])), (q1, .inl (c1, 40, .inl (fun _ => 0))), (q2, .inl (c2, 24, .inl (fun _ => 0)))] := hD
  have hK : va_K D zcls [(c1, .int), (c2, .int)] s := hK
  refine k_put C hK hP hD hS 0 rfl 1 (by decide) (pos := 28) (by decide +kernel) rfl rfl rfl rfl (Nat.le_of_ble_eq_true rfl) kd1_17 (fun H locs hP hD hS => ?_)
  have hP : va_P D zcls [(h, .inr (1, [.ref q1, .ref q2, .null, .int 0, .int 0, .int 0, .int 0, .int 0, .null])), (q1, .inl (c1, 40, .inl (fun _ => 0))), (q2, .inl (c2, 24, .inl (fun _ => 0)))] H := hP
  have hD : va_D A [(h, .inr (1, [.ref q1, .ref q2, .null, .int 0, .int 0, .int 0, .int 0, .int 0, .null])), (q1, .inl (c1, 40, .inl (fun _ => 0))), (q2, .inl (c2, 24, .inl (fun _ => 0)))] := hD
  refine lv_aload_n hx hb kd1_20 rfl (lv_at hl 0 rfl) ?_
  refine lv_iconst (v := 5) hx hb kd1_21 (by decide) ?_
  refine k_newi C hK hP hD hS hA (N := 5) (by decide) (by decide) (Nat.le_of_ble_eq_true rfl) (Nat.le_of_ble_eq_true rfl) (Nat.le_of_ble_eq_true rfl) kd1_22 (fun q3 c3 H hK hP hD hS => ?_)
  refine W.widen (k := 3) (n := 69) (Nat.le_of_ble_eq_true rfl) (Nat.le_of_ble_eq_true rfl) ?_
  have hP : va_P D zcls [(h, .inr (1, [.ref q1, .ref q2, .null, .int 0, .int 0, .int 0, .int 0, .int 0, .null])), (q1, .inl (c1, 40, .inl (fun _ => 0))), (q2, .inl (c2, 24, .inl (fun _ => 0))), (q3, .inl (c3, 5, .inl (fun _ => 0)))] H := hP
  have hD : va_D A [(h, .inr (1, [.ref q1, .ref q2, .null, .int 0, .int 0, .int 0, .int 0, .int 0, .null])), (q1, .inl (c1, 40, .inl (fun _ => 0))), (q2, .inl (c2, 24, .inl (fun _ => 0))), (q3, .inl (c3, 5, .inl (fun _ => 0)))] := hD
  have hK : va_K D zcls [(c1, .int), (c2, .int), (c3, .int)] s := hK
  refine lv_dup hx hb kd1_24 rfl ?_
  refine lv_iconst (v := 0) hx hb kd1_25 (by decide) ?_
  refine lv_iconst (v := 0) hx hb kd1_26 (by decide) ?_
  refine va_iast hx hb hK hP hD hS 3 2 rfl rfl (zis_in (by decide)) kd1_27 (fun H locs hP hD hS => ?_)
  have hP : va_P D zcls [(h, .inr (1, [.ref q1, .ref q2, .null, .int 0, .int 0, .int 0, .int 0, .int 0, .null])), (q1, .inl (c1, 40, .inl (fun _ => 0))), (q2, .inl (c2, 24, .inl (fun _ => 0))), (q3, .inl (c3, 5, .inl (upd (fun _ => 0) 0 0)))] H := hP
  have hD : va_D A [(h, .inr (1, [.ref q1, .ref q2, .null, .int 0, .int 0, .int 0, .int 0, .int 0, .null])), (q1, .inl (c1, 40, .inl (fun _ => 0))), (q2, .inl (c2, 24, .inl (fun _ => 0))), (q3, .inl (c3, 5, .inl (upd (fun _ => 0) 0 0)))] := hD
  refine lv_dup hx hb kd1_28 rfl ?_
  refine lv_iconst (v := 1) hx hb kd1_29 (by decide) ?_
  refine lv_iconst (v := 0) hx hb kd1_30 (by decide) ?_
  refine va_iast hx hb hK hP hD hS 3 2 rfl rfl (zis_in (by decide)) kd1_31 (fun H locs hP hD hS => ?_)
  have hP : va_P D zcls [(h, .inr (1, [.ref q1, .ref q2, .null, .int 0, .int 0, .int 0, .int 0, .int 0, .null])), (q1, .inl (c1, 40, .inl (fun _ => 0))), (q2, .inl (c2, 24, .inl (fun _ => 0))), (q3, .inl (c3, 5, .inl (upd (upd (fun _ => 0) 0 0) 1 0)))] H := hP
  have hD : va_D A [(h, .inr (1, [.ref q1, .ref q2, .null, .int 0, .int 0, .int 0, .int 0, .int 0, .null])), (q1, .inl (c1, 40, .inl (fun _ => 0))), (q2, .inl (c2, 24, .inl (fun _ => 0))), (q3, .inl (c3, 5, .inl (upd (upd (fun _ => 0) 0 0) 1 0)))] := hD
  refine lv_dup hx hb kd1_32 rfl ?_
  refine lv_iconst (v := 2) hx hb kd1_33 (by decide) ?_
  refine lv_bipush (v := 10) hx hb kd1_34 (by decide) ?_
  refine va_iast hx hb hK hP hD hS 3 2 rfl rfl (zis_in (by decide)) kd1_36 (fun H locs hP hD hS => ?_)
  have hP : va_P D zcls [(h, .inr (1, [.ref q1, .ref q2, .null, .int 0, .int 0, .int 0, .int 0, .int 0, .null])), (q1, .inl (c1, 40, .inl (fun _ => 0))), (q2, .inl (c2, 24, .inl (fun _ => 0))), (q3, .inl (c3, 5, .inl (upd (upd (upd (fun _ => 0) 0 0) 1 0) 2 10)))] H := hP
  have hD : va_D A [(h, .inr (1, [.ref q1, .ref q2, .null, .int 0, .int 0, .int 0, .int 0, .int 0, .null])), (q1, .inl (c1, 40, .inl (fun _ => 0))), (q2, .inl (c2, 24, .inl (fun _ => 0))), (q3, .inl (c3, 5, .inl (upd (upd (upd (fun _ => 0) 0 0) 1 0) 2 10)))] := hD
  refine lv_dup hx hb kd1_37 rfl ?_
  refine lv_iconst (v := 3) hx hb kd1_38 (by decide) ?_
  refine lv_bipush (v := 15) hx hb kd1_39 (by decide) ?_
  refine va_iast hx hb hK hP hD hS 3 2 rfl rfl (zis_in (by decide)) kd1_41 (fun H locs hP hD hS => ?_)
  have hP : va_P D zcls [(h, .inr (1, [.ref q1, .ref q2, .null, .int 0, .int 0, .int 0, .int 0, .int 0, .null])), (q1, .inl (c1, 40, .inl (fun _ => 0))), (q2, .inl (c2, 24, .inl (fun _ => 0))), (q3, .inl (c3, 5, .inl (upd (upd (upd (upd (fun _ => 0) 0 0) 1 0) 2 10) 3 15)))] H := hP
  have hD : va_D A [(h, .inr (1, [.ref q1, .ref q2, .null, .int 0, .int 0, .int 0, .int 0, .int 0, .null])), (q1, .inl (c1, 40, .inl (fun _ => 0))), (q2, .inl (c2, 24, .inl (fun _ => 0))), (q3, .inl (c3, 5, .inl (upd (upd (upd (upd (fun _ => 0) 0 0) 1 0) 2 10) 3 15)))] := hD
  refine lv_dup hx hb kd1_42 rfl ?_
  refine lv_iconst (v := 4) hx hb kd1_43 (by decide) ?_
  refine lv_bipush (v := 20) hx hb kd1_44 (by decide) ?_
  refine va_iast hx hb hK hP hD hS 3 2 rfl rfl (zis_in (by decide)) kd1_46 (fun H locs hP hD hS => ?_)
  have hP : va_P D zcls [(h, .inr (1, [.ref q1, .ref q2, .null, .int 0, .int 0, .int 0, .int 0, .int 0, .null])), (q1, .inl (c1, 40, .inl (fun _ => 0))), (q2, .inl (c2, 24, .inl (fun _ => 0))), (q3, .inl (c3, 5, .inl (upd (upd (upd (upd (upd (fun _ => 0) 0 0) 1 0) 2 10) 3 15) 4 20)))] H := hP
  have hD : va_D A [(h, .inr (1, [.ref q1, .ref q2, .null, .int 0, .int 0, .int 0, .int 0, .int 0, .null])), (q1, .inl (c1, 40, .inl (fun _ => 0))), (q2, .inl (c2, 24, .inl (fun _ => 0))), (q3, .inl (c3, 5, .inl (upd (upd (upd (upd (upd (fun _ => 0) 0 0) 1 0) 2 10) 3 15) 4 20)))] := hD
  refine k_put C hK hP hD hS 0 rfl 2 (by decide) (pos := 29) (by decide +kernel) rfl rfl rfl rfl (Nat.le_of_ble_eq_true rfl) kd1_47 (fun H locs hP hD hS => ?_)
  have hP : va_P D zcls [(h, .inr (1, [.ref q1, .ref q2, .ref q3, .int 0, .int 0, .int 0, .int 0, .int 0, .null])), (q1, .inl (c1, 40, .inl (fun _ => 0))), (q2, .inl (c2, 24, .inl (fun _ => 0))), (q3, .inl (c3, 5, .inl (upd (upd (upd (upd (upd (fun _ => 0) 0 0) 1 0) 2 10) 3 15) 4 20)))] H := hP
  have hD : va_D A [(h, .inr (1, [.ref q1, .ref q2, .ref q3, .int 0, .int 0, .int 0, .int 0, .int 0, .null])), (q1, .inl (c1, 40, .inl (fun _ => 0))), (q2, .inl (c2, 24, .inl (fun _ => 0))), (q3, .inl (c3, 5, .inl (upd (upd (upd (upd (upd (fun _ => 0) 0 0) 1 0) 2 10) 3 15) 4 20)))] := hD
  refine lv_aload_n hx hb kd1_50 rfl (lv_at hl 0 rfl) ?_
  refine lv_iconst (v := 0) hx hb kd1_51 (by decide) ?_
  refine k_put C hK hP hD hS 0 rfl 3 (by decide) (pos := 30) (by decide +kernel) rfl rfl rfl rfl (Nat.le_of_ble_eq_true rfl) kd1_52 (fun H locs hP hD hS => ?_)
  have hP : va_P D zcls [(h, .inr (1, [.ref q1, .ref q2, .ref q3, .int 0, .int 0, .int 0, .int 0, .int 0, .null])), (q1, .inl (c1, 40, .inl (fun _ => 0))), (q2, .inl (c2, 24, .inl (fun _ => 0))), (q3, .inl (c3, 5, .inl (upd (upd (upd (upd (upd (fun _ => 0) 0 0) 1 0) 2 10) 3 15) 4 20)))] H := hP
  have hD : va_D A [(h, .inr (1, [.ref q1, .ref q2, .ref q3, .int 0, .int 0, .int 0, .int 0, .int 0, .null])), (q1, .inl (c1, 40, .inl (fun _ => 0))), (q2, .inl (c2, 24, .inl (fun _ => 0))), (q3, .inl (c3, 5, .inl (upd (upd (upd (upd (upd (fun _ => 0) 0 0) 1 0) 2 10) 3 15) 4 20)))] := hD
  refine lv_aload_n hx hb kd1_55 rfl (lv_at hl 0 rfl) ?_
  refine lv_iconst (v := 0) hx hb kd1_56 (by decide) ?_
  refine k_put C hK hP hD hS 0 rfl 4 (by decide) (pos := 31) (by decide +kernel) rfl rfl rfl rfl (Nat.le_of_ble_eq_true rfl) kd1_57 (fun H locs hP hD hS => ?_)
  have hP : va_P D zcls [(h, .inr (1, [.ref q1, .ref q2, .ref q3, .int 0, .int 0, .int 0, .int 0, .int 0, .null])), (q1, .inl (c1, 40, .inl (fun _ => 0))), (q2, .inl (c2, 24, .inl (fun _ => 0))), (q3, .inl (c3, 5, .inl (upd (upd (upd (upd (upd (fun _ => 0) 0 0) 1 0) 2 10) 3 15) 4 20)))] H := hP
  have hD : va_D A [(h, .inr (1, [.ref q1, .ref q2, .ref q3, .int 0, .int 0, .int 0, .int 0, .int 0, .null])), (q1, .inl (c1, 40, .inl (fun _ => 0))), (q2, .inl (c2, 24, .inl (fun _ => 0))), (q3, .inl (c3, 5, .inl (upd (upd (upd (upd (upd (fun _ => 0) 0 0) 1 0) 2 10) 3 15) 4 20)))] := hD
  refine lv_aload_n hx hb kd1_60 rfl (lv_at hl 0 rfl) ?_
  refine lv_iconst (v := 0) hx hb kd1_61 (by decide) ?_
  refine k_put C hK hP hD hS 0 rfl 5 (by decide) (pos := 32) (by decide +kernel) rfl rfl rfl rfl (Nat.le_of_ble_eq_true rfl) kd1_62 (fun H locs hP hD hS => ?_)
  have hP : va_P D zcls [(h, .inr (1, [.ref q1, .ref q2, .ref q3, .int 0, .int 0, .int 0, .int 0, .int 0, .null])), (q1, .inl (c1, 40, .inl (fun _ => 0))), (q2, .inl (c2, 24, .inl (fun _ => 0))), (q3, .inl (c3, 5, .inl (upd (upd (upd (upd (upd (fun _ => 0) 0 0) 1 0) 2 10) 3 15) 4 20)))] H := hP
  have hD : va_D A [(h, .inr (1, [.ref q1, .ref q2, .ref q3, .int 0, .int 0, .int 0, .int 0, .int 0, .null])), (q1, .inl (c1, 40, .inl (fun _ => 0))), (q2, .inl (c2, 24, .inl (fun _ => 0))), (q3, .inl (c3, 5, .inl (upd (upd (upd (upd (upd (fun _ => 0) 0 0) 1 0) 2 10) 3 15) 4 20)))] := hD
  refine lv_aload_n hx hb kd1_65 rfl (lv_at hl 0 rfl) ?_
  refine lv_iconst (v := 0) hx hb kd1_66 (by decide) ?_
  refine k_put C hK hP hD hS 0 rfl 6 (by decide) (pos := 33) (by decide +kernel) rfl rfl rfl rfl (Nat.le_of_ble_eq_true rfl) kd1_67 (fun H locs hP hD hS => ?_)
  have hP : va_P D zcls [(h, .inr (1, [.ref q1, .ref q2, .ref q3, .int 0, .int 0, .int 0, .int 0, .int 0, .null])), (q1, .inl (c1, 40, .inl (fun _ => 0))), (q2, .inl (c2, 24, .inl (fun _ => 0))), (q3, .inl (c3, 5, .inl (upd (upd (upd (upd (upd (fun _ => 0) 0 0) 1 0) 2 10) 3 15) 4 20)))] H := hP
  have hD : va_D A [(h, .inr (1, [.ref q1, .ref q2, .ref q3, .int 0, .int 0, .int 0, .int 0, .int 0, .null])), (q1, .inl (c1, 40, .inl (fun _ => 0))), (q2, .inl (c2, 24, .inl (fun _ => 0))), (q3, .inl (c3, 5, .inl (upd (upd (upd (upd (upd (fun _ => 0) 0 0) 1 0) 2 10) 3 15) 4 20)))] := hD
  refine lv_aload_n hx hb kd1_70 rfl (lv_at hl 0 rfl) ?_
  refine lv_iconst (v := 1) hx hb kd1_71 (by decide) ?_
  refine k_put C hK hP hD hS 0 rfl 7 (by decide) (pos := 34) (by decide +kernel) rfl rfl rfl rfl (Nat.le_of_ble_eq_true rfl) kd1_72 (fun H locs hP hD hS => ?_)
  have hP : va_P D zcls [(h, .inr (1, [.ref q1, .ref q2, .ref q3, .int 0, .int 0, .int 0, .int 0, .int 1, .null])), (q1, .inl (c1, 40, .inl (fun _ => 0))), (q2, .inl (c2, 24, .inl (fun _ => 0))), (q3, .inl (c3, 5, .inl (upd (upd (upd (upd (upd (fun _ => 0) 0 0) 1 0) 2 10) 3 15) 4 20)))] H := hP
  have hD : va_D A [(h, .inr (1, [.ref q1, .ref q2, .ref q3, .int 0, .int 0, .int 0, .int 0, .int 1, .null])), (q1, .inl (c1, 40, .inl (fun _ => 0))), (q2, .inl (c2, 24, .inl (fun _ => 0))), (q3, .inl (c3, 5, .inl (upd (upd (upd (upd (upd (fun _ => 0) 0 0) 1 0) 2 10) 3 15) 4 20)))] := hD
  refine lv_aload_n hx hb kd1_75 rfl (lv_at hl 0 rfl) ?_
  refine lv_bipush (v := 8) hx hb kd1_76 (by decide) ?_
  refine k_newi C hK hP hD hS hA (N := 8) (by decide) (by decide) (Nat.le_of_ble_eq_true rfl) (Nat.le_of_ble_eq_true rfl) (Nat.le_of_ble_eq_true rfl) kd1_78 (fun q4 c4 H hK hP hD hS => ?_)
  refine W.widen (k := 4) (n := 77) (Nat.le_of_ble_eq_true rfl) (Nat.le_of_ble_eq_true rfl) ?_
  have hP : va_P D zcls [(h, .inr (1, [.ref q1, .ref q2, .ref q3, .int 0, .int 0, .int 0, .int 0, .int 1, .null])), (q1, .inl (c1, 40, .inl (fun _ => 0))), (q2, .inl (c2, 24, .inl (fun _ => 0))), (q3, .inl (c3, 5, .inl (upd (upd (upd (upd (upd (fun _ => 0) 0 0) 1 0) 2 10) 3 15) 4 20))), (q4, .inl (c4, 8, .inl (fun _ => 0)))] H := hP
  have hD : va_D A [(h, .inr (1, [.ref q1, .ref q2, .ref q3, .int 0, .int 0, .int 0, .int 0, .int 1, .null])), (q1, .inl (c1, 40, .inl (fun _ => 0))), (q2, .inl (c2, 24, .inl (fun _ => 0))), (q3, .inl (c3, 5, .inl (upd (upd (upd (upd (upd (fun _ => 0) 0 0) 1 0) 2 10) 3 15) 4 20))), (q4, .inl (c4, 8, .inl (fun _ => 0)))] := hD
  have hK : va_K D zcls [(c1, .int), (c2, .int), (c3, .int), (c4, .int)] s := hK
  refine k_put C hK hP hD hS 0 rfl 8 (by decide) (pos := 35) (by decide +kernel) rfl rfl rfl rfl (Nat.le_of_ble_eq_true rfl) kd1_80 (fun H locs hP hD hS => ?_)
  have hP : va_P D zcls [(h, .inr (1, [.ref q1, .ref q2, .ref q3, .int 0, .int 0, .int 0, .int 0, .int 1, .ref q4])), (q1, .inl (c1, 40, .inl (fun _ => 0))), (q2, .inl (c2, 24, .inl (fun _ => 0))), (q3, .inl (c3, 5, .inl (upd (upd (upd (upd (upd (fun _ => 0) 0 0) 1 0) 2 10) 3 15) 4 20))), (q4, .inl (c4, 8, .inl (fun _ => 0)))] H := hP
  have hD : va_D A [(h, .inr (1, [.ref q1, .ref q2, .ref q3, .int 0, .int 0, .int 0, .int 0, .int 1, .ref q4])), (q1, .inl (c1, 40, .inl (fun _ => 0))), (q2, .inl (c2, 24, .inl (fun _ => 0))), (q3, .inl (c3, 5, .inl (upd (upd (upd (upd (upd (fun _ => 0) 0 0) 1 0) 2 10) 3 15) 4 20))), (q4, .inl (c4, 8, .inl (fun _ => 0)))] := hD
  exact W.vret hx hb hr (fun t ht hW => ⟨⟨(fun k => ([q1, q2, q3, q4] : List Nat).getD k 0, fun k => ([c1, c2, c3, c4] : List ClassId).getD k c1), rfl, trivial, by rw [ht]; exact hP, va_K.moved hW.alike hK, hD⟩, hS.F ht⟩) hS.2.2 kd1_83
theorem kd0_0 : decode prog_2_method_1_code 0 = .ok (.aload_n 0, 1) := by decide +kernel
theorem kd0_1 : decode prog_2_method_1_code 1 = .ok (.invokespecial 3, 3) := by decide +kernel
theorem kd0_4 : decode prog_2_method_1_code 4 = .ok (.aload_n 0, 1) := by decide +kernel
theorem kd0_5 : decode prog_2_method_1_code 5 = .ok (.bipush 20, 2) := by decide +kernel
theorem kd0_7 : decode prog_2_method_1_code 7 = .ok (.newarray .int, 2) := by decide +kernel
theorem kd0_9 : decode prog_2_method_1_code 9 = .ok (.putfield 9, 3) := by decide +kernel
theorem kd0_12 : decode prog_2_method_1_code 12 = .ok (.aload_n 0, 1) := by decide +kernel
theorem kd0_13 : decode prog_2_method_1_code 13 = .ok (.iconst 0, 1) := by decide +kernel
theorem kd0_14 : decode prog_2_method_1_code 14 = .ok (.putfield 15, 3) := by decide +kernel
theorem kd0_17 : decode prog_2_method_1_code 17 = .ok (.aload_n 0, 1) := by decide +kernel
theorem kd0_18 : decode prog_2_method_1_code 18 = .ok (.iconst 0, 1) := by decide +kernel
theorem kd0_19 : decode prog_2_method_1_code 19 = .ok (.putfield 19, 3) := by decide +kernel
theorem kd0_22 : decode prog_2_method_1_code 22 = .ok (.aload_n 0, 1) := by decide +kernel
theorem kd0_23 : decode prog_2_method_1_code 23 = .ok (.iconst 0, 1) := by decide +kernel
theorem kd0_24 : decode prog_2_method_1_code 24 = .ok (.putfield 22, 3) := by decide +kernel
theorem kd0_27 : decode prog_2_method_1_code 27 = .ok (.aload_n 0, 1) := by decide +kernel
theorem kd0_28 : decode prog_2_method_1_code 28 = .ok (.iconst 0, 1) := by decide +kernel
theorem kd0_29 : decode prog_2_method_1_code 29 = .ok (.putfield 25, 3) := by decide +kernel
theorem kd0_32 : decode prog_2_method_1_code 32 = .ok (.return_, 1) := by decide +kernel
def kwA (h : Nat) (u : kS) : va_W := [(h, .inr (0, [.ref (u.1 0), .int 0, .int 0, .int 0, .int 0])), ((u.1 0), .inl ((u.2 0), 20, .inl (fun _ => 0)))]
def ktA (u : kS) : List (ClassId × FieldType) := [((u.2 0), .int)]
set_option maxHeartbeats 4000000 in
set_option maxRecDepth 100000 in
theorem k_Acts (l : Launch) (D : va_G) (h : Nat) (sz : Nat) : Met l ⟨zRn 0, "<init>", "()V"⟩ (jws (.code ⟨zRn 0, "<init>", "()V"⟩ prog_2_method_1_code 1 none)) (kRoom 2 1 20) (kP D h [(h, .inr (0, [.null, .int 0, .int 0, .int 0, .int 0]))] sz) (kQ (kwA h) ktA D (va_A [(h, .inr (0, [.null, .int 0, .int 0, .int 0, .int 0]))] sz)) 1 20 (va_A [(h, .inr (0, [.null, .int 0, .int 0, .int 0, .int 0]))] sz) := by
  refine Met.ofW (cc := prog_2_method_1_code) (maxL := 1) (ret := none) (by decide) rfl ?_
  intro p e s m args below meth c s₁ B hml hv
  obtain ⟨rfl, hsz, hP, hK, hD0, hN⟩ := hv
  have hx := B.exec
  have hb := B.bytes
  have hr := B.returns
  have hts0 := atoms_spec (ws := jws (.code ⟨zRn 0, "<init>", "()V"⟩ prog_2_method_1_code 1 none)) B.pre
  have hts : ∀ w ∈ zTbl, w.before #[.ref h] s = true := fun w hw => hts0 w (List.mem_cons_of_mem _ hw)
  have hown : s.vm.findClass (zRn 0) = some m.cls := findClass_of_methodNamed B.named
  have hlocks := B.notSynchronized
  have hin : meth.name = "<init>" := (name_of_methodNamed B.named B.method).1
  have C : kCx p s m #[.ref h] meth c 0 prog_2_method_1_code 1 := ⟨hx, hb, hml, hown, hts, hin, hN, by decide⟩
  subst hsz
  have hD := hD0.self (sz := s.heap.size)
  generalize hAe : va_A [(h, .inr (0, [.null, .int 0, .int 0, .int 0, .int 0]))] s.heap.size = A at hD ⊢
  have hA : ∀ q, s.heap.size ≤ q → A q := fun q h => by rw [← hAe]; exact Or.inr h
  have hS : va_S A s.heap s.heap [] := va_S.rf
  have hl := lv_entry ([.ref h]) (n := 1) (Nat.le_of_ble_eq_true rfl)
  rw [lg_entry_eq]
  generalize (lg_sl ([.ref h]) ++ List.replicate (1 - (lg_sl ([.ref h])).length) Slot.unset).toArray = ls at hl ⊢
  have hl : lv_has ls 1 [(0, .ref h)] := hl
  refine lv_aload_n hx hb kd0_0 rfl (lv_at hl 0 rfl) ?_
  refine k_obj C hl.1 (pos := 61) (by decide +kernel) (Nat.le_of_ble_eq_true rfl) (Nat.le_of_ble_eq_true rfl) (Nat.le_of_ble_eq_true rfl) (Nat.le_of_ble_eq_true rfl) kd0_1 ?_ rfl
  refine lv_aload_n hx hb kd0_4 rfl (lv_at hl 0 rfl) ?_
  refine lv_bipush (v := 20) hx hb kd0_5 (by decide) ?_
  refine k_newi C hK hP hD hS hA (N := 20) (by decide) (by decide) (Nat.le_of_ble_eq_true rfl) (Nat.le_of_ble_eq_true rfl) (Nat.le_of_ble_eq_true rfl) kd0_7 (fun q1 c1 H hK hP hD hS => ?_)
  refine W.widen (k := 1) (n := 20) (Nat.le_of_ble_eq_true rfl) (Nat.le_of_ble_eq_true rfl) ?_
  have hP : va_P D zcls [(h, .inr (0, [.null, .int 0, .int 0, .int 0, .int 0])), (q1, .inl (c1, 20, .inl (fun _ => 0)))] H := hP
  have hD : va_D A [(h, .inr (0, [.null, .int 0, .int 0, .int 0, .int 0])), (q1, .inl (c1, 20, .inl (fun _ => 0)))] := hD
  have hK : va_K D zcls [(c1, .int)] s := hK
  refine k_put C hK hP hD hS 0 rfl 0 (by decide) (pos := 62) (by decide +kernel) rfl rfl rfl rfl (Nat.le_of_ble_eq_true rfl) kd0_9 (fun H locs hP hD hS => ?_)
  have hP : va_P D zcls [(h, .inr (0, [.ref q1, .int 0, .int 0, .int 0, .int 0])), (q1, .inl (c1, 20, .inl (fun _ => 0)))] H := hP
  have hD : va_D A [(h, .inr (0, [.ref q1, .int 0, .int 0, .int 0, .int 0])), (q1, .inl (c1, 20, .inl (fun _ => 0)))] := hD
  refine lv_aload_n hx hb kd0_12 rfl (lv_at hl 0 rfl) ?_
  refine lv_iconst (v := 0) hx hb kd0_13 (by decide) ?_
  refine k_put C hK hP hD hS 0 rfl 1 (by decide) (pos := 63) (by decide +kernel) rfl rfl rfl rfl (Nat.le_of_ble_eq_true rfl) kd0_14 (fun H locs hP hD hS => ?_)
  have hP : va_P D zcls [(h, .inr (0, [.ref q1, .int 0, .int 0, .int 0, .int 0])), (q1, .inl (c1, 20, .inl (fun _ => 0)))] H := hP
  have hD : va_D A [(h, .inr (0, [.ref q1, .int 0, .int 0, .int 0, .int 0])), (q1, .inl (c1, 20, .inl (fun _ => 0)))] := hD
  refine lv_aload_n hx hb kd0_17 rfl (lv_at hl 0 rfl) ?_
  refine lv_iconst (v := 0) hx hb kd0_18 (by decide) ?_
  refine k_put C hK hP hD hS 0 rfl 2 (by decide) (pos := 64) (by decide +kernel) rfl rfl rfl rfl (Nat.le_of_ble_eq_true rfl) kd0_19 (fun H locs hP hD hS => ?_)
  have hP : va_P D zcls [(h, .inr (0, [.ref q1, .int 0, .int 0, .int 0, .int 0])), (q1, .inl (c1, 20, .inl (fun _ => 0)))] H := hP
  have hD : va_D A [(h, .inr (0, [.ref q1, .int 0, .int 0, .int 0, .int 0])), (q1, .inl (c1, 20, .inl (fun _ => 0)))] := hD
  refine lv_aload_n hx hb kd0_22 rfl (lv_at hl 0 rfl) ?_
  refine lv_iconst (v := 0) hx hb kd0_23 (by decide) ?_
  refine k_put C hK hP hD hS 0 rfl 3 (by decide) (pos := 65) (by decide +kernel) rfl rfl rfl rfl (Nat.le_of_ble_eq_true rfl) kd0_24 (fun H locs hP hD hS => ?_)
  have hP : va_P D zcls [(h, .inr (0, [.ref q1, .int 0, .int 0, .int 0, .int 0])), (q1, .inl (c1, 20, .inl (fun _ => 0)))] H := hP
  have hD : va_D A [(h, .inr (0, [.ref q1, .int 0, .int 0, .int 0, .int 0])), (q1, .inl (c1, 20, .inl (fun _ => 0)))] := hD
  refine lv_aload_n hx hb kd0_27 rfl (lv_at hl 0 rfl) ?_
  refine lv_iconst (v := 0) hx hb kd0_28 (by decide) ?_
  refine k_put C hK hP hD hS 0 rfl 4 (by decide) (pos := 66) (by decide +kernel) rfl rfl rfl rfl (Nat.le_of_ble_eq_true rfl) kd0_29 (fun H locs hP hD hS => ?_)
  have hP : va_P D zcls [(h, .inr (0, [.ref q1, .int 0, .int 0, .int 0, .int 0])), (q1, .inl (c1, 20, .inl (fun _ => 0)))] H := hP
  have hD : va_D A [(h, .inr (0, [.ref q1, .int 0, .int 0, .int 0, .int 0])), (q1, .inl (c1, 20, .inl (fun _ => 0)))] := hD
  exact W.vret hx hb hr (fun t ht hW => ⟨⟨(fun k => ([q1] : List Nat).getD k 0, fun k => ([c1] : List ClassId).getD k c1), rfl, trivial, by rw [ht]; exact hP, va_K.moved hW.alike hK, hD⟩, hS.F ht⟩) hS.2.2 kd0_32
theorem kd4_0 : decode prog_6_method_1_code 0 = .ok (.aload_n 0, 1) := by decide +kernel
theorem kd4_1 : decode prog_6_method_1_code 1 = .ok (.invokespecial 3, 3) := by decide +kernel
theorem kd4_4 : decode prog_6_method_1_code 4 = .ok (.aload_n 0, 1) := by decide +kernel
theorem kd4_5 : decode prog_6_method_1_code 5 = .ok (.sipush 160, 3) := by decide +kernel
theorem kd4_8 : decode prog_6_method_1_code 8 = .ok (.newarray .long, 2) := by decide +kernel
theorem kd4_10 : decode prog_6_method_1_code 10 = .ok (.putfield 9, 3) := by decide +kernel
theorem kd4_13 : decode prog_6_method_1_code 13 = .ok (.aload_n 0, 1) := by decide +kernel
theorem kd4_14 : decode prog_6_method_1_code 14 = .ok (.iconst (-1), 1) := by decide +kernel
theorem kd4_15 : decode prog_6_method_1_code 15 = .ok (.putfield 15, 3) := by decide +kernel
theorem kd4_18 : decode prog_6_method_1_code 18 = .ok (.aload_n 0, 1) := by decide +kernel
theorem kd4_19 : decode prog_6_method_1_code 19 = .ok (.iconst 0, 1) := by decide +kernel
theorem kd4_20 : decode prog_6_method_1_code 20 = .ok (.putfield 19, 3) := by decide +kernel
theorem kd4_23 : decode prog_6_method_1_code 23 = .ok (.return_, 1) := by decide +kernel
def kwS (h : Nat) (u : kS) : va_W := [(h, .inr (4, [.ref (u.1 0), .int (-1), .int 0])), ((u.1 0), .inl ((u.2 0), 160, .inr (.inl (fun _ => 0))))]
def ktS (u : kS) : List (ClassId × FieldType) := [((u.2 0), .long)]
set_option maxHeartbeats 4000000 in
set_option maxRecDepth 100000 in
theorem k_Shelf (l : Launch) (D : va_G) (h : Nat) (sz : Nat) : Met l ⟨zRn 4, "<init>", "()V"⟩ (jws (.code ⟨zRn 4, "<init>", "()V"⟩ prog_6_method_1_code 1 none)) (kRoom 2 1 160) (kP D h [(h, .inr (4, [.null, .int 0, .int 0]))] sz) (kQ (kwS h) ktS D (va_A [(h, .inr (4, [.null, .int 0, .int 0]))] sz)) 1 160 (va_A [(h, .inr (4, [.null, .int 0, .int 0]))] sz) := by
  refine Met.ofW (cc := prog_6_method_1_code) (maxL := 1) (ret := none) (by decide) rfl ?_
  intro p e s m args below meth c s₁ B hml hv
  obtain ⟨rfl, hsz, hP, hK, hD0, hN⟩ := hv
  have hx := B.exec
  have hb := B.bytes
  have hr := B.returns
  have hts0 := atoms_spec (ws := jws (.code ⟨zRn 4, "<init>", "()V"⟩ prog_6_method_1_code 1 none)) B.pre
  have hts : ∀ w ∈ zTbl, w.before #[.ref h] s = true := fun w hw => hts0 w (List.mem_cons_of_mem _ hw)
  have hown : s.vm.findClass (zRn 4) = some m.cls := findClass_of_methodNamed B.named
  have hlocks := B.notSynchronized
  have hin : meth.name = "<init>" := (name_of_methodNamed B.named B.method).1
  have C : kCx p s m #[.ref h] meth c 4 prog_6_method_1_code 1 := ⟨hx, hb, hml, hown, hts, hin, hN, by decide⟩
  subst hsz
  have hD := hD0.self (sz := s.heap.size)
  generalize hAe : va_A [(h, .inr (4, [.null, .int 0, .int 0]))] s.heap.size = A at hD ⊢
  have hA : ∀ q, s.heap.size ≤ q → A q := fun q h => by rw [← hAe]; exact Or.inr h
  have hS : va_S A s.heap s.heap [] := va_S.rf
  have hl := lv_entry ([.ref h]) (n := 1) (Nat.le_of_ble_eq_true rfl)
  rw [lg_entry_eq]
  generalize (lg_sl ([.ref h]) ++ List.replicate (1 - (lg_sl ([.ref h])).length) Slot.unset).toArray = ls at hl ⊢
  have hl : lv_has ls 1 [(0, .ref h)] := hl
  refine lv_aload_n hx hb kd4_0 rfl (lv_at hl 0 rfl) ?_
  refine k_obj C hl.1 (pos := 147) (by decide +kernel) (Nat.le_of_ble_eq_true rfl) (Nat.le_of_ble_eq_true rfl) (Nat.le_of_ble_eq_true rfl) (Nat.le_of_ble_eq_true rfl) kd4_1 ?_ rfl
  refine lv_aload_n hx hb kd4_4 rfl (lv_at hl 0 rfl) ?_
  refine lv_sipush (v := 160) hx hb kd4_5 (by decide) ?_
  refine k_newl C hK hP hD hS hA (N := 160) (by decide) (by decide) (Nat.le_of_ble_eq_true rfl) (Nat.le_of_ble_eq_true rfl) (Nat.le_of_ble_eq_true rfl) kd4_8 (fun q1 c1 H hK hP hD hS => ?_)
  refine W.widen (k := 1) (n := 160) (Nat.le_of_ble_eq_true rfl) (Nat.le_of_ble_eq_true rfl) ?_
  have hP : va_P D zcls [(h, .inr (4, [.null, .int 0, .int 0])), (q1, .inl (c1, 160, .inr (.inl (fun _ => 0))))] H := hP
  have hD : va_D A [(h, .inr (4, [.null, .int 0, .int 0])), (q1, .inl (c1, 160, .inr (.inl (fun _ => 0))))] := hD
  have hK : va_K D zcls [(c1, .long)] s := hK
  refine k_put C hK hP hD hS 0 rfl 0 (by decide) (pos := 148) (by decide +kernel) rfl rfl rfl rfl (Nat.le_of_ble_eq_true rfl) kd4_10 (fun H locs hP hD hS => ?_)
  have hP : va_P D zcls [(h, .inr (4, [.ref q1, .int 0, .int 0])), (q1, .inl (c1, 160, .inr (.inl (fun _ => 0))))] H := hP
  have hD : va_D A [(h, .inr (4, [.ref q1, .int 0, .int 0])), (q1, .inl (c1, 160, .inr (.inl (fun _ => 0))))] := hD
  refine lv_aload_n hx hb kd4_13 rfl (lv_at hl 0 rfl) ?_
  refine lv_iconst (v := (-1)) hx hb kd4_14 (by decide) ?_
  refine k_put C hK hP hD hS 0 rfl 1 (by decide) (pos := 149) (by decide +kernel) rfl rfl rfl rfl (Nat.le_of_ble_eq_true rfl) kd4_15 (fun H locs hP hD hS => ?_)
  have hP : va_P D zcls [(h, .inr (4, [.ref q1, .int (-1), .int 0])), (q1, .inl (c1, 160, .inr (.inl (fun _ => 0))))] H := hP
  have hD : va_D A [(h, .inr (4, [.ref q1, .int (-1), .int 0])), (q1, .inl (c1, 160, .inr (.inl (fun _ => 0))))] := hD
  refine lv_aload_n hx hb kd4_18 rfl (lv_at hl 0 rfl) ?_
  refine lv_iconst (v := 0) hx hb kd4_19 (by decide) ?_
  refine k_put C hK hP hD hS 0 rfl 2 (by decide) (pos := 150) (by decide +kernel) rfl rfl rfl rfl (Nat.le_of_ble_eq_true rfl) kd4_20 (fun H locs hP hD hS => ?_)
  have hP : va_P D zcls [(h, .inr (4, [.ref q1, .int (-1), .int 0])), (q1, .inl (c1, 160, .inr (.inl (fun _ => 0))))] H := hP
  have hD : va_D A [(h, .inr (4, [.ref q1, .int (-1), .int 0])), (q1, .inl (c1, 160, .inr (.inl (fun _ => 0))))] := hD
  exact W.vret hx hb hr (fun t ht hW => ⟨⟨(fun k => ([q1] : List Nat).getD k 0, fun k => ([c1] : List ClassId).getD k c1), rfl, trivial, by rw [ht]; exact hP, va_K.moved hW.alike hK, hD⟩, hS.F ht⟩) hS.2.2 kd4_23
end KD
