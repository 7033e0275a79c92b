def nW (U : State) : Prop := (∀ o i y h, Cond.methodLinkNest o i y h ∈ lw_tbl → va_Nw (.methodLinkNest o i y h) U) ∧ va_AO "TablesAndTips$Shelf" U
def kP (D : va_G) (h : Nat) (ws : va_W) (sz : Nat) : Array Value → State → Prop := fun v U => v = #[.ref h] ∧ U.heap.size = sz ∧ va_P D zcls ws U.heap ∧ va_K D zcls [] U ∧ va_D (fun _ => True) ws ∧ nW U
def kQ {S : Type} (Wd : S → va_W) (Ty : S → List (ClassId × FieldType)) (D : va_G) (A : Nat → Prop) : Array Value → State → Outcome → State → Prop := va_Qv (fun _ : S => True) (fun u t => va_P D zcls (Wd u) t.heap ∧ va_K D zcls (Ty u) t ∧ va_D A (Wd u)) A
abbrev kS : Type := (Nat → Nat) × (Nat → ClassId)
def kCx (p : Program) (s : State) (m : MethodId) (args : Array Value) (meth : Method) (c : Code) (ci : Nat) (cc : ByteArray) (nL : Nat) : Prop :=
  p.tables.exec = Jvm.exec ∧ c.code = cc ∧ c.maxLocals = nL ∧ s.vm.findClass (zRn ci) = some m.cls ∧ (∀ w ∈ zTbl, w.before args s = true) ∧ meth.name = "<init>" ∧ nW s ∧ ci < 7
def kRoom (f mc ms : Nat) : Room := { frames := f, cells := mc, slots := ms, locals := 40 * f }
section KC
variable {p : Program} {l : Launch} {e : Env} {R : Room} {s : State} {m : MethodId} {args : Array Value} {below : List Frame} {meth : Method} {c : Code} {H : Heap} {locs : List Loc} {cells slots : Nat} {Q : State → Prop}
variable {D : va_G} {A : Nat → Prop} {pc : Nat} {ls : Array Slot} {rest : List Value} {ci nL : Nat} {cc : ByteArray} {ws : va_W} {tys : List (ClassId × FieldType)} {a : Nat}
theorem nW.same {u U : State} (h : u.vm = U.vm) (N : nW u) : nW U :=
  ⟨fun o i y g hm => va_Nw.same rfl h (N.1 o i y g hm), N.2.moved (by rw [h]; exact Vm.Alike.refl U.vm)⟩
theorem nW.warm {u U : State} (hW : u.WarmedH U.vm) (N : nW u) : nW U :=
  ⟨fun o i y g hm => va_Nw.warmM hW (N.1 o i y g hm), N.2.moved hW.alike⟩
theorem kP_blind {h : Nat} {sz : Nat} : FrameBlind (kP D h ws sz) := by
  rintro b U g mk ⟨q0, q1, q2, q3, q4, q5⟩
  exact ⟨q0, q1, q2, va_K.moved (u := U) (U := U.calling g mk b) (Vm.Alike.refl U.vm) q3, q4, nW.same (u := U) rfl q5⟩
theorem kP_at {h : Nat} (hP : va_P D zcls ws H) (hK : va_K D zcls [] s) (hD : va_D A ws) (N : nW s) : ∀ U : State, U.heap = H → s.WarmedH U.vm → kP D h ws H.size #[.ref h] U := by
  intro U hU hW
  subst hU
  exact ⟨rfl, rfl, hP, va_K.moved hW.alike hK, hD.weaken (fun _ _ _ _ => trivial), nW.warm hW N⟩
theorem k_put (C : kCx p s m args meth c ci cc nL) (hK : va_K D zcls tys s) (hP : va_P D zcls ws H) (hD : va_D A ws) (hS : va_S A s.heap H locs) (q0 : Nat) {fs : List Value} (he : ws[q0]? = some (a, .inr (ci, fs))) (k : Nat) (hk : k < zNn ci) {i pos : Nat} (hpos : tables_1[pos]? = some (Cond.fieldLink (zRn ci) i (zRn ci) (zT ci k).2.1 (zT ci k).2.2.1)) (ho : (zT ci k).1 = zRn ci) {ty : FieldType} {v : Value} (hty : zTy ci k = ty) (hn : narrow ty v = v) (hfit : fits ty v = true) (hl : k < fs.length) (hdg : decode cc pc = .ok (.putfield i, 3))
    (kk : ∀ (H1 : Heap) (locs1 : List Loc), va_P D zcls (ws.set q0 (a, .inr (ci, fs.set k v))) H1 → va_D A (ws.set q0 (a, .inr (ci, fs.set k v))) → va_S A s.heap H1 locs1 → W p l e R s m args below meth c H1 locs1 cells slots Q (F0 m (pc + 3) ls rest)) : W p l e R s m args below meth c H locs cells slots Q (F0 m pc ls (v :: .ref a :: rest)) := by
  obtain ⟨hx, hb, hml, hown, hts, hin, hN, h7⟩ := C
  have hd : parseFieldDescriptor (zT ci k).2.2.1 = some ty := by rw [← hty]; exact zTy_ok ci h7 k hk
  have hlk := hts _ (zmg hpos rfl)
  cases hf : (zT ci k).2.2.2 with
  | true => exact va_putF hx hb hts (zin_ok ci h7) (zTy ci) (zTy_ok ci h7) (znm_ok ci h7) hown hK hP hD hS q0 he (zcls_at ci h7) k hk hlk (fun x hx => by rw [ho] at hx; exact hx) hf hin ho hd hn hfit hl hdg kk
  | false => exact va_put hx hb hts (zin_ok ci h7) (zTy ci) (zTy_ok ci h7) (znm_ok ci h7) hown hK hP hD hS q0 he (zcls_at ci h7) k hk hlk (fun x hx => by rw [ho] at hx; exact hx) hf hd hn hfit hl hdg kk
theorem k_get (C : kCx p s m args meth c ci cc nL) (hK : va_K D zcls tys s) (hP : va_P D zcls ws H) (q0 : Nat) {fs : List Value} (he : ws[q0]? = some (a, .inr (ci, fs))) (k : Nat) (hk : k < zNn ci) {i pos : Nat} (hpos : tables_1[pos]? = some (Cond.fieldLink (zRn ci) i (zRn ci) (zT ci k).2.1 (zT ci k).2.2.1)) (ho : (zT ci k).1 = zRn ci) {v : Value} (hv : fs[k]? = some v) (hdg : decode cc pc = .ok (.getfield i, 3))
    (kk : W p l e R s m args below meth c H locs cells slots Q (F0 m (pc + 3) ls (v :: rest))) : W p l e R s m args below meth c H locs cells slots Q (F0 m pc ls (.ref a :: rest)) := by
  obtain ⟨hx, hb, hml, hown, hts, hin, hN, h7⟩ := C
  exact va_get hx hb hts (zin_ok ci h7) hown hK hP q0 he (zcls_at ci h7) k hk (hts _ (zmg hpos rfl)) (fun x hx => by rw [ho] at hx; exact hx) hv hdg kk
theorem k_obj (C : kCx p s m args meth c ci cc nL) (hsz : ls.size = nL) {i pos : Nat} (hpos : tables_1[pos]? = some (Cond.methodLink (zRn ci) i objectInit)) (hc : cells ≤ R.cells) (hs : slots ≤ R.slots) (hf : 2 ≤ R.frames) (hlo : 40 ≤ R.locals) (hdg : decode cc pc = .ok (.invokespecial i, 3))
    (kk : W p l e R s m args below meth c H locs cells slots Q (F0 m (pc + 3) ls rest)) (hrest : rest = []) : W p l e R s m args below meth c H locs cells slots Q (F0 m pc ls (.ref a :: rest)) := by
  obtain ⟨hx, hb, hml, hown, hts, hin, hN, h7⟩ := C
  subst hrest
  have hr : 2 * (F0 m pc ls [Value.ref a]).monitorRoom + (([] : List Value).map fun v => v.category).sum ≤ 8 := lv_room (Nat.zero_le _)
  refine W.objInit hx hb hown (hts _ (zmg hpos rfl)) (hts _ (zmg (i := 19) (by decide +kernel) rfl)) (hts _ (zmg (i := 20) (by decide +kernel) rfl)) rfl (by rw [hml]; exact hsz) rfl hdg (by omega) (by omega) ?_
  exact W.eq (g2 := F0 m (pc + 3) ls []) rfl kk
theorem k_new (C : kCx p s m args meth c ci cc nL) (hK : va_K D zcls tys s) (hP : va_P D zcls ws H) (hD : va_D A ws) (hS : va_S A s.heap H locs) (hA : ∀ q, s.heap.size ≤ q → A q) {cN : Nat} (h7N : cN < 7) {i pos1 pos2 : Nat} (hpos1 : tables_1[pos1]? = some (Cond.classLink (zRn ci) i (zRn cN))) (hpos2 : tables_1[pos2]? = some (Cond.instantiable (zRn cN) (zNn cN))) {fs : List Value} (hfs : ∀ j, j < zNn cN → defaultValue (zTy cN j) = vp_V fs j) (hcells : cells + 1 ≤ R.cells) (hslots : slots + zNn cN ≤ R.slots) (hdg : decode cc pc = .ok (.new i, 3))
    (kk : ∀ (q : Nat) (H1 : Heap), va_P D zcls (ws ++ [(q, .inr (cN, fs))]) H1 → va_D A (ws ++ [(q, .inr (cN, fs))]) → va_S A s.heap H1 locs → W p l e R s m args below meth c H1 locs (cells + 1) (slots + zNn cN) Q (F0 m (pc + 3) ls (.ref q :: rest))) : W p l e R s m args below meth c H locs cells slots Q (F0 m pc ls rest) := by
  obtain ⟨hx, hb, hml, hown, hts, hin, hN, h7⟩ := C
  exact va_new hx hb hts (zin_ok cN h7N) (zTy cN) (zTy_ok cN h7N) hown (hts _ (zmg hpos1 rfl)) (hts _ (zmg hpos2 rfl)) (hts _ (zTbl_mem (zw_in cN h7N) rfl)) hK hP hD hS hA (zcls_at cN h7N) hfs hcells hslots hdg kk
theorem k_newi (C : kCx p s m args meth c ci cc nL) (hK : va_K D zcls tys s) (hP : va_P D zcls ws H) (hD : va_D A ws) (hS : va_S A s.heap H locs) (hA : ∀ q, s.heap.size ≤ q → A q) {n : Int32} {N : Nat} (hn : ¬ n < 0) (hN : n.toNatClampNeg = N) (hbt : N * 4 ≤ 536870912) (hcells : cells + 1 ≤ R.cells) (hslots : slots + N ≤ R.slots) (hdg : decode cc pc = .ok (.newarray .int, 2))
    (kk : ∀ (q : Nat) (cA : ClassId) (H1 : Heap), va_K D zcls (tys ++ [(cA, .int)]) s → va_P D zcls (ws ++ [(q, .inl (cA, N, .inl (fun _ => 0)))]) H1 → va_D A (ws ++ [(q, .inl (cA, N, .inl (fun _ => 0)))]) → va_S A s.heap H1 locs → W p l e R s m args below meth c H1 locs (cells + 1) (slots + N) Q (F0 m (pc + 2) ls (.ref q :: rest))) : W p l e R s m args below meth c H locs cells slots Q (F0 m pc ls (.int n :: rest)) := by
  obtain ⟨hx, hb, hml, hown, hts, hin, hNW, h7⟩ := C
  exact va_newa (atype := .int) (ty := .int) (a0 := (N, .inl (fun _ => 0))) hx hb (hts _ (zmg (i := 55) (by decide +kernel) rfl)) rfl hK hP hD hS hA (fun cA => rfl) hn hN hbt hcells hslots hdg kk
theorem k_newl (C : kCx p s m args meth c ci cc nL) (hK : va_K D zcls tys s) (hP : va_P D zcls ws H) (hD : va_D A ws) (hS : va_S A s.heap H locs) (hA : ∀ q, s.heap.size ≤ q → A q) {n : Int32} {N : Nat} (hn : ¬ n < 0) (hN : n.toNatClampNeg = N) (hbt : N * 8 ≤ 536870912) (hcells : cells + 1 ≤ R.cells) (hslots : slots + N ≤ R.slots) (hdg : decode cc pc = .ok (.newarray .long, 2))
    (kk : ∀ (q : Nat) (cA : ClassId) (H1 : Heap), va_K D zcls (tys ++ [(cA, .long)]) s → va_P D zcls (ws ++ [(q, .inl (cA, N, .inr (.inl (fun _ => 0))))]) H1 → va_D A (ws ++ [(q, .inl (cA, N, .inr (.inl (fun _ => 0))))]) → va_S A s.heap H1 locs → W p l e R s m args below meth c H1 locs (cells + 1) (slots + N) Q (F0 m (pc + 2) ls (.ref q :: rest))) : W p l e R s m args below meth c H locs cells slots Q (F0 m pc ls (.int n :: rest)) := by
  obtain ⟨hx, hb, hml, hown, hts, hin, hNW, h7⟩ := C
  exact va_newa (atype := .long) (ty := .long) (a0 := (N, .inr (.inl (fun _ => 0)))) hx hb (hts _ (zmg (i := 158) (by decide +kernel) rfl)) rfl hK hP hD hS hA (fun cA => rfl) hn hN hbt hcells hslots hdg kk
theorem k_nd : ∀ l : List Nat, l.Nodup → va_nd l = true := by
  intro l
  induction l with
  | nil => intro _; rfl
  | cons a l ih =>
    intro h
    rw [List.nodup_cons] at h
    show (decide (a ∉ l) && va_nd l) = true
    rw [ih h.2, Bool.and_true]
    exact decide_eq_true h.1
theorem k_rng (X Y : va_W) : (List.range X.length).map (fun i => (X ++ Y)[i]?) = X.map some := by
  apply List.ext_getElem?
  intro i
  rw [List.getElem?_map, List.getElem?_map]
  by_cases h : i < X.length
  · rw [List.getElem?_range h, List.getElem?_eq_getElem h]
    show some ((X ++ Y)[i]?) = some (some X[i])
    rw [List.getElem?_append_left h, List.getElem?_eq_getElem h]
  · rw [List.getElem?_eq_none (by rw [List.length_range]; omega), List.getElem?_eq_none (by omega)]
    rfl
theorem k_last (X : va_W) (x : Nat × va_E) : [X.length].map (fun i => (X ++ [x])[i]?) = [x].map some := by
  show [(X ++ [x])[X.length]?] = [some x]
  rw [List.getElem?_append_right (Nat.le_refl _), Nat.sub_self]
  rfl
theorem k_last2 (X : va_W) (x : Nat × va_E) : List.filterMap (fun i => (X ++ [x])[i]?) [X.length] = [x] := by
  have h : (X ++ [x])[X.length]? = some x := by
    rw [List.getElem?_append_right (Nat.le_refl _), Nat.sub_self]
    rfl
  rw [List.filterMap_cons_some h]
  rfl
theorem k_callN {S : Type} {Wd : S → va_W} {Ty : S → List (ClassId × FieldType)} {cN maxl mc ms i : Nat} {bytes : ByteArray} {rm : Room} {q : Nat} {e0 : va_E} {X : va_W} (C : kCx p s m args meth c ci cc nL) (hsz : ls.size = nL) (h7N : cN < 7)
    (hM : ∀ sz, Met l ⟨zRn cN, "<init>", "()V"⟩ (jws (.code ⟨zRn cN, "<init>", "()V"⟩ bytes maxl none)) rm (kP D q [(q, e0)] sz) (kQ Wd Ty D (va_A [(q, e0)] sz)) mc ms (va_A [(q, e0)] sz))
    (hcw : Cond.code ⟨zRn cN, "<init>", "()V"⟩ bytes maxl none ∈ zTbl) (hrc : rm.cells = mc) (hrs : rm.slots = ms) (hlink : Cond.methodLinkNest (zRn ci) i ⟨zRn cN, "<init>", "()V"⟩ "TablesAndTips" ∈ lw_tbl) (hinst : Cond.instanceMethod ⟨zRn cN, "<init>", "()V"⟩ ∈ zTbl) (hd : zRn cN ≠ "java/lang/invoke/MethodHandle" ∧ zRn cN ≠ "java/lang/invoke/VarHandle") (hR : rm.frames + 1 ≤ R.frames ∧ 8 + (maxl + 11) + rm.locals ≤ R.locals) (hfit : cells + mc ≤ R.cells ∧ slots + ms ≤ R.slots)
    (hK : va_K D zcls tys s) (hP : va_P D zcls (X ++ [(q, e0)]) H) (hD : va_D A (X ++ [(q, e0)])) (hS : va_S A s.heap H locs) (hA : ∀ q, s.heap.size ≤ q → A q) (hrest : (rest.map fun v => v.category).sum ≤ 8) (hdg : decode cc pc = .ok (.invokespecial i, 3))
    (kk : ∀ (u : S) (H1 : Heap) (locs1 : List Loc), va_P D zcls (X ++ Wd u) H1 → va_K D zcls (tys ++ Ty u) s → va_D A (X ++ Wd u) → va_S A s.heap H1 locs1 → W p l e R s m args below meth c H1 locs1 (cells + mc) (slots + ms) Q (F0 m (pc + 3) ls rest)) : W p l e R s m args below meth c H locs cells slots Q (F0 m pc ls (.ref q :: rest)) := by
  obtain ⟨hx, hb, hml, hown, hts, hin, hN, h7⟩ := C
  have hPc := hP.sub (ws' := [(q, e0)]) [X.length] (k_last2 X _)
  have hDc := hD.sub (ws' := [(q, e0)]) [X.length] (k_nd _ (by simp)) (k_last X _)
  have hKc := hK.sub (tys' := []) [] rfl
  have hFc := va_free (wc := [(q, e0)]) hD hS hA [X.length] (k_last X _)
  refine va_callv (va_runIN (As := []) (rest := rest) ⟨hx, hb, hml, hown, hts⟩ (hM H.size) ⟨va_cnB 0 hts (jG hcw) rfl hrc hrs (hN.1 _ _ _ _ hlink) (hts _ (zTbl_mem (zw_in cN h7N) rfl)) ⟨hd.1, hd.2, by show (parseMethodDescriptor "()V").map (fun d => d.parameters.length) = some 0; decide +kernel⟩ hR, rfl, hts _ hinst⟩ ⟨kP_blind, kP_at hPc hKc hDc hN⟩ rfl rfl hsz rfl (lv_room hrest) hdg hfit) hS (fun q _ h => hFc q h) hFc (fun u t H1 locs ht hvm hw hB hz1 hk1 hS => ?_)
  obtain ⟨hP1, hK1, hD1⟩ := hB
  rw [ht] at hP1
  have hK1 := va_K.moved hvm.symm hK1
  obtain ⟨hP2, hD2⟩ := va_join (wr := X) (w1 := Wd u) hP hD [X.length] (List.range X.length) (k_last X _) (k_rng X _) (k_nd _ List.nodup_range) (fun i hi h => by
    rw [List.mem_range] at hi
    rw [List.mem_singleton] at h
    omega) hk1 hFc hP1 hD1
  exact kk u H1 locs hP2 (hK.app hK1) hD2 hS
end KC
