theorem kWf_eq : ∀ n i, kWf n i = if i < n then zWd i else 0 := by
  intro n
  induction n with
  | zero => intro i; rw [if_neg (Nat.not_lt_zero i)]; rfl
  | succ n ih =>
    intro i
    show upd (kWf n) n (zWd n) i = _
    unfold upd
    by_cases h : i = n
    · rw [if_pos h, if_pos (by omega), h]
    · rw [if_neg h, ih]
      by_cases g : i < n
      · rw [if_pos g, if_pos (by omega)]
      · rw [if_neg g, if_neg (by omega)]
theorem zst5 : ∀ k, 5 ≤ k → (upd (upd (upd (upd (upd (fun _ => 0) 0 0) 1 0) 2 10) 3 15) 4 20) k = 0 := by
  intro k h
  simp only [upd]
  rw [if_neg (by omega), if_neg (by omega), if_neg (by omega), if_neg (by omega), if_neg (by omega)]
theorem zst7 : ∀ k, (k < 3 ∨ 8 ≤ k) → ([0, 0, 0, 0, 0, 0, 0, 1] : List Int32).getD k 0 = 0 := by
  intro k h
  rcases h with h | h
  · match k, h with
    | 0, _ => rfl
    | 1, _ => rfl
    | 2, _ => rfl
  · rw [List.getD_eq_getElem?_getD, List.getElem?_eq_none (by exact h)]
    rfl
theorem zst1 : ∀ j, j < 8 → zI (34 + 2 * j) 1 = -1 := by decide
section KT
variable {x y b L : Nat} {u : kTt} {v : kS} {tS sS adV : Nat → Nat} {xs : Nat → Int32} {D : va_G} {A : Nat → Prop} {H : Heap} {s : State} {args : Array Value}
theorem zW0_o {a : Nat} (h : a < 998) : (zW0 L xs).1 a = zI a := by
  unfold zW0
  dsimp only
  rw [if_neg (by omega), if_neg (by omega)]
theorem zW0_R : zRl (zW0 L xs) xs (nI L) 0 0 := by
  have e : ∀ a, a < 998 → (zW0 L xs).1 a = zI a := fun a h => zW0_o h
  refine ⟨⟨⟨Or.inl rfl, ?_, by decide, ?_, by decide⟩, ⟨⟨fun t ht => ?_, fun x hx => ?_, ?_⟩, ⟨?_, ?_, by decide, by decide⟩, ?_⟩, fun x hx => absurd hx (Nat.not_lt_zero x), ?_, ?_, ?_⟩, ⟨?_, Or.inl ?_⟩, fun j hj => Or.inl ⟨?_, ?_⟩, fun k hk => ?_, ?_, ⟨?_, 0, by decide, ?_, fun i h => absurd h (Nat.not_lt_zero i)⟩, ⟨?_, rfl, rfl⟩, ⟨?_, ?_, ?_, ?_⟩⟩
  · rw [e _ (by decide)]; rfl
  · rw [e _ (by decide)]; rfl
  · rw [e 52 (by decide), e 53 (by decide), e 54 (by decide), e 55 (by decide), e 56 (by decide), e 2 (by decide)]
    exact ⟨rfl, rfl, rfl, rfl, rfl⟩
  · rw [e 57 (by decide), e 58 (by decide), e 59 (by decide), e 60 (by decide), e 61 (by decide), e 62 (by decide), e 3 (by decide)]
    exact ⟨rfl, rfl, rfl, rfl, rfl, rfl⟩
  · rw [e 50 (by decide), e 63 (by decide), e 4 (by decide)]
    exact ⟨by decide, by decide, by decide, by decide, by decide⟩
  · rw [e 50 (by decide)]; rfl
  · rw [e 50 (by decide)]; rfl
  · rw [e 2 (by decide), e 3 (by decide), e 4 (by decide)]
    refine ⟨fun t ht => absurd ht (Nat.not_lt_zero t), fun t ht => absurd ht (Nat.not_lt_zero t), ?_, ?_, ?_, ?_, ?_, by decide, by decide⟩ <;> (unfold zBt; decide)
  · rw [e 50 (by decide), e 1 (by decide)]; rfl
  · rw [e 50 (by decide), e 1 (by decide)]; rfl
  · rw [e 50 (by decide), e 1 (by decide)]; rfl
  · rw [e 50 (by decide), e 0 (by decide)]; rfl
  · rw [e 0 (by decide)]; rfl
  · rw [e 64 (by decide)]; rfl
  · rw [e _ (by omega)]; exact zst1 j hj
  · rw [e 33 (by decide), e 51 (by decide)]; rfl
  · rw [e 25 (by decide), e 50 (by decide)]; rfl
  · rw [e 11 (by decide), e 50 (by decide)]; rfl
  · rw [e 11 (by decide)]; rfl
  · intro i hi
    rw [e 70 (by decide)]
    show kWf 40 i = zWd i
    rw [kWf_eq, if_pos hi]
  · unfold zHz
    rw [e 1 (by decide), e (1 + 1) (by decide), e (1 + 2) (by decide), e (1 + 3) (by decide)]
    exact ⟨fun _ _ => rfl, fun _ _ => rfl, zst5, zst7⟩
  · unfold zHz
    rw [e 6 (by decide), e (6 + 1) (by decide), e (6 + 2) (by decide), e (6 + 3) (by decide)]
    exact ⟨fun _ _ => rfl, fun _ _ => rfl, zst5, zst7⟩
  · unfold zHz
    rw [e 14 (by decide), e (14 + 1) (by decide), e (14 + 2) (by decide), e (14 + 3) (by decide)]
    exact ⟨fun _ _ => rfl, fun _ _ => rfl, zst5, zst7⟩
  · unfold zHz
    rw [e 26 (by decide), e (26 + 1) (by decide), e (26 + 2) (by decide), e (26 + 3) (by decide)]
    exact ⟨fun _ _ => rfl, fun _ _ => rfl, zst5, zst7⟩
theorem zq_ext {c : ClassId} {n : Nat} {f g : Nat → Option Nat} (h : ∀ j, j < n → f j = g j) : vp_cell c (n, .inr (.inr (.inr (.inr f)))) = vp_cell c (n, .inr (.inr (.inr (.inr g)))) := by
  rw [vp_cell_q, vp_cell_q]
  unfold arrV
  congr 1
  congr 1
  funext j
  show va_rf (f j.1) = va_rf (g j.1)
  rw [h j.1 j.2]
theorem zws_P (hP : va_P D zcls (zFw x u y v) H) : va_P D zcls (zws (zα x u y v b tS sS) (zaC u v) (zW0 L xs)) H := by
  intro k q hk
  have hk8 : k < 80 := by
    have h := (List.getElem?_eq_some_iff.mp hk).1
    rw [zws_len] at h
    exact h
  rw [zws_get hk8] at hk
  cases hk
  by_cases h32 : k = 32
  · subst h32
    have h : H[zα x u y v b tS sS 32]? = some (vp_cell (zaC u v 32) (8, .inr (.inr (.inr (.inr (va_up (va_up (va_up (va_up (va_up (va_up (va_up (va_up (fun _ => none) 0 (some (u.2.1 3))) 1 (some (u.2.1 4))) 2 (some (u.2.1 5))) 3 (some (u.2.1 6))) 4 (some (u.2.1 7))) 5 (some (u.2.1 8))) 6 (some (u.2.1 9))) 7 (some (u.2.1 10)))))))) := hP 32 _ (zPa_32 (b := b) (tS := tS) (sS := sS))
    rw [zcell_q (by decide : zTag 32 = 12)]
    show H[zα x u y v b tS sS 32]? = some (vp_cell (zaC u v 32) (8, .inr (.inr (.inr (.inr (fun j => some (zα x u y v b tS sS (zref 32 j))))))))
    rw [h, zq_ext (fun j hj => ?_)]
    match j, hj with
    | 0, _ => rfl
    | 1, _ => rfl
    | 2, _ => rfl
    | 3, _ => rfl
    | 4, _ => rfl
    | 5, _ => rfl
    | 6, _ => rfl
    | 7, _ => rfl
  · exact hP k _ (zPa_all k hk8 h32)
theorem zws_D (hD : va_D A (zFw x u y v)) (w : zM) : va_D A (zws (zα x u y v b tS sS) (zaC u v) w) := by
  have g : ∀ k, k < 80 → ∃ e, (zFw x u y v)[k]? = some (zα x u y v b tS sS k, e) := by
    intro k hk
    by_cases h32 : k = 32
    · subst h32
      exact ⟨_, zPa_32⟩
    · exact ⟨_, zPa_all (L := 0) (xs := fun _ => 0) k hk h32⟩
  have z : ∀ k q, (zws (zα x u y v b tS sS) (zaC u v) w)[k]? = some q → k < 80 ∧ q.1 = zα x u y v b tS sS k := by
    intro k q hk
    have hk8 : k < 80 := by
      have h := (List.getElem?_eq_some_iff.mp hk).1
      rw [zws_len] at h
      exact h
    rw [zws_get hk8] at hk
    cases hk
    exact ⟨hk8, rfl⟩
  refine ⟨fun i j p q hp hq he => ?_, fun k q hk => ?_⟩
  · obtain ⟨h1, e1⟩ := z i p hp
    obtain ⟨h2, e2⟩ := z j q hq
    obtain ⟨c1, g1⟩ := g i h1
    obtain ⟨c2, g2⟩ := g j h2
    exact hD.1 i j _ _ g1 g2 (by show zα x u y v b tS sS i = zα x u y v b tS sS j; rw [← e1, ← e2, he])
  · obtain ⟨h1, e1⟩ := z k q hk
    obtain ⟨c1, g1⟩ := g k h1
    rw [e1]
    exact hD.2 k _ g1
theorem zinst : ∀ c, c < 7 → Cond.instantiable (zRn c) (zNn c) ∈ lw_tbl := by decide +kernel
theorem zts_of (hts : ∀ w ∈ lw_tbl, w.before args s = true) : ∀ w ∈ zTbl, w.before args s = true := fun w h => hts w (List.mem_filter.mp h).1
theorem zD_ex (hts : ∀ w ∈ lw_tbl, w.before args s = true) : ∃ D : va_G, va_K D zcls [] s := by
  have h : ∀ c, ∃ q : ClassId × (Nat → Nat), c < 7 → u_Kn s (zRn c) (zT c) (zNn c) q.1 q.2 := by
    intro c
    by_cases h7 : c < 7
    · obtain ⟨cC, iS, hk⟩ := u_known (zts_of hts) (zin_ok c h7) (hts _ (zinst c h7))
      exact ⟨(cC, iS), fun _ => hk⟩
    · obtain ⟨cC, iS, -⟩ := u_known (zts_of hts) (zin_ok 0 (by decide)) (hts _ (zinst 0 (by decide)))
      exact ⟨(cC, iS), fun h => absurd h h7⟩
  obtain ⟨f, hf⟩ := Classical.axiomOfChoice h
  refine ⟨(fun c => (f c).1, fun c => (f c).2), fun c q hq => ?_, fun k q hk => ?_⟩
  · have hc : c < 7 := (List.getElem?_eq_some_iff.mp hq).1
    rw [zcls_at c hc] at hq
    cases hq
    exact hf c hc
  · rw [List.getElem?_nil] at hk
    cases hk
theorem nW_of (hts : ∀ w ∈ lw_tbl, w.before args s = true) : nW s :=
  ⟨fun o i y h hm => va_Nw.of rfl (hts _ hm), va_AO.of (A := args) (hts _ (zme (List.mem_of_getElem? (i := 142) (by decide +kernel))))⟩
def zsT (t : Nat) : Term := Term.static (zsC (1000 + t)) (zsN (1000 + t)) "[I"
def zsS (i : Nat) : Term := Term.string "TablesAndTips$Reader" (88 + 2 * i)
def zsV (i : Nat) : Term := Term.field (zsS i) "java/lang/String" "value" "[B"
def zFl : List Cond := flatC (Jvm.Cond.and given_1 narrow_1)
theorem zF_arr : ∀ t, t < 7 → Cond.arrayOf (zsT t) .int ∈ zFl := by decide +kernel
theorem zF_len : ∀ t, t < 7 → Cond.eq (.length (zsT t)) (.int (Int32.ofNat (zLen (1000 + t)))) ∈ zFl := by decide +kernel
theorem zF_el : ∀ t, t < 7 → ∀ j, j < zLen (1000 + t) → Cond.eq (.elem (zsT t) (.int (Int32.ofNat j))) (.int (ztab (1000 + t) j)) ∈ zFl := by decide +kernel
theorem zF_lay : ∀ t, t < 7 → Cond.laysStatic (zsC (1000 + t)) (zsN (1000 + t)) "[I" ∈ lw_tbl := by decide +kernel
theorem zF_ini : ∀ t, t < 7 → Cond.initialized (zsC (1000 + t)) ∈ lw_tbl := by decide +kernel
theorem zF_nn : ∀ t, t < 7 → zLen (1000 + t) < 2 ^ 31 := by decide +kernel
theorem zG_ex : ∀ i, i < 5 → Cond.exactly (zsS i) "java/lang/String" ∈ zFl := by decide +kernel
theorem zG_co : ∀ i, i < 5 → Cond.eq (.field (zsS i) "java/lang/String" "coder" "B") (.int 0) ∈ zFl := by decide +kernel
theorem zG_ar : ∀ i, i < 5 → Cond.arrayOf (zsV i) .byte ∈ zFl := by decide +kernel
theorem zG_le : ∀ i, i < 5 → Cond.eq (.length (zsV i)) (.int (Int32.ofNat (([6, 5, 7, 5, 7] : List Nat).getD i 0))) ∈ zFl := by decide +kernel
theorem zG_el : ∀ i, i < 5 → ∀ j, j < ([6, 5, 7, 5, 7] : List Nat).getD i 0 → Cond.eq (.elem (zsV i) (.int (Int32.ofNat j))) (.int ((zsrL.getD i []).getD j 0)) ∈ zFl := by decide +kernel
theorem zG_ne : ∀ i, i < 5 → ∀ j, j < 5 → i ≠ j → Cond.not (Cond.eq (zsS i) (zsS j)) ∈ zFl ∨ Cond.not (Cond.eq (zsS j) (zsS i)) ∈ zFl := by decide +kernel
theorem zG_rf : ∀ i, i < 5 → Cond.stringRef "TablesAndTips$Reader" (88 + 2 * i) (zTx i) ∈ lw_tbl := by decide +kernel
theorem zG_nn : ∀ i, i < 5 → ([6, 5, 7, 5, 7] : List Nat).getD i 0 < 2 ^ 31 := by decide +kernel
theorem zTS_ex (hts : ∀ w ∈ lw_tbl, w.before args s = true) (hn : ∀ c ∈ zFl, c.before args s = true) (hA : ∀ a : Nat, a < s.heap.size → ¬ A a) : ∃ tS : Nat → Nat, ∀ t, t < 7 → va_Z (zsC (1000 + t)) (zsN (1000 + t)) "[I" (.ref (tS t)) A s s.heap ∧ va_T .int (tS t) (zLen (1000 + t)) (fun j => .int (ztab (1000 + t) j)) A s s.heap := by
  have h : ∀ t, ∃ q : Nat, t < 7 → va_Z (zsC (1000 + t)) (zsN (1000 + t)) "[I" (.ref q) A s s.heap ∧ va_T .int q (zLen (1000 + t)) (fun j => .int (ztab (1000 + t) j)) A s s.heap := by
    intro t
    by_cases ht : t < 7
    · obtain ⟨q, hq, hT⟩ := va_Tof (f := fun j => .int (ztab (1000 + t) j)) (A := A) (zF_nn t ht) (hn _ (zF_arr t ht)) (va_eqt (hn _ (zF_len t ht))) (fun j hj => va_eqt (hn _ (zF_el t ht j hj))) hA
      exact ⟨q, fun _ => ⟨va_Zof (hts _ (zF_lay t ht)) (hts _ (zF_ini t ht)) hq hA, hT⟩⟩
    · exact ⟨0, fun h => absurd h ht⟩
  exact Classical.axiomOfChoice h
theorem zsh20 {t : Nat} (h : zTag t = 20) : ∃ k, k < 7 ∧ t = 1000 + k := by
  rcases zsh_c t with h1 | ⟨_, _, h1⟩ | ⟨_, h2, h3, h1⟩ | ⟨_, _, _, h1⟩ | ⟨_, h1⟩
  · have := zTag_sm t h1
    omega
  · omega
  · exact ⟨t - 1000, by omega, by omega⟩
  · omega
  · omega
theorem zα_t {t : Nat} (h : t < 7) : zα x u y v b tS sS (1000 + t) = tS t := by
  unfold zα
  rw [if_neg (by omega), if_neg (by omega), if_pos (by omega), Nat.add_sub_cancel_left]
theorem zα_s {i : Nat} : zα x u y v b tS sS (2000 + i) = sS i := by
  unfold zα
  rw [if_neg (by omega), if_neg (by omega), if_neg (by omega), Nat.add_sub_cancel_left]
theorem zα_b : zα x u y v b tS sS 999 = b := rfl
theorem zSt_ex (hts : ∀ w ∈ lw_tbl, w.before args s = true) (hn : ∀ c ∈ zFl, c.before args s = true) (hA : ∀ a : Nat, a < s.heap.size → ¬ A a) (hX : va_X b L xs s s.heap) (hb : b < s.heap.size) : ∃ tS sS adV : Nat → Nat, ∀ (x y : Nat) (u : kTt) (v : kS), va_K D zcls (zFt u v) s → zSt (zα x u y v b tS sS) (zaC u v) D A adV L xs s s.heap := by
  obtain ⟨tS, hT⟩ := zTS_ex hts hn hA
  obtain ⟨sS, adV, hSt, hev⟩ := vk_Sof (tm := zsS) (len := [6, 5, 7, 5, 7]) (byt := zsrL) (N := 5) (A := A) zG_nn (fun i hi => hn _ (zG_ex i hi)) (fun i hi => hn _ (zG_co i hi)) (fun i hi => hn _ (zG_ar i hi)) (fun i hi => hn _ (zG_le i hi)) (fun i hi j hj => hn _ (zG_el i hi j hj)) (fun i j hi hj hij => (zG_ne i hi j hj hij).imp (hn _) (hn _)) hA
  refine ⟨tS, sS, adV, fun x y u v hK => ?_⟩
  have k1 : ∀ (a : Nat) (ty : FieldType), (zFt u v)[zRk.getD a 0]? = some (zaC u v a, ty) → va_K D zcls [(zaC u v a, ty)] s := fun a ty h => hK.sub [zRk.getD a 0] (by
    rw [List.filterMap_cons_some h]
    rfl)
  refine ⟨hK.sub [] rfl, fun a ha => k1 a _ (zKa_i a (zTag_lt (by omega)) ha), fun a ha => k1 a _ (zKa_l a (zTag_lt (by omega)) ha), fun a ha => k1 a _ (zKa_q a (zTag_lt (by omega)) ha), fun t ht => ?_, ⟨hX, hb, fun h => hA b hb h⟩, ⟨?_, fun i hi => ?_, ?_, ?_⟩, fun o i b n d h hm => va_Nw.of rfl (hts _ hm), fun o i y h hm => va_Nw.of rfl (hts _ hm)⟩
  · obtain ⟨k, hk, rfl⟩ := zsh20 ht
    rw [zα_t hk]
    exact hT k hk
  · rw [show (fun i => zα x u y v b tS sS (2000 + i)) = sS from funext fun i => zα_s]
    exact hSt
  · rw [zα_s]
    exact vk_R.of (A := args) (hts _ (zG_rf i hi)) (hev i hi)
  · exact va_Zof (hts _ (zme (List.mem_of_getElem? (i := 507) (by decide +kernel)))) (hts _ (zme (List.mem_of_getElem? (i := 9) (by decide +kernel)))) (va_eqi (hn _ (by decide +kernel))) hA
  · rcases va_Zqof (C := "jdk/internal/util/Preconditions") (n := "SIOOBE_FORMATTER") (d := "Ljava/util/function/BiFunction;") (hts _ (zme (List.mem_of_getElem? (i := 523) (by decide +kernel)))) (hts _ (zme (List.mem_of_getElem? (i := 11) (by decide +kernel)))) (hn _ (by decide +kernel)) hA with h | ⟨r, h⟩
    · exact ⟨.null, Or.inl rfl, h⟩
    · exact ⟨.ref r, Or.inr ⟨r, rfl⟩, h⟩
end KT
section KL
variable {p : Program} {l : Launch} {e : Env} {R : Room} {s : State} {m : MethodId} {args : Array Value} {below : List Frame} {meth : Method} {c : Code} {H : Heap} {locs : List Loc} {cells slots : Nat} {Q : State → Prop}
variable {D : va_G} {A : Nat → Prop} {pc : Nat} {ls : Array Slot} {rest : List Value} {nL : Nat} {cc : ByteArray} {ws : va_W} {tys : List (ClassId × FieldType)}
theorem q_new (hx : p.tables.exec = Jvm.exec) (hb : c.code = cc) (hown : s.vm.findClass (zRn 7) = some m.cls) (hts : ∀ w ∈ zTbl, w.before args s = true) (hK : va_K D zcls tys s) (hP : va_P D zcls ws H) (hD : va_D A ws) (hS : va_S A s.heap H locs) (hA : ∀ q, s.heap.size ≤ q → A q) {cN : Nat} (h7N : cN < 7) {i pos1 pos2 : Nat} (hpos1 : tables_1[pos1]? = some (Cond.classLink (zRn 7) i (zRn cN))) (hpos2 : tables_1[pos2]? = some (Cond.instantiable (zRn cN) (zNn cN))) {fs : List Value} (hfs : ∀ j, j < zNn cN → defaultValue (zTy cN j) = vp_V fs j) (hcells : cells + 1 ≤ R.cells) (hslots : slots + zNn cN ≤ R.slots) (hdg : decode cc pc = .ok (.new i, 3))
    (kk : ∀ (q : Nat) (H1 : Heap), va_P D zcls (ws ++ [(q, .inr (cN, fs))]) H1 → va_D A (ws ++ [(q, .inr (cN, fs))]) → va_S A s.heap H1 locs → W p l e R s m args below meth c H1 locs (cells + 1) (slots + zNn cN) Q (F0 m (pc + 3) ls (.ref q :: rest))) : W p l e R s m args below meth c H locs cells slots Q (F0 m pc ls rest) :=
  va_new hx hb hts (zin_ok cN h7N) (zTy cN) (zTy_ok cN h7N) hown (hts _ (zmg hpos1 rfl)) (hts _ (zmg hpos2 rfl)) (hts _ (zTbl_mem (zw_in cN h7N) rfl)) hK hP hD hS hA (zcls_at cN h7N) hfs hcells hslots hdg kk
theorem q_call {S : Type} {Wd : S → va_W} {Ty : S → List (ClassId × FieldType)} {cN maxl mc ms i : Nat} {bytes : ByteArray} {rm : Room} {q : Nat} {e0 : va_E} {X : va_W} (hx : p.tables.exec = Jvm.exec) (hb : c.code = cc) (hml : c.maxLocals = nL) (hown : s.vm.findClass (zRn 7) = some m.cls) (hts : ∀ w ∈ zTbl, w.before args s = true) (hN : nW s) (hsz : ls.size = nL) (h7N : cN < 7)
    (hM : ∀ sz, Met l ⟨zRn cN, "<init>", "()V"⟩ (jws (.code ⟨zRn cN, "<init>", "()V"⟩ bytes maxl none)) rm (kP D q [(q, e0)] sz) (kQ Wd Ty D (va_A [(q, e0)] sz)) mc ms (va_A [(q, e0)] sz))
    (hcw : Cond.code ⟨zRn cN, "<init>", "()V"⟩ bytes maxl none ∈ zTbl) (hrc : rm.cells = mc) (hrs : rm.slots = ms) (hlink : Cond.methodLink (zRn 7) i ⟨zRn cN, "<init>", "()V"⟩ ∈ zTbl) (hinst : Cond.instanceMethod ⟨zRn cN, "<init>", "()V"⟩ ∈ zTbl) (hd : zRn cN ≠ "java/lang/invoke/MethodHandle" ∧ zRn cN ≠ "java/lang/invoke/VarHandle") (hR : rm.frames + 1 ≤ R.frames ∧ 8 + (maxl + 11) + rm.locals ≤ R.locals) (hfit : cells + mc ≤ R.cells ∧ slots + ms ≤ R.slots)
    (hK : va_K D zcls tys s) (hP : va_P D zcls (X ++ [(q, e0)]) H) (hD : va_D A (X ++ [(q, e0)])) (hS : va_S A s.heap H locs) (hA : ∀ q, s.heap.size ≤ q → A q) (hrest : (rest.map fun v => v.category).sum ≤ 8) (hdg : decode cc pc = .ok (.invokespecial i, 3))
    (kk : ∀ (u : S) (H1 : Heap) (locs1 : List Loc), va_P D zcls (X ++ Wd u) H1 → va_K D zcls (tys ++ Ty u) s → va_D A (X ++ Wd u) → va_S A s.heap H1 locs1 → W p l e R s m args below meth c H1 locs1 (cells + mc) (slots + ms) Q (F0 m (pc + 3) ls rest)) : W p l e R s m args below meth c H locs cells slots Q (F0 m pc ls (.ref q :: rest)) := by
  have hPc := hP.sub (ws' := [(q, e0)]) [X.length] (k_last2 X _)
  have hDc := hD.sub (ws' := [(q, e0)]) [X.length] (k_nd _ (by simp)) (k_last X _)
  have hKc := hK.sub (tys' := []) [] rfl
  have hFc := va_free (wc := [(q, e0)]) hD hS hA [X.length] (k_last X _)
  refine va_callv (va_runI (As := []) (rest := rest) ⟨hx, hb, hml, hown, hts⟩ (hM H.size) ⟨callB_of 0 hts (jG hcw) rfl hrc hrs (hts _ (zTbl_mem (zw_in cN h7N) rfl)) (hts _ hlink) ⟨hd.1, hd.2, by show (parseMethodDescriptor "()V").map (fun d => d.parameters.length) = some 0; decide +kernel⟩ hR, rfl, hts _ hinst⟩ ⟨kP_blind, kP_at hPc hKc hDc hN⟩ rfl rfl hsz rfl (lv_room hrest) hdg hfit) hS (fun q _ h => hFc q h) hFc (fun u t H1 locs ht hvm hw hB hz1 hk1 hS => ?_)
  obtain ⟨hP1, hK1, hD1⟩ := hB
  rw [ht] at hP1
  have hK1 := va_K.moved hvm.symm hK1
  obtain ⟨hP2, hD2⟩ := va_join (wr := X) (w1 := Wd u) hP hD [X.length] (List.range X.length) (k_last X _) (k_rng X _) (k_nd _ List.nodup_range) (fun i hi h => by
    rw [List.mem_range] at hi
    rw [List.mem_singleton] at h
    omega) hk1 hFc hP1 hD1
  exact kk u H1 locs hP2 (hK.app hK1) hD2 hS
end KL

theorem kd7_0 : decode code 0 = .ok (.new 7, 3) := by decide +kernel
theorem kd7_3 : decode code 3 = .ok (.dup, 1) := by decide +kernel
theorem kd7_4 : decode code 4 = .ok (.invokespecial 9, 3) := by decide +kernel
theorem kd7_7 : decode code 7 = .ok (.astore_n 1, 1) := by decide +kernel
theorem kd7_8 : decode code 8 = .ok (.new 10, 3) := by decide +kernel
theorem kd7_11 : decode code 11 = .ok (.dup, 1) := by decide +kernel
theorem kd7_12 : decode code 12 = .ok (.invokespecial 12, 3) := by decide +kernel
theorem kd7_15 : decode code 15 = .ok (.astore_n 2, 1) := by decide +kernel
theorem kd7_16 : decode code 16 = .ok (.iconst 0, 1) := by decide +kernel
theorem kd7_17 : decode code 17 = .ok (.istore_n 3, 1) := by decide +kernel
/-! THE CLAIM OUT OF ONE WALK OF THE LAW'S BODY. Your part is whole_start (and what it stands on); all else here is the same for every law, but numbers. -/
def R_law : String := "TablesAndTipsLaw"
def lw_P (b : Addr) (xs : List Int32) (args : Array Value) (s : State) : Prop := args = #[.ref b] ∧ s.IntsAt b xs ∧ xs.length ≤ 3072 ∧ (Jvm.Cond.and given_1 narrow_1).before args s = true
def lw_Q (_ : Array Value) (s : State) (o : Outcome) (t : State) : Prop := o = .returned (some (.int 1)) ∧ Framed s o t [] 600000 7302250
def lw_Z (below : List Frame) (a : Array Value) (s : State) : State → Prop := fun t => ∃ o, t.status = .running ∧ Ended t below o ∧ lw_Q a s o t
/-- the law's own end, with 1 on the stack, nothing written that was there before, its room as the claim has it -/
theorem lw_ret {p : Program} {l : Launch} {e : Env} {s : State} {m : MethodId} {below : List Frame} {meth : Method} {c : Code} {b : Nat} (hx : p.tables.exec = Jvm.exec) (hb : c.code = code) (hr : meth.sig.returnType = ret) (hlocks : meth.locks = false) {pc : Nat} {H : Heap} {ls : Array Slot} (hdg : decode code pc = .ok (.ireturn, 1)) : W p l e room_1 s m #[Value.ref b] below meth c H [] 600000 7302250 (lw_Z below #[Value.ref b] s) (F0 m pc ls [.int 1]) := by
  intro T hT X
  obtain ⟨fs, hret, hrun, hended, hW, hframe⟩ := X.leave (v := some (.int 1)) (hlocks := hlocks) (fun h => by rw [hr] at h; cases h)
  have hmeth' : T.vm.method? m = some meth := X.method'
  refine ⟨T.setFrames fs, ?_, .returned (some (.int 1)), hrun, hended, rfl, ⟨_, rfl⟩, hW, hframe⟩
  jvm_step X.here [X.here.top, hx, hb, hdg, hmeth', hr, ret, narrow_b1]
  (try refine ⟨rfl, ?_⟩); (try refine ⟨rfl, ?_⟩)
  first | (intro acts; rw [hret _ acts rfl rfl rfl]) | rw [hret _ _ rfl rfl rfl]
  exact Steps.refl _
/-- what holds at the law's entry: the machine, the code, the tables' words (any of lw_tbl by 'hts w (by decide +kernel)'), the script of L ints xs at the cell b, what the Statement gives of the start (any of its parts by flat_of_before) -/
def lw_At (p : Program) (s : State) (m : MethodId) (meth : Method) (c : Code) (b L : Nat) (xs : Nat → Int32) : Prop :=
  p.tables.exec = Jvm.exec ∧ c.code = code ∧ meth.sig.returnType = ret ∧ c.maxLocals = 4 ∧ s.vm.findClass R_law = some m.cls ∧ (∀ w ∈ lw_tbl, w.before #[Value.ref b] s = true) ∧ va_X b L xs s s.heap ∧ b < s.heap.size ∧ meth.locks = false ∧ (Jvm.Cond.and given_1 narrow_1).before #[Value.ref b] s = true
theorem whole_start {p : Program} {e : Env} {s : State} {m : MethodId} {below : List Frame} {meth : Method} {c : Code} (l : Launch) (hflags : l.flags = flags0) {b L : Nat} {xs : Nat → Int32} (hL : L ≤ 3072) (C0 : lw_At p s m meth c b L xs) : W p l e room_1 s m #[Value.ref b] below meth c s.heap [] 0 0 (lw_Z below #[Value.ref b] s) (entryFrame m ([Value.ref b] : List Value).toArray 4) := by
  obtain ⟨hx, hb, hr, hml, hown, hts, hX, hbl, hlk, hgv⟩ := C0
  have htz := zts_of hts
  have hown : s.vm.findClass (zRn 7) = some m.cls := hown
  have hn : ∀ c ∈ zFl, c.before #[Value.ref b] s = true := flat_of_before _ hgv
  obtain ⟨D, hK⟩ := zD_ex hts
  have hN : nW s := nW_of hts
  generalize hAe : (fun q => s.heap.size ≤ q : Nat → Prop) = A
  have hA : ∀ q, s.heap.size ≤ q → A q := fun q h => by rw [← hAe]; exact h
  have hA2 : ∀ q, A q → s.heap.size ≤ q := fun q h => by rw [← hAe] at h; exact h
  obtain ⟨tS, sS, adV, hStt⟩ := zSt_ex (D := D) (A := A) hts hn (fun a h1 h2 => absurd (hA2 a h2) (Nat.not_le_of_lt h1)) hX hbl
  have hnil : ∀ (k : Nat) (q : Nat × va_E), ([] : va_W)[k]? = some q → False := fun k q hk => by
    rw [List.getElem?_nil] at hk
    cases hk
  have hP : va_P D zcls [] s.heap := fun k q hk => (hnil k q hk).elim
  have hD : va_D A [] := ⟨fun i j p q hp _ _ => (hnil i p hp).elim, fun k q hk => (hnil k q hk).elim⟩
  have hS : va_S A s.heap s.heap [] := va_S.rf
  have hl := lv_entry ([.ref b]) (n := 4) (Nat.le_of_ble_eq_true rfl)
  rw [lg_entry_eq]
  generalize (lg_sl ([.ref b]) ++ List.replicate (4 - (lg_sl ([.ref b])).length) Slot.unset).toArray = ls at hl ⊢
  have hl : lv_has ls 4 [(0, .ref b)] := hl
  refine q_new hx hb hown htz hK hP hD hS hA (cN := 5) (by decide) (pos1 := 13) (pos2 := 14) (by decide +kernel) (by decide +kernel) (fs := [.null, .null, .null, .null, .null, .null, .null, .int 0]) (by decide) (Nat.le_of_ble_eq_true rfl) (Nat.le_of_ble_eq_true rfl) kd7_0 (fun qT H hP hD hS => ?_)
  refine lv_dup hx hb kd7_3 rfl ?_
  refine q_call (cN := 5) (mc := 49) (ms := 2766) (X := []) (Wd := kwT qT) (Ty := ktT) hx hb hml hown htz hN hl.1 (by decide) (fun sz => k_T l D qT sz) (zmg (i := 17) (by decide +kernel) rfl) rfl rfl (zmg (i := 15) (by decide +kernel) rfl) (zmg (i := 16) (by decide +kernel) rfl) (by decide) ⟨Nat.le_of_ble_eq_true rfl, Nat.le_of_ble_eq_true rfl⟩ ⟨Nat.le_of_ble_eq_true rfl, Nat.le_of_ble_eq_true rfl⟩ hK hP hD hS hA (Nat.le_of_ble_eq_true rfl) kd7_4 (fun u H locs hP hK hD hS => ?_)
  refine lv_astore_n (lv' := [(1, .ref qT), (0, .ref b)]) hx hb kd7_7 rfl hl (by decide) rfl (fun ls hl => ?_)
  refine q_new hx hb hown htz hK hP hD hS hA (cN := 6) (by decide) (pos1 := 1002) (pos2 := 1003) (by decide +kernel) (by decide +kernel) (fs := [.int 0, .int 0, .int 0, .int 0, .int 0, .int 0, .int 0, .int 0, .null, .null, .null, .null, .null, .null, .null, .null, .null, .null, .null, .null, .null, .null, .null, .null, .null, .null, .null, .null, .null, .int 0, .int 0, .int 0, .int 0, .int 0, .null, .null, .null, .null, .null, .null, .int 0, .int 0, .int 0, .int 0, .null, .null, .int 0, .int 0]) (by decide) (Nat.le_of_ble_eq_true rfl) (Nat.le_of_ble_eq_true rfl) kd7_8 (fun qM H hP hD hS => ?_)
  refine lv_dup hx hb kd7_11 rfl ?_
  refine q_call (cN := 6) (mc := 29) (ms := 1840) (X := kwT qT u) (Wd := kwM qM) (Ty := ktM) hx hb hml hown htz hN hl.1 (by decide) (fun sz => k_Model l D qM sz) (zmg (i := 1006) (by decide +kernel) rfl) rfl rfl (zmg (i := 1004) (by decide +kernel) rfl) (zmg (i := 1005) (by decide +kernel) rfl) (by decide) ⟨Nat.le_of_ble_eq_true rfl, Nat.le_of_ble_eq_true rfl⟩ ⟨Nat.le_of_ble_eq_true rfl, Nat.le_of_ble_eq_true rfl⟩ hK hP hD hS hA (Nat.le_of_ble_eq_true rfl) kd7_12 (fun v H locs hP hK hD hS => ?_)
  refine lv_astore_n (lv' := [(2, .ref qM), (1, .ref qT), (0, .ref b)]) hx hb kd7_15 rfl hl (by decide) rfl (fun ls hl => ?_)
  refine lv_iconst (v := 0) hx hb kd7_16 (by decide) ?_
  refine lv_istore_n (lv' := [(3, .int 0), (2, .ref qM), (1, .ref qT), (0, .ref b)]) hx hb kd7_17 rfl hl (by decide) rfl (fun ls hl => ?_)
  have hP : va_P D zcls (zFw qT u qM v) H := by rw [← zFw_eq]; exact hP
  have hD : va_D A (zFw qT u qM v) := by rw [← zFw_eq]; exact hD
  have hK : va_K D zcls (zFt u v) s := by rw [← zFt_eq]; exact hK
  have hst := hStt qT qM u v hK
  have hPz := zws_P (b := b) (tS := tS) (sS := sS) (L := L) (xs := xs) hP
  obtain ⟨w2, hden⟩ := law_loop (d := 0) hL 512 0 (zW0 L xs) 0 0 zW0_R (by omega) (by omega)
  obtain ⟨n, hn⟩ := den_iff.mp hden
  have hls : zHas (zα qT u qM v b tS sS) ls (zmaxl 7000) [some (.ref 999), some (.ref 0), some (.ref 50), some (.int (nI 0))] := by
    refine ⟨⟨hl.1, hl.2.1, fun q hq => hl.2.2 q ?_⟩, rfl⟩
    have hq : q ∈ ([(0, .ref b), (1, .ref qT), (2, .ref qM), (3, .int 0)] : List (Nat × Value)) := hq
    simp only [List.mem_cons, List.not_mem_nil, or_false] at hq ⊢
    rcases hq with h | h | h | h
    · exact Or.inr (Or.inr (Or.inr h))
    · exact Or.inr (Or.inr (Or.inl h))
    · exact Or.inr (Or.inl h)
    · exact Or.inl h
  refine zsound (fun w => zws_D hD w) n (0 + 41) 7000 18 _ _ _ _ _ hn ⟨rfl, fun _ _ => rfl, by omega⟩ p e room_1 s m #[Value.ref b] below meth c H locs _ _ _ ls ⟨hx, hb, hml, hown, htz, hst, hlk, by decide, by decide⟩ (Nat.le_of_ble_eq_true rfl) (Nat.le_of_ble_eq_true rfl) hPz hS hls ?_
  intro H1 locs1 lsB pc1 ins hdec hP1 hS1 hw1 hret
  rcases hret with ⟨rfl, x, hx9, _⟩ | ⟨rfl, x, hx9, _⟩ | ⟨rfl, x, hx9, _, hz⟩ | ⟨rfl, h9, _⟩
  · cases hx9
    refine W.widen (k := 600000) (n := 7302250) (Nat.le_of_ble_eq_true rfl) (Nat.le_of_ble_eq_true rfl) ?_
    refine va_forget (fun q hq => hA2 _ (hS1.2.2 q hq)) ?_
    exact lw_ret hx hb hr hlk hdec
  · cases hx9
  · cases hx9
    cases hz
  · cases h9
set_option maxHeartbeats 4000000 in
theorem lw_walk (l : Launch) (hflags : l.flags = flags0) (b : Addr) (xs : List Int32) : MetFree l x (headSpec (Jvm.Cond.code x code maxLocals ret :: tables_1) room_1) (lw_P b xs) (fun _ _ _ _ _ => True) lw_Q := by
  refine MetFree.of_bodyS (code := code) (maxLocals := maxLocals) (ret := ret) (by decide) ?_ ?_
  · intro args s m h hn
    obtain ⟨meth, c, h1, h2, h3, h4, h5, h6, -, -⟩ := Cond.code_spec hn (atoms_spec (ws := Jvm.Cond.code x code maxLocals ret :: tables_1) h _ List.mem_cons_self)
    exact ⟨meth, c, h1, h2, h3, h4, h5, h6⟩
  · intro p e s m args below meth c s₁ B hml0 hP _
    obtain ⟨rfl, hx, hbd, hgv⟩ := hP
    obtain ⟨scr, harrAt, hlist, hof, hsmall⟩ := hx
    obtain ⟨hcb, hkn, -, -⟩ := State.arrayAt?_spec harrAt
    have hown : s.vm.findClass R_law = some m.cls := findClass_of_methodNamed B.named
    have hts0 : ∀ c ∈ (Jvm.Cond.code x code maxLocals ret :: tables_1), c.before #[Value.ref b] s = true := atoms_spec (ws := Jvm.Cond.code x code maxLocals ret :: tables_1) B.pre
    have hts : ∀ w ∈ lw_tbl, w.before #[Value.ref b] s = true := k2_hts_sels lw_privs (fun w hw => hts0 w (List.mem_cons_of_mem _ hw)) lw_privs_ok
    have hml : c.maxLocals = 4 := B.maxLocals_eq (hts0 _ List.mem_cons_self)
    have X₀ : Stand p l e room_1 s m #[Value.ref b] below meth c s₁ [] 0 0 := Stand.of_body B
    have hh0 : s₁.heap = s.heap := by rw [B.state]; rfl
    have hsz : scr.slots.size = xs.length := by rw [← Array.length_toList, hlist, List.length_map]
    have hval : ∀ j : Nat, j < xs.length → scr.slots[j]? = some (.int (xs.getD j 0)) := fun j hj => by
      rw [← Array.getElem?_toList, hlist]
      simp [hj]
    have hbl : b < s.heap.size := (Array.getElem?_eq_some_iff.mp hcb).1
    have hX : va_X b xs.length (fun j => xs.getD j 0) s s.heap := ⟨scr, hcb, hof, hkn, hsz, hval⟩
    have K : W p l e room_1 s m #[Value.ref b] below meth c s₁.heap [] 0 0 (lw_Z below #[Value.ref b] s) (entryFrame m ([Value.ref b] : List Value).toArray 4) := by
      rw [hh0]
      exact whole_start l hflags hbd ⟨B.exec, B.bytes, B.returns, hml, hown, hts, hX, hbl, B.notSynchronized, hgv⟩
    obtain ⟨t, a1, o, b1, b2, b3⟩ := K s₁ rfl X₀
    exact ⟨t, o, a1, b1, b2, b3⟩
theorem lw_pre_spec {args : Array Value} {s : State} (h : (Jvm.Cond.and given_1 narrow_1).before args s = true) (hr : rest_1_c.before args s = true) : ∃ (b : Addr) (xs : List Int32), lw_P b xs args s := by
  have hs := flat_of_before _ h
  have hq := flat_of_before _ hr
  have hc : (Cond.count 1).before args s = true := hs _ (by decide +kernel)
  have harr : (Cond.arrayOf (.arg 0) .int).before args s = true := hs _ (by decide +kernel)
  have hle : (Cond.le (.length (.arg 0)) (.int 3072)).before args s = true := hs _ (by decide +kernel)
  have hlen : (Cond.isInt (.length (.arg 0))).before args s = true := hq _ (by decide +kernel)
  have hall : (Cond.all (.arg 0) (.isInt (.elem (.arg 0) (.index 0)))).before args s = true := hq _ (by decide +kernel)
  obtain ⟨b, xs, hb, hx⟩ := State.ints_of_pre rfl harr hlen hall
  have hsm : xs.length < 2 ^ 31 := hx.choose_spec.2.2.2
  have hev : (Term.length (.arg 0)).eval args s none [] s = some (.int xs.length.toInt32) := hx.length_eval hb
  have hv := Cond.le_ints hev (show (Term.int 3072).eval args s none [] s = some (.int 3072) from rfl)
  have hd : xs.length.toInt32 ≤ 3072 := by
    simpa [Cond.before, Cond.holds, hv] using hle
  have hN : xs.length ≤ 3072 := (Int32.ofNat_le_ofNat hsm (by decide)).mp (show Int32.ofNat xs.length ≤ Int32.ofNat 3072 from hd)
  exact ⟨b, xs, Cond.one_arg hc (show args[0]? = some (.ref b) from hb), hx, hN, h⟩
theorem lw_comes (l : Launch) (hflags : l.flags = flags0) : Comes l x (Jvm.Cond.code x code maxLocals ret :: tables_1) room_1 (fun tb e args s => Calls_1 tb e args s ∧ rest_1 tb e args s ∧ Pre_1 tb e args s)
    (fun _ _ args s o t => lw_Q args s o t) := by
  intro p e ha hc hk s m args below hf hfit hheap happ hpre
  obtain ⟨b, xs, hP⟩ := lw_pre_spec hpre.2.2 hpre.2.1
  obtain ⟨k, o, h1, h2, h3, hQ⟩ := lw_walk l hflags b xs p e ha hc hk s m args below hf ((Spec.applies_iff_loose hf).mp happ).1 hP trivial
  exact ⟨k, o, h1, h2, h3, hQ⟩
theorem lw_frame {s t : State} {o : Outcome} {args : Array Value} (h : Framed s o t [] 600000 7302250) :
    Framed s o t (fieldLocs frame_1_writes args s ++ arrayLocs frame_1_arrays args s ++ staticLocs frame_1_statics s) 600000 7302250 := h
theorem lw_limb (L : Cond) (hL : ∀ (args : Array Value) (s t : State), L.after args s (.returned (some (.int 1))) t = true) :
    ArmFor flags0 classFile x code maxLocals ret World_1 tables_1 room_1 Calls_1 rest_1 Pre_1
      (fun tb e a s o t => postC L tb e a s o t ∧ Framed s o t (fieldLocs frame_1_writes a s ++ arrayLocs frame_1_arrays a s ++ staticLocs frame_1_statics s) 600000 7302250) := by
  intro l hflags _ _ p e ha hc hk s m args below hf hfit hheap happ hpre
  obtain ⟨k, o, h1, h2, h3, rfl, hF⟩ := lw_comes l hflags p e ha hc hk s m args below hf hfit hheap happ hpre
  exact ⟨k, _, h1, h2, h3, hL args s _, lw_frame hF⟩
theorem i_vc : Claimed_1_1 ∧ Claimed_1_2 := ⟨lw_limb limb_1_1 (fun args s t => by simp [limb_1_1, Cond.after, Cond.holds, Cond.value]), lw_limb limb_1_2 (fun args s t => Cond.after_iff.mpr (by
  first | (rw [show limb_1_2 = Cond.eq .result (.int 1) from rfl, Cond.eq_ints (x := 1) (y := 1) rfl rfl]; simp; done) | (simp [limb_1_2, Cond.value, Term.eval]; done)))⟩
