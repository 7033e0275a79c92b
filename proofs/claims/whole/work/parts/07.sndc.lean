theorem zlo_r {ls : zL} {i : Nat} {k : Value → zR} {c : zR} (h : zlo ls i k = c) : c = zX ∨ ∃ v, True ∧ k v = c := by
  unfold zlo at h
  split at h
  · exact Or.inr ⟨_, trivial, h⟩
  · exact Or.inl h.symm
theorem zloI_r {ls : zL} {i : Nat} {k : Int32 → zR} {c : zR} (h : zloI ls i k = c) : c = zX ∨ ∃ v, True ∧ k v = c := by
  unfold zloI at h
  split at h
  · exact Or.inr ⟨_, trivial, h⟩
  · exact Or.inl h.symm
theorem zloJ_r {ls : zL} {i : Nat} {k : Int64 → zR} {c : zR} (h : zloJ ls i k = c) : c = zX ∨ ∃ v, True ∧ k v = c := by
  unfold zloJ at h
  split at h
  · exact Or.inr ⟨_, trivial, h⟩
  · exact Or.inl h.symm
theorem zjp_r {pc : Nat} {off : Int} {k : Nat → zR} {c : zR} (h : zjp pc off k = c) : c = zX ∨ ∃ t : Nat, k t = c := by
  unfold zjp at h
  split at h
  · exact Or.inr ⟨_, h⟩
  · exact Or.inl h.symm
theorem zstep_call {M pc len : Nat} {ls : zL} {st : List Value} {w : zM} {ins : Instr} {cc : Nat × List Value × List Value} (h : zstep M ins pc len ls st w = .inr (.inl cc)) : (∃ i, ins = .invokestatic i) ∨ ∃ i, ins = .invokevirtual i := by
  cases ins
  case invokestatic i => exact Or.inl ⟨i, rfl⟩
  case invokevirtual i => exact Or.inr ⟨i, rfl⟩
  all_goals exfalso
  all_goals unfold zstep at h
  all_goals dsimp only at h
  all_goals first
    | (cases h; done)
    | (rcases zi1_r h with h | ⟨_, _, _, h⟩ <;> first | (cases h; done) | (split at h <;> first | (cases h; done) | (rcases zjp_r h with h | ⟨_, h⟩ <;> (cases h; done)) | (split at h <;> first | (cases h; done) | (split at h <;> cases h; done))) | (rcases zjp_r h with h | ⟨_, h⟩ <;> first | (cases h; done) | (split at h <;> cases h; done)))
    | (rcases zi2_r h with h | ⟨_, _, _, _, h⟩ <;> first | (cases h; done) | (split at h <;> first | (cases h; done) | (rcases zjp_r h with h | ⟨_, h⟩ <;> (cases h; done)) | (split at h <;> first | (cases h; done) | (split at h <;> cases h; done))) | (rcases zjp_r h with h | ⟨_, h⟩ <;> first | (cases h; done) | (split at h <;> cases h; done)))
    | (rcases zj1_r h with h | ⟨_, _, _, h⟩ <;> first | (cases h; done) | (split at h <;> first | (cases h; done) | (rcases zjp_r h with h | ⟨_, h⟩ <;> (cases h; done)) | (split at h <;> first | (cases h; done) | (split at h <;> cases h; done))) | (rcases zjp_r h with h | ⟨_, h⟩ <;> first | (cases h; done) | (split at h <;> cases h; done)))
    | (rcases zj2_r h with h | ⟨_, _, _, _, h⟩ <;> first | (cases h; done) | (split at h <;> first | (cases h; done) | (rcases zjp_r h with h | ⟨_, h⟩ <;> (cases h; done)) | (split at h <;> first | (cases h; done) | (split at h <;> cases h; done))) | (rcases zjp_r h with h | ⟨_, h⟩ <;> first | (cases h; done) | (split at h <;> cases h; done)))
    | (rcases zij_r h with h | ⟨_, _, _, _, h⟩ <;> first | (cases h; done) | (split at h <;> first | (cases h; done) | (rcases zjp_r h with h | ⟨_, h⟩ <;> (cases h; done)) | (split at h <;> first | (cases h; done) | (split at h <;> cases h; done))) | (rcases zjp_r h with h | ⟨_, h⟩ <;> first | (cases h; done) | (split at h <;> cases h; done)))
    | (rcases za1_r h with h | ⟨_, _, _, h⟩ <;> first | (cases h; done) | (split at h <;> first | (cases h; done) | (rcases zjp_r h with h | ⟨_, h⟩ <;> (cases h; done)) | (split at h <;> first | (cases h; done) | (split at h <;> cases h; done))) | (rcases zjp_r h with h | ⟨_, h⟩ <;> first | (cases h; done) | (split at h <;> cases h; done)))
    | (rcases zai_r h with h | ⟨_, _, _, _, h⟩ <;> first | (cases h; done) | (split at h <;> first | (cases h; done) | (rcases zjp_r h with h | ⟨_, h⟩ <;> (cases h; done)) | (split at h <;> first | (cases h; done) | (split at h <;> cases h; done))) | (rcases zjp_r h with h | ⟨_, h⟩ <;> first | (cases h; done) | (split at h <;> cases h; done)))
    | (rcases zia_r h with h | ⟨_, _, _, _, h⟩ <;> first | (cases h; done) | (split at h <;> first | (cases h; done) | (rcases zjp_r h with h | ⟨_, h⟩ <;> (cases h; done)) | (split at h <;> first | (cases h; done) | (split at h <;> cases h; done))) | (rcases zjp_r h with h | ⟨_, h⟩ <;> first | (cases h; done) | (split at h <;> cases h; done)))
    | (rcases zaii_r h with h | ⟨_, _, _, _, _, h⟩ <;> first | (cases h; done) | (split at h <;> first | (cases h; done) | (rcases zjp_r h with h | ⟨_, h⟩ <;> (cases h; done)) | (split at h <;> first | (cases h; done) | (split at h <;> cases h; done))) | (rcases zjp_r h with h | ⟨_, h⟩ <;> first | (cases h; done) | (split at h <;> cases h; done)))
    | (rcases zaij_r h with h | ⟨_, _, _, _, _, h⟩ <;> first | (cases h; done) | (split at h <;> first | (cases h; done) | (rcases zjp_r h with h | ⟨_, h⟩ <;> (cases h; done)) | (split at h <;> first | (cases h; done) | (split at h <;> cases h; done))) | (rcases zjp_r h with h | ⟨_, h⟩ <;> first | (cases h; done) | (split at h <;> cases h; done)))
    | (rcases zjp_r h with h | ⟨_, h⟩ <;> cases h; done)
    | (rcases zlo_r h with h | ⟨_, _, h⟩ <;> first | (cases h; done) | (split at h <;> cases h; done))
    | (rcases zloI_r h with h | ⟨_, _, h⟩ <;> first | (cases h; done) | (split at h <;> cases h; done))
    | (rcases zloJ_r h with h | ⟨_, _, h⟩ <;> cases h; done)
    | (split at h <;> first | (cases h; done) | (split at h <;> first | (cases h; done) | (split at h <;> cases h; done)) | (rcases zjp_r h with h | ⟨_, h⟩ <;> cases h; done))
theorem zstep_ret {M pc len : Nat} {ls : zL} {st : List Value} {w : zM} {ins : Instr} {v : Option Value} (h : zstep M ins pc len ls st w = .inr (.inr (some v))) : (ins = .ireturn ∧ ∃ x, v = some (.int x) ∧ st = [.int x] ∧ (zrt M = 1 ∨ (zrt M = 2 ∧ (x = 0 ∨ x = 1)))) ∨ (ins = .lreturn ∧ ∃ x, v = some (.long x) ∧ st = [.long x] ∧ zrt M = 3) ∨ (ins = .areturn ∧ ∃ x, v = some x ∧ st = [x] ∧ zrt M = 4 ∧ zisR x = true) ∨ (ins = .return_ ∧ v = none ∧ st = [] ∧ zrt M = 0) := by
  cases ins
  case ireturn =>
    unfold zstep at h
    dsimp only at h
    split at h
    · split at h
      · cases h
        exact Or.inl ⟨rfl, _, rfl, rfl, by assumption⟩
      · cases h
    · cases h
  case lreturn =>
    unfold zstep at h
    dsimp only at h
    split at h
    · split at h
      · cases h
        exact Or.inr (Or.inl ⟨rfl, _, rfl, rfl, by assumption⟩)
      · cases h
    · cases h
  case areturn =>
    unfold zstep at h
    dsimp only at h
    split at h
    · split at h
      · cases h
        rename_i h4
        exact Or.inr (Or.inr (Or.inl ⟨rfl, _, rfl, rfl, h4⟩))
      · cases h
    · cases h
  case return_ =>
    unfold zstep at h
    dsimp only at h
    split at h
    · split at h
      · cases h
        exact Or.inr (Or.inr (Or.inr ⟨rfl, rfl, rfl, by assumption⟩))
      · cases h
    · cases h
  case invokestatic i =>
    exfalso
    unfold zstep at h
    dsimp only at h
    split at h
    · split at h
      · rcases zi2_r h with h | ⟨_, _, _, _, h⟩
        · cases h
        · split at h <;> cases h
      · split at h
        · rcases zi2_r h with h | ⟨_, _, _, _, h⟩
          · cases h
          · split at h <;> cases h
        · split at h
          · unfold zinv at h
            split at h
            · split at h <;> cases h
            · cases h
          · cases h
    · cases h
  case invokevirtual i =>
    exfalso
    unfold zstep at h
    dsimp only at h
    split at h
    · split at h
      · rcases za1_r h with h | ⟨_, _, _, h⟩
        · cases h
        · split at h <;> cases h
      · split at h
        · rcases zai_r h with h | ⟨_, _, _, _, h⟩
          · cases h
          · split at h <;> cases h
        · split at h
          · unfold zinw at h
            split at h
            · rcases za1_r h with h | ⟨_, _, _, h⟩
              · cases h
              · split at h <;> cases h
            · cases h
          · cases h
    · cases h
  all_goals exfalso
  all_goals unfold zstep at h
  all_goals dsimp only at h
  all_goals first
    | (cases h; done)
    | (rcases zi1_r h with h | ⟨_, _, _, h⟩ <;> first | (cases h; done) | (split at h <;> first | (cases h; done) | (rcases zjp_r h with h | ⟨_, h⟩ <;> (cases h; done)) | (split at h <;> first | (cases h; done) | (split at h <;> cases h; done))) | (rcases zjp_r h with h | ⟨_, h⟩ <;> first | (cases h; done) | (split at h <;> cases h; done)))
    | (rcases zi2_r h with h | ⟨_, _, _, _, h⟩ <;> first | (cases h; done) | (split at h <;> first | (cases h; done) | (rcases zjp_r h with h | ⟨_, h⟩ <;> (cases h; done)) | (split at h <;> first | (cases h; done) | (split at h <;> cases h; done))) | (rcases zjp_r h with h | ⟨_, h⟩ <;> first | (cases h; done) | (split at h <;> cases h; done)))
    | (rcases zj1_r h with h | ⟨_, _, _, h⟩ <;> first | (cases h; done) | (split at h <;> first | (cases h; done) | (rcases zjp_r h with h | ⟨_, h⟩ <;> (cases h; done)) | (split at h <;> first | (cases h; done) | (split at h <;> cases h; done))) | (rcases zjp_r h with h | ⟨_, h⟩ <;> first | (cases h; done) | (split at h <;> cases h; done)))
    | (rcases zj2_r h with h | ⟨_, _, _, _, h⟩ <;> first | (cases h; done) | (split at h <;> first | (cases h; done) | (rcases zjp_r h with h | ⟨_, h⟩ <;> (cases h; done)) | (split at h <;> first | (cases h; done) | (split at h <;> cases h; done))) | (rcases zjp_r h with h | ⟨_, h⟩ <;> first | (cases h; done) | (split at h <;> cases h; done)))
    | (rcases zij_r h with h | ⟨_, _, _, _, h⟩ <;> first | (cases h; done) | (split at h <;> first | (cases h; done) | (rcases zjp_r h with h | ⟨_, h⟩ <;> (cases h; done)) | (split at h <;> first | (cases h; done) | (split at h <;> cases h; done))) | (rcases zjp_r h with h | ⟨_, h⟩ <;> first | (cases h; done) | (split at h <;> cases h; done)))
    | (rcases za1_r h with h | ⟨_, _, _, h⟩ <;> first | (cases h; done) | (split at h <;> first | (cases h; done) | (rcases zjp_r h with h | ⟨_, h⟩ <;> (cases h; done)) | (split at h <;> first | (cases h; done) | (split at h <;> cases h; done))) | (rcases zjp_r h with h | ⟨_, h⟩ <;> first | (cases h; done) | (split at h <;> cases h; done)))
    | (rcases zai_r h with h | ⟨_, _, _, _, h⟩ <;> first | (cases h; done) | (split at h <;> first | (cases h; done) | (rcases zjp_r h with h | ⟨_, h⟩ <;> (cases h; done)) | (split at h <;> first | (cases h; done) | (split at h <;> cases h; done))) | (rcases zjp_r h with h | ⟨_, h⟩ <;> first | (cases h; done) | (split at h <;> cases h; done)))
    | (rcases zia_r h with h | ⟨_, _, _, _, h⟩ <;> first | (cases h; done) | (split at h <;> first | (cases h; done) | (rcases zjp_r h with h | ⟨_, h⟩ <;> (cases h; done)) | (split at h <;> first | (cases h; done) | (split at h <;> cases h; done))) | (rcases zjp_r h with h | ⟨_, h⟩ <;> first | (cases h; done) | (split at h <;> cases h; done)))
    | (rcases zaii_r h with h | ⟨_, _, _, _, _, h⟩ <;> first | (cases h; done) | (split at h <;> first | (cases h; done) | (rcases zjp_r h with h | ⟨_, h⟩ <;> (cases h; done)) | (split at h <;> first | (cases h; done) | (split at h <;> cases h; done))) | (rcases zjp_r h with h | ⟨_, h⟩ <;> first | (cases h; done) | (split at h <;> cases h; done)))
    | (rcases zaij_r h with h | ⟨_, _, _, _, _, h⟩ <;> first | (cases h; done) | (split at h <;> first | (cases h; done) | (rcases zjp_r h with h | ⟨_, h⟩ <;> (cases h; done)) | (split at h <;> first | (cases h; done) | (split at h <;> cases h; done))) | (rcases zjp_r h with h | ⟨_, h⟩ <;> first | (cases h; done) | (split at h <;> cases h; done)))
    | (rcases zjp_r h with h | ⟨_, h⟩ <;> cases h; done)
    | (rcases zlo_r h with h | ⟨_, _, h⟩ <;> first | (cases h; done) | (split at h <;> cases h; done))
    | (rcases zloI_r h with h | ⟨_, _, h⟩ <;> first | (cases h; done) | (split at h <;> cases h; done))
    | (rcases zloJ_r h with h | ⟨_, _, h⟩ <;> cases h; done)
    | (split at h <;> first | (cases h; done) | (split at h <;> first | (cases h; done) | (split at h <;> cases h; done)) | (rcases zjp_r h with h | ⟨_, h⟩ <;> cases h; done))
theorem zstep_cS {M pc len i : Nat} {ls : zL} {st : List Value} {w : zM} {cc : Nat × List Value × List Value} (h : zstep M (.invokestatic i) pc len ls st w = .inr (.inl cc)) : ∃ K, zml (M / 1000) i = some K ∧ K < 7000 ∧ zstat K = true ∧ znarg K ≤ st.length ∧ ((st.drop (znarg K)).map fun v => v.category).sum ≤ 8 ∧ cc = (K, (st.take (znarg K)).reverse, st.drop (znarg K)) := by
  unfold zstep at h
  dsimp only at h
  split at h
  · rename_i K hK
    split at h
    · rcases zi2_r h with h | ⟨_, _, _, _, h⟩
      · cases h
      · split at h <;> cases h
    · split at h
      · rcases zi2_r h with h | ⟨_, _, _, _, h⟩
        · cases h
        · split at h <;> cases h
      · split at h
        · rename_i h7
          unfold zinv at h
          split at h
          · rename_i h8
            split at h
            · rename_i h9
              cases h
              exact ⟨K, hK, h7, h8, h9.1, h9.2, rfl⟩
            · cases h
          · cases h
        · cases h
  · cases h
theorem zstep_cV {M pc len i : Nat} {ls : zL} {st : List Value} {w : zM} {cc : Nat × List Value × List Value} (h : zstep M (.invokevirtual i) pc len ls st w = .inr (.inl cc)) : ∃ K a r, zml (M / 1000) i = some K ∧ K < 7000 ∧ zstat K = false ∧ st.drop (znarg K) = .ref a :: r ∧ zTag a = K / 1000 ∧ (r.map fun v => v.category).sum ≤ 8 ∧ cc = (K, .ref a :: (st.take (znarg K)).reverse, r) := by
  unfold zstep at h
  dsimp only at h
  split at h
  · rename_i K hK
    split at h
    · rcases za1_r h with h | ⟨_, _, _, h⟩
      · cases h
      · split at h <;> cases h
    · split at h
      · rcases zai_r h with h | ⟨_, _, _, _, h⟩
        · cases h
        · split at h <;> cases h
      · split at h
        · rename_i h7
          unfold zinw at h
          split at h
          · rename_i h8
            rcases za1_r h with h | ⟨a, r, h9, h⟩
            · cases h
            · split at h
              · rename_i h10
                cases h
                exact ⟨K, a, r, hK, h7, h8, h9, h10.1, h10.2, rfl⟩
              · cases h
          · cases h
        · cases h
  · cases h
def zPc (α : Nat → Nat) (aC : Nat → ClassId) (D : va_G) (A : Nat → Prop) (adV : Nat → Nat) (L : Nat) (xs : Nat → Int32) (as : List Value) (w : zM) : Array Value → State → Prop := fun v U => v = (as.map (zv α)).toArray ∧ va_P D zcls (zws α aC w) U.heap ∧ zSt α aC D A adV L xs U U.heap
def zQc (α : Nat → Nat) (aC : Nat → ClassId) (D : va_G) (A : Nat → Prop) (L : Nat) (xs : Nat → Int32) (r : Option Value) (w : zM) : Array Value → State → Outcome → State → Prop := fun _ st oc t => oc = .returned (r.map (zv α)) ∧ va_P D zcls (zws α aC w) t.heap ∧ va_F A st t ∧ zWI L xs w
def zwsK (K : Nat) : List Cond := Cond.code (zy K) (zcode K) (zmaxl K) (zret K) :: zTbl
def zroom (d : Nat) : Room := { frames := d + 6, cells := 0, slots := 0, locals := 40 * d + 200 }
theorem zKl_mem {K : Nat} (h : K ∈ zKl.map (fun k => k.1)) : ∃ q ∈ zKl, q.1 = K := List.mem_map.mp h
section SNC
variable {p : Program} {l : Launch} {e : Env} {R : Room} {s : State} {m : MethodId} {args : Array Value} {below : List Frame} {meth : Method} {c : Code} {H : Heap} {locs : List Loc} {cells slots : Nat} {Q : State → Prop}
variable {α : Nat → Nat} {aC : Nat → ClassId} {D : va_G} {A : Nat → Prop} {adV : Nat → Nat} {L : Nat} {xs : Nat → Int32} {M d pc len : Nat} {ls : zL} {st : List Value} {w w1 : zM} {lsA : Array Slot} {r : Option Value}
theorem zPc_blind {as : List Value} : FrameBlind (zPc α aC D A adV L xs as w) := by
  rintro a U g mk ⟨q0, q1, q2⟩
  exact ⟨q0, q1, q2.go (u := U) (U := U.calling g mk a) (Vm.Alike.refl U.vm) (fun i tx b h => vk_R.same (u := U) rfl h) (fun o i b n d h hz => va_Nw.same (u := U) rfl rfl hz) (fun o i y h hz => va_Nw.same (u := U) rfl rfl hz) (Nat.le_refl _) (fun _ _ _ => rfl)⟩
theorem zPc_at {as : List Value} (C : zCx α aC D A adV L xs M d p R s m args meth c) (hP : va_P D zcls (zws α aC w) H) (hS : va_S A s.heap H locs) : ∀ U : State, U.heap = H → s.WarmedH U.vm → zPc α aC D A adV L xs as w (as.map (zv α)).toArray U := by
  obtain ⟨hx, hb, hml, hown, hts, hst, hlk, hfr, hlo⟩ := C
  intro U hU hW
  subst hU
  exact ⟨rfl, hP, hst.go hW.alike (fun i tx b h => vk_R.warm hW h) (fun o i b n d h hz => va_Nw.warmF hW hz) (fun o i y h hz => va_Nw.warmM hW hz) hS.1 hS.2.1⟩
theorem z_back {K : Nat} {a0 : Array Value} {rest : List Value} {st0 : List Value} (hr : va_Run p l e R s m args below meth c H locs cells slots 0 0 (F0 m pc lsA st0) (rest.map (zv α)) (zQc α aC D A L xs r w1 a0) A) (hS : va_S A s.heap H locs)
    (kk : ∀ (H1 : Heap) (locs1 : List Loc), va_P D zcls (zws α aC w1) H1 → va_S A s.heap H1 locs1 → zWI L xs w1 → W p l e R s m args below meth c H1 locs1 cells slots Q (F0 m (pc + 3) lsA ((zpush r rest).map (zv α)))) : W p l e R s m args below meth c H locs cells slots Q (F0 m pc lsA st0) := by
  intro T hT X
  obtain ⟨v, st₀, t, T', L', h0, X', hL', e1, e2, ⟨hv, hp, ⟨hz, hk⟩, hwi⟩, stp⟩ := hr T hT X
  cases hv
  rw [h0] at hz hk
  have hst : ∀ (r : Option Value), (r.map (zv α)).toList ++ rest.map (zv α) = (zpush r rest).map (zv α) := by
    intro r
    cases r <;> rfl
  rw [hst] at stp
  obtain ⟨t2, a1, b1⟩ := kk T'.heap (locs ++ L') (by rw [e1]; exact hp)
    ⟨Nat.le_trans hS.1 (by rw [e1]; exact hz), fun q h1 h2 => by rw [e1, hk q (Nat.lt_of_lt_of_le h1 hS.1) h2]; exact hS.2.1 q h1 h2, fun q hq => by
      rcases List.mem_append.mp hq with h | h
      · exact hS.2.2 q h
      · exact hL' q h⟩ hwi T' rfl X'
  exact ⟨t2, stp t2 a1, b1⟩
theorem z_callS {i K : Nat} (C : zCx α aC D A adV L xs M (d + 1) p R s m args meth c) (hc : cells ≤ R.cells) (hs : slots ≤ R.slots) (hP : va_P D zcls (zws α aC w) H) (hS : va_S A s.heap H locs) (hsz : lsA.size = zmaxl M) (hd : decode (zcode M) pc = .ok (.invokestatic i, 3)) (hf : zml (M / 1000) i = some K) (h7 : K < 7000) (hstt : zstat K = true) (hn : znarg K ≤ st.length) (hcat : ((st.drop (znarg K)).map fun v => v.category).sum ≤ 8)
    (hM : Met l (zy K) (zwsK K) (zroom d) (zPc α aC D A adV L xs (st.take (znarg K)).reverse w) (zQc α aC D A L xs r w1) 0 0 A)
    (kk : ∀ (H1 : Heap) (locs1 : List Loc), va_P D zcls (zws α aC w1) H1 → va_S A s.heap H1 locs1 → zWI L xs w1 → W p l e R s m args below meth c H1 locs1 cells slots Q (F0 m (pc + 3) lsA ((zpush r (st.drop (znarg K))).map (zv α)))) : W p l e R s m args below meth c H locs cells slots Q (F0 m pc lsA (st.map (zv α))) := by
  have hPc := zPc_at (as := (st.take (znarg K)).reverse) C hP hS
  obtain ⟨hx, hb, hml, hown, hts, hst, hlk, hfr, hlo⟩ := C
  obtain ⟨e1, he, e2, e3, e4⟩ := zml_mem hf
  obtain ⟨g0, g1, -⟩ := zw_ml e1 he
  rw [e2, e3, e4] at g1
  rw [e4] at g0
  obtain ⟨q, hq, rfl⟩ := zKl_mem (g0 h7)
  have k1 := zTbl_mem (zw_K q hq) rfl
  have k2 := zmg ((zw_K2 q hq).1 hstt) rfl
  obtain ⟨k3, k4, k5, k6, k7⟩ := zw_K3 q hq
  have kin : Cond.initialized (zy q.1).cls ∈ zTbl := by rw [k4]; exact zTbl_mem (zw_in _ k3) rfl
  have hstack : st.map (zv α) = (((st.take (znarg q.1)).reverse).map (zv α)).reverse ++ (st.drop (znarg q.1)).map (zv α) := by
    rw [List.map_reverse, List.reverse_reverse, ← List.map_append, List.take_append_drop]
  have hlen : (((st.take (znarg q.1)).reverse).map (zv α)).length = znarg q.1 := by
    rw [List.length_map, List.length_reverse, List.length_take]
    omega
  have hR : (zroom d).frames + 1 ≤ R.frames ∧ 8 + (zmaxl q.1 + 11) + (zroom d).locals ≤ R.locals := by
    show d + 6 + 1 ≤ R.frames ∧ 8 + (zmaxl q.1 + 11) + (40 * d + 200) ≤ R.locals
    omega
  have hG : GoodIn zTbl (zwsK q.1) := fun w hw => by
    rcases List.mem_cons.mp hw with rfl | hw
    · exact zTbl_good _ k1
    · exact zTbl_good _ hw
  refine z_back (K := q.1) (a0 := (((st.take (znarg q.1)).reverse).map (zv α)).toArray) (rest := st.drop (znarg q.1)) ?_ hS kk
  rcases g1 h7 with ⟨-, g1⟩ | ⟨-, -, g1⟩
  · exact va_runS (As := ((st.take (znarg q.1)).reverse).map (zv α)) (rest := (st.drop (znarg q.1)).map (zv α)) ⟨hx, hb, hml, hown, hts⟩ hM (va_cwS (znarg q.1) hts (fun w hw => by
      rcases List.mem_append.mp hw with hw | hw
      · simp only [List.mem_cons, List.not_mem_nil, or_false] at hw
        rcases hw with rfl | rfl | rfl
        · exact zTbl_good _ (zmg g1 rfl)
        · exact zTbl_good _ k2
        · exact zTbl_good _ kin
      · exact hG w hw) rfl rfl rfl k5 hR) ⟨zPc_blind, hPc⟩ rfl hlen hsz hstack (lv_room (by rw [zv_cats]; exact hcat)) hd ⟨hc, hs⟩
  · exact va_runSN (host := "TablesAndTips") (As := ((st.take (znarg q.1)).reverse).map (zv α)) (rest := (st.drop (znarg q.1)).map (zv α)) ⟨hx, hb, hml, hown, hts⟩ hM ⟨va_cnB (znarg q.1) hts hG rfl rfl rfl (hst.2.2.2.2.2.2.2.2 _ _ _ _ (zme (List.mem_of_getElem? g1))) (hts _ kin) k5 hR, hts _ k2, trivial⟩ ⟨zPc_blind, hPc⟩ rfl hlen hsz hstack (lv_room (by rw [zv_cats]; exact hcat)) hd ⟨hc, hs⟩
theorem z_callV {i K a : Nat} {rest : List Value} (C : zCx α aC D A adV L xs M (d + 1) p R s m args meth c) (hc : cells ≤ R.cells) (hs : slots ≤ R.slots) (hP : va_P D zcls (zws α aC w) H) (hS : va_S A s.heap H locs) (hsz : lsA.size = zmaxl M) (hd : decode (zcode M) pc = .ok (.invokevirtual i, 3)) (hf : zml (M / 1000) i = some K) (h7 : K < 7000) (hstt : zstat K = false) (hdr : st.drop (znarg K) = .ref a :: rest) (hta : zTag a = K / 1000) (hcat : (rest.map fun v => v.category).sum ≤ 8)
    (hM : Met l (zy K) (zwsK K) (zroom d) (zPc α aC D A adV L xs (.ref a :: (st.take (znarg K)).reverse) w) (zQc α aC D A L xs r w1) 0 0 A)
    (kk : ∀ (H1 : Heap) (locs1 : List Loc), va_P D zcls (zws α aC w1) H1 → va_S A s.heap H1 locs1 → zWI L xs w1 → W p l e R s m args below meth c H1 locs1 cells slots Q (F0 m (pc + 3) lsA ((zpush r rest).map (zv α)))) : W p l e R s m args below meth c H locs cells slots Q (F0 m pc lsA (st.map (zv α))) := by
  have hPc := zPc_at (as := .ref a :: (st.take (znarg K)).reverse) C hP hS
  obtain ⟨hx, hb, hml, hown, hts, hst, hlk, hfr, hlo⟩ := C
  obtain ⟨e1, he, e2, e3, e4⟩ := zml_mem hf
  obtain ⟨g0, g1, -⟩ := zw_ml e1 he
  rw [e2, e3, e4] at g1
  rw [e4] at g0
  obtain ⟨q, hq, rfl⟩ := zKl_mem (g0 h7)
  have k1 := zTbl_mem (zw_K q hq) rfl
  obtain ⟨k2, k2b⟩ := (zw_K2 q hq).2 hstt
  have k2 := zmg k2 rfl
  have k2b := zTbl_mem (List.mem_of_getElem? k2b) rfl
  obtain ⟨k3, k4, k5, k6, k7⟩ := zw_K3 q hq
  have kin : Cond.initialized (zRn (q.1 / 1000)) ∈ zTbl := zTbl_mem (zw_in _ k3) rfl
  have hstack : st.map (zv α) = (((st.take (znarg q.1)).reverse).map (zv α)).reverse ++ Value.ref (α a) :: rest.map (zv α) := by
    have h9 : Value.ref (α a) :: rest.map (zv α) = (st.drop (znarg q.1)).map (zv α) := by rw [hdr]; rfl
    rw [h9, List.map_reverse, List.reverse_reverse, ← List.map_append, List.take_append_drop]
  have hlen : (((st.take (znarg q.1)).reverse).map (zv α)).length = znarg q.1 := by
    have h8 : (st.drop (znarg q.1)).length = rest.length + 1 := by rw [hdr]; rfl
    rw [List.length_drop] at h8
    rw [List.length_map, List.length_reverse, List.length_take]
    omega
  have hR : (zroom d).frames + 1 ≤ R.frames ∧ 8 + (zmaxl q.1 + 11) + (zroom d).locals ≤ R.locals := by
    show d + 6 + 1 ≤ R.frames ∧ 8 + (zmaxl q.1 + 11) + (40 * d + 200) ≤ R.locals
    omega
  have hG : GoodIn zTbl (zwsK q.1) := fun w hw => by
    rcases List.mem_cons.mp hw with rfl | hw
    · exact zTbl_good _ k1
    · exact zTbl_good _ hw
  refine z_back (K := q.1) (a0 := (Value.ref (α a) :: ((st.take (znarg q.1)).reverse).map (zv α)).toArray) (rest := rest) ?_ hS kk
  rcases g1 h7 with ⟨-, g1⟩ | ⟨-, g2, -⟩
  · have ha : a < 80 := zTag_lt (by omega)
    exact va_runV (C := zRn (q.1 / 1000)) (b := α a) (As := ((st.take (znarg q.1)).reverse).map (zv α)) (rest := rest.map (zv α)) ⟨hx, hb, hml, hown, hts⟩ hM (cwV (znarg q.1) hts (fun w hw => by
      rcases List.mem_append.mp hw with hw | hw
      · simp only [List.mem_cons, List.not_mem_nil, or_false] at hw
        rcases hw with rfl | rfl | rfl | rfl
        · exact zTbl_good _ (zmg g1 rfl)
        · exact zTbl_good _ k2
        · exact zTbl_good _ k2b
        · exact zTbl_good _ kin
      · exact hG w hw) rfl rfl rfl ⟨k4, k5⟩ hR) ⟨zPc_blind, va_recv hst.1 hP (zcls_at _ k3) (by rw [zws_get ha, zcell_o hta k3]), hPc⟩ rfl hlen hsz hstack (lv_room (by rw [zv_cats]; exact hcat)) hd ⟨hc, hs⟩
  · rw [hstt] at g2
    cases g2
end SNC
section SND3
variable {α : Nat → Nat} {aC : Nat → ClassId} {D : va_G} {A : Nat → Prop} {adV : Nat → Nat} {L : Nat} {xs : Nat → Int32} {l : Launch}
def zSound (α : Nat → Nat) (aC : Nat → ClassId) (D : va_G) (A : Nat → Prop) (adV : Nat → Nat) (L : Nat) (xs : Nat → Int32) (l : Launch) (n : Nat) : Prop := ∀ (d M pc : Nat) (ls : zL) (st : List Value) (w : zM) (r : Option Value) (w1 : zM), zrun n d M pc ls st w = some (r, w1) → zWI L xs w →
    ∀ (p : Program) (e : Env) (R : Room) (s : State) (m : MethodId) (args : Array Value) (below : List Frame) (meth : Method) (c : Code) (H : Heap) (locs : List Loc) (cells slots : Nat) (Q : State → Prop) (lsA : Array Slot), zCx α aC D A adV L xs M d p R s m args meth c → cells ≤ R.cells → slots ≤ R.slots → va_P D zcls (zws α aC w) H → va_S A s.heap H locs → zHas α lsA (zmaxl M) ls →
      (∀ (H1 : Heap) (locs1 : List Loc) (lsB : Array Slot) (pc1 : Nat) (ins : Instr), decode (zcode M) pc1 = .ok (ins, 1) → va_P D zcls (zws α aC w1) H1 → va_S A s.heap H1 locs1 → zWI L xs w1 → ((ins = .ireturn ∧ ∃ x, r = some (.int x) ∧ (zrt M = 1 ∨ (zrt M = 2 ∧ (x = 0 ∨ x = 1)))) ∨ (ins = .lreturn ∧ ∃ x, r = some (.long x) ∧ zrt M = 3) ∨ (ins = .areturn ∧ ∃ x, r = some x ∧ zrt M = 4 ∧ zisR x = true) ∨ (ins = .return_ ∧ r = none ∧ zrt M = 0)) → W p l e R s m args below meth c H1 locs1 cells slots Q (F0 m pc1 lsB ((zpush r []).map (zv α)))) →
      W p l e R s m args below meth c H locs cells slots Q (F0 m pc lsA (st.map (zv α)))
theorem zflat_lg (as : List Value) (α : Nat → Nat) : (lg_sl (as.map (zv α))).length = (zflat as).length := by
  induction as with
  | nil => rfl
  | cons v t ih =>
    unfold lg_sl at ih ⊢
    rw [List.map_cons, List.flatMap_cons, List.length_append, ih]
    cases v <;> exact Nat.add_comm _ _
theorem zflat_args (α : Nat → Nat) : ∀ (as : List Value) (i : Nat), ∀ (j : Nat) (v : Value), (zflat as)[j]? = some (some v) → (i + j, zv α v) ∈ lv_args i (as.map (zv α)) := by
  intro as
  induction as with
  | nil => intro i j v h; cases h
  | cons u t ih =>
    intro i j v h
    rw [List.map_cons]
    unfold lv_args
    have key : (zflat (u :: t) = some u :: none :: zflat t ∧ (zv α u).category = 2) ∨ (zflat (u :: t) = some u :: zflat t ∧ (zv α u).category ≠ 2) := by
      cases u <;> first | exact Or.inl ⟨rfl, rfl⟩ | exact Or.inr ⟨rfl, fun z => by cases z⟩
    rcases key with ⟨k1, k2⟩ | ⟨k1, k2⟩
    · rw [k1] at h
      rw [if_pos k2]
      match j, h with
      | 0, h => cases h; exact List.mem_cons_self
      | 1, h => cases h
      | j + 2, h =>
        have h2 := ih (i + 2) j v h
        have e2 : i + (j + 2) = i + 2 + j := by omega
        rw [e2]
        exact List.mem_cons_of_mem _ h2
    · rw [k1] at h
      rw [if_neg k2]
      match j, h with
      | 0, h => cases h; exact List.mem_cons_self
      | j + 1, h =>
        have h2 := ih (i + 1) j v h
        have e2 : i + (j + 1) = i + 1 + j := by omega
        rw [e2]
        exact List.mem_cons_of_mem _ h2
end SND3
section SND4
variable {α : Nat → Nat} {aC : Nat → ClassId} {D : va_G} {A : Nat → Prop} {adV : Nat → Nat} {L : Nat} {xs : Nat → Int32} {l : Launch}
theorem zs_one {p : Program} {e : Env} {R : Room} {s : State} {m : MethodId} {args : Array Value} {below : List Frame} {meth : Method} {c : Code} {H : Heap} {locs : List Loc} {cells slots : Nat} {Q : State → Prop} {M d pc len : Nat} {ls : zL} {st : List Value} {w : zM} {lsA : Array Slot} {q : Nat × zL × List Value × zM} {ins : Instr} (C : zCx α aC D A adV L xs M d p R s m args meth c) (hDD : ∀ w, va_D A (zws α aC w)) (hc : cells ≤ R.cells) (hs : slots ≤ R.slots) (hP : va_P D zcls (zws α aC w) H) (hS : va_S A s.heap H locs) (hl : zHas α lsA (zmaxl M) ls) (hw : zWI L xs w) (hd : decode (zcode M) pc = .ok (ins, len)) (hL : zlen ins len = true) (hz : zstep M ins pc len ls st w = .inl q)
    (kk : ∀ (H1 : Heap) (locs1 : List Loc) (lsB : Array Slot), va_P D zcls (zws α aC q.2.2.2) H1 → va_S A s.heap H1 locs1 → zHas α lsB (zmaxl M) q.2.1 → zWI L xs q.2.2.2 → W p l e R s m args below meth c H1 locs1 cells slots Q (F0 m q.1 lsB (q.2.2.1.map (zv α)))) : W p l e R s m args below meth c H locs cells slots Q (F0 m pc lsA (st.map (zv α))) := by
  cases ins with
  | aload_n k => exact zs_aload_n C hDD hc hs hP hS hl hw hd hL hz kk
  | aload k => exact zs_aload C hDD hc hs hP hS hl hw hd hL hz kk
  | iload_n k => exact zs_iload_n C hDD hc hs hP hS hl hw hd hL hz kk
  | iload k => exact zs_iload C hDD hc hs hP hS hl hw hd hL hz kk
  | lload_n k => exact zs_lload_n C hDD hc hs hP hS hl hw hd hL hz kk
  | iconst n => exact zs_iconst C hDD hc hs hP hS hl hw hd hL hz kk
  | bipush n => exact zs_bipush C hDD hc hs hP hS hl hw hd hL hz kk
  | sipush n => exact zs_sipush C hDD hc hs hP hS hl hw hd hL hz kk
  | lconst n => exact zs_lconst C hDD hc hs hP hS hl hw hd hL hz kk
  | aconst_null => exact zs_null C hDD hc hs hP hS hl hw hd hL hz kk
  | istore_n k => exact zs_istore_n C hDD hc hs hP hS hl hw hd hL hz kk
  | istore k => exact zs_istore C hDD hc hs hP hS hl hw hd hL hz kk
  | astore_n k => exact zs_astore_n C hDD hc hs hP hS hl hw hd hL hz kk
  | astore k => exact zs_astore C hDD hc hs hP hS hl hw hd hL hz kk
  | iinc k n => exact zs_iinc C hDD hc hs hP hS hl hw hd hL hz kk
  | goto o => exact zs_goto C hDD hc hs hP hS hl hw hd hL hz kk
  | ifCond k o => exact zs_if C hDD hc hs hP hS hl hw hd hL hz kk
  | if_icmp k o => exact zs_icmp C hDD hc hs hP hS hl hw hd hL hz kk
  | ifnull o => exact zs_ifnull C hDD hc hs hP hS hl hw hd hL hz kk
  | ifnonnull o => exact zs_ifnonnull C hDD hc hs hP hS hl hw hd hL hz kk
  | tableswitch a b c2 f => exact zs_tsw C hDD hc hs hP hS hl hw hd hL hz kk
  | lookupswitch a b => exact zs_lsw C hDD hc hs hP hS hl hw hd hL hz kk
  | getfield i => exact zs_get C hDD hc hs hP hS hl hw hd hL hz kk
  | putfield i => exact zs_put C hDD hc hs hP hS hl hw hd hL hz kk
  | getstatic i => exact zs_gets C hDD hc hs hP hS hl hw hd hL hz kk
  | iaload => exact zs_iald C hDD hc hs hP hS hl hw hd hL hz kk
  | laload => exact zs_lald C hDD hc hs hP hS hl hw hd hL hz kk
  | aaload => exact zs_aald C hDD hc hs hP hS hl hw hd hL hz kk
  | iastore => exact zs_iast C hDD hc hs hP hS hl hw hd hL hz kk
  | lastore => exact zs_last C hDD hc hs hP hS hl hw hd hL hz kk
  | arraylength => exact zs_alen C hDD hc hs hP hS hl hw hd hL hz kk
  | ldc i => exact zs_ldc C hDD hc hs hP hS hl hw hd hL hz kk
  | ldc_w i => exact zs_ldcw C hDD hc hs hP hS hl hw hd hL hz kk
  | ldc2_w i => exact zs_ldc2 C hDD hc hs hP hS hl hw hd hL hz kk
  | invokestatic i => exact zs_invs C hDD hc hs hP hS hl hw hd hL hz kk
  | invokevirtual i => exact zs_invv C hDD hc hs hP hS hl hw hd hL hz kk
  | iadd => exact zs_iadd C hDD hc hs hP hS hl hw hd hL hz kk
  | isub => exact zs_isub C hDD hc hs hP hS hl hw hd hL hz kk
  | imul => exact zs_imul C hDD hc hs hP hS hl hw hd hL hz kk
  | iand => exact zs_iand C hDD hc hs hP hS hl hw hd hL hz kk
  | ior => exact zs_ior C hDD hc hs hP hS hl hw hd hL hz kk
  | ixor => exact zs_ixor C hDD hc hs hP hS hl hw hd hL hz kk
  | idiv => exact zs_idiv C hDD hc hs hP hS hl hw hd hL hz kk
  | irem => exact zs_irem C hDD hc hs hP hS hl hw hd hL hz kk
  | ishl => exact zs_ishl C hDD hc hs hP hS hl hw hd hL hz kk
  | iushr => exact zs_iushr C hDD hc hs hP hS hl hw hd hL hz kk
  | ineg => exact zs_ineg C hDD hc hs hP hS hl hw hd hL hz kk
  | i2b => exact zs_i2b C hDD hc hs hP hS hl hw hd hL hz kk
  | i2s => exact zs_i2s C hDD hc hs hP hS hl hw hd hL hz kk
  | i2l => exact zs_i2l C hDD hc hs hP hS hl hw hd hL hz kk
  | l2i => exact zs_l2i C hDD hc hs hP hS hl hw hd hL hz kk
  | land => exact zs_land C hDD hc hs hP hS hl hw hd hL hz kk
  | lor => exact zs_lor C hDD hc hs hP hS hl hw hd hL hz kk
  | lcmp => exact zs_lcmp C hDD hc hs hP hS hl hw hd hL hz kk
  | lshl => exact zs_lshl C hDD hc hs hP hS hl hw hd hL hz kk
  | dup => exact zs_dup C hDD hc hs hP hS hl hw hd hL hz kk
  | pop => exact zs_pop C hDD hc hs hP hS hl hw hd hL hz kk
  | dup_x1 => exact zs_dup_x1 C hDD hc hs hP hS hl hw hd hL hz kk
  | dup2 => exact zs_dup2 C hDD hc hs hP hS hl hw hd hL hz kk
  | ireturn =>
    exfalso
    unfold zstep at hz
    dsimp only at hz
    split at hz
    · split at hz <;> cases hz
    · cases hz
  | lreturn =>
    exfalso
    unfold zstep at hz
    dsimp only at hz
    split at hz
    · split at hz <;> cases hz
    · cases hz
  | areturn =>
    exfalso
    unfold zstep at hz
    dsimp only at hz
    split at hz
    · split at hz <;> cases hz
    · cases hz
  | return_ =>
    exfalso
    unfold zstep at hz
    dsimp only at hz
    split at hz
    · split at hz <;> cases hz
    · cases hz
  | _ => exact absurd hz (fun z => by cases z)
theorem z_met {n d K : Nat} {as : List Value} {w w1 : zM} {r : Option Value} (IH : zSound α aC D A adV L xs l n) (hK : K ∈ zKl.map (fun k => k.1)) (hrun : zcal (zrun n) d K as w = some (r, w1)) (hw : zWI L xs w) : Met l (zy K) (zwsK K) (zroom d) (zPc α aC D A adV L xs as w) (zQc α aC D A L xs r w1) 0 0 A := by
  obtain ⟨q, hq, rfl⟩ := zKl_mem hK
  obtain ⟨k3, k4, k5, k6, k7⟩ := zw_K3 q hq
  obtain ⟨t0, t1, t2, t3, t4⟩ := zw_K4 q hq
  unfold zcal at hrun
  by_cases hlen : (zflat as).length ≤ zmaxl q.1
  · rw [if_pos hlen] at hrun
    have snd := IH d q.1 0 (zent (zmaxl q.1) as) [] w r w1 hrun hw
    refine Met.ofW (cc := zcode q.1) (maxL := zmaxl q.1) (ret := zret q.1) k6 rfl ?_
    intro p e s m args below meth c s₁ B hml hv
    obtain ⟨rfl, hP, hst⟩ := hv
    have hown : s.vm.findClass (zy q.1).cls = some m.cls := findClass_of_methodNamed B.named
    rw [k4] at hown
    have hx := B.exec
    have hb := B.bytes
    have hr := B.returns
    have hlocks := B.notSynchronized
    have C : zCx α aC D A adV L xs q.1 d p (zroom d) s m ((as.map (zv α)).toArray) meth c := ⟨hx, hb, hml, hown, fun w hw => atoms_spec (ws := zwsK q.1) B.pre w (List.mem_cons_of_mem _ hw), hst, hlocks, Nat.le_refl _, Nat.le_refl _⟩
    rw [lg_entry_eq]
    have hl := lv_entry (as.map (zv α)) (n := zmaxl q.1) (by rw [zflat_lg]; exact hlen)
    have hl2 : zHas α ((lg_sl (as.map (zv α)) ++ List.replicate (zmaxl q.1 - (lg_sl (as.map (zv α))).length) Slot.unset).toArray) (zmaxl q.1) (zent (zmaxl q.1) as) := by
      refine ⟨⟨hl.1, hl.2.1, fun u hu => hl.2.2 u ?_⟩, ?_⟩
      · obtain ⟨v, h1, h2⟩ := zlv_mem.mp hu
        obtain ⟨j, u⟩ := u
        dsimp only at h1 h2
        subst h2
        have h3 : (zflat as)[j]? = some (some v) := by
          unfold zent at h1
          by_cases hj : j < (zflat as).length
          · rw [List.getElem?_append_left hj] at h1
            exact h1
          · rw [List.getElem?_append_right (by omega), List.getElem?_replicate] at h1
            split at h1 <;> cases h1
        have h4 := zflat_args α as 0 j v h3
        rw [Nat.zero_add] at h4
        exact h4
      · unfold zent
        rw [List.length_append, List.length_replicate]
        omega
    refine snd p e (zroom d) s m _ below meth c s.heap [] 0 0 _ _ C (Nat.zero_le _) (Nat.zero_le _) hP va_S.rf hl2 ?_
    intro H1 locs1 lsB pc1 ins hdec hP1 hS1 hw1 hret
    have hq9 : ∀ t : State, t.heap = H1 → s.WarmedH t.vm → zQc α aC D A L xs r w1 ((as.map (zv α)).toArray) s (.returned (r.map (zv α))) t := fun t ht hW => ⟨rfl, by rw [ht]; exact hP1, hS1.F ht, hw1⟩
    rcases hret with ⟨rfl, x, rfl, hx9⟩ | ⟨rfl, x, rfl, hx9⟩ | ⟨rfl, x, rfl, hx9, hx8⟩ | ⟨rfl, rfl, hx9⟩
    · rcases hx9 with hx9 | ⟨hx9, hx8⟩
      · exact W.iret (v := x) hx hb (by rw [hr]; exact t1 hx9) hq9 hS1.2.2 hdec
      · exact W.zret (v := x) (ty := .boolean) hx hb (by rw [hr]; exact t2 hx9) (by rcases hx8 with rfl | rfl <;> rfl) hq9 hS1.2.2 hdec
    · exact W.lret (v := x) hx hb (by rw [hr]; exact t3 hx9) hq9 hS1.2.2 hdec
    · have hv9 : zv α x = .null ∨ ∃ a, zv α x = .ref a := by
        cases x <;> first | exact Or.inl rfl | exact Or.inr ⟨_, rfl⟩ | cases hx8
      rcases t4 hx9 with h9 | h9 | h9 <;> exact W.aret (v := zv α x) hx hb (by rw [hr]; exact h9) (Or.inl ⟨_, rfl⟩) hv9 hq9 hS1.2.2 hdec
    · exact W.vret hx hb (by rw [hr]; exact t0 hx9) hq9 hS1.2.2 hdec
  · rw [if_neg hlen] at hrun
    cases hrun
theorem zsound (hDD : ∀ w, va_D A (zws α aC w)) : ∀ n, zSound α aC D A adV L xs l n := by
  intro n
  induction n with
  | zero => intro d M pc ls st w r w1 hrun; cases hrun
  | succ n ih =>
    intro d M pc ls st w r w1 hrun hw p e R s m args below meth c H locs cells slots Q lsA C hc hs hP hS hl hret
    have hgo : zgo (zrun n) d M pc ls st w = some (r, w1) := hrun
    unfold zgo at hgo
    cases hd : decode (zcode M) pc with
    | error e => rw [hd] at hgo; cases hgo
    | ok q =>
      obtain ⟨ins, len⟩ := q
      rw [hd] at hgo
      dsimp only at hgo
      by_cases hL : zlen ins len = true
      · rw [if_pos hL] at hgo
        cases hz : zstep M ins pc len ls st w with
        | inl q =>
          rw [hz] at hgo
          exact zs_one C hDD hc hs hP hS hl hw hd hL hz (fun H1 locs1 lsB hP1 hS1 hl1 hw1 => ih d M q.1 q.2.1 q.2.2.1 q.2.2.2 r w1 hgo hw1 p e R s m args below meth c H1 locs1 cells slots Q lsB C hc hs hP1 hS1 hl1 hret)
        | inr z =>
          rw [hz] at hgo
          cases z with
          | inl q =>
            dsimp only at hgo
            cases d with
            | zero => cases hgo
            | succ d =>
              dsimp only at hgo
              cases h1 : zcal (zrun n) d q.1 q.2.1 w with
              | none => rw [h1] at hgo; cases hgo
              | some q1 =>
                rw [h1] at hgo
                have hgo : zrun n (d + 1) M (pc + 3) ls (zpush q1.1 q.2.2) q1.2 = some (r, w1) := hgo
                rcases zstep_call hz with ⟨i, rfl⟩ | ⟨i, rfl⟩
                · have h3 : len = 3 := eq_of_beq hL
                  subst h3
                  obtain ⟨K, f1, f2, f3, f4, f5, rfl⟩ := zstep_cS hz
                  obtain ⟨e1, he, e2, e3, e4⟩ := zml_mem f1
                  obtain ⟨g0, -⟩ := zw_ml e1 he
                  rw [e4] at g0
                  have hM := z_met ih (g0 f2) h1 hw
                  exact z_callS C hc hs hP hS hl.1.1 hd f1 f2 f3 f4 f5 hM (fun H1 locs1 hP1 hS1 hw1 => ih (d + 1) M (pc + 3) ls _ q1.2 r w1 hgo hw1 p e R s m args below meth c H1 locs1 cells slots Q lsA C hc hs hP1 hS1 hl hret)
                · have h3 : len = 3 := eq_of_beq hL
                  subst h3
                  obtain ⟨K, a, r9, f1, f2, f3, f4, f5, f6, rfl⟩ := zstep_cV hz
                  obtain ⟨e1, he, e2, e3, e4⟩ := zml_mem f1
                  obtain ⟨g0, -⟩ := zw_ml e1 he
                  rw [e4] at g0
                  have hM := z_met ih (g0 f2) h1 hw
                  exact z_callV C hc hs hP hS hl.1.1 hd f1 f2 f3 f4 f5 f6 hM (fun H1 locs1 hP1 hS1 hw1 => ih (d + 1) M (pc + 3) ls _ q1.2 r w1 hgo hw1 p e R s m args below meth c H1 locs1 cells slots Q lsA C hc hs hP1 hS1 hl hret)
          | inr z =>
            cases z with
            | none => cases hgo
            | some v =>
              cases hgo
              rcases zstep_ret hz with ⟨rfl, x, rfl, rfl, h5⟩ | ⟨rfl, x, rfl, rfl, h5⟩ | ⟨rfl, x, rfl, rfl, h5, h6⟩ | ⟨rfl, rfl, rfl, h5⟩
              · have h3 : len = 1 := eq_of_beq hL
                subst h3
                exact hret H locs lsA pc _ hd hP hS hw (Or.inl ⟨rfl, x, rfl, h5⟩)
              · have h3 : len = 1 := eq_of_beq hL
                subst h3
                exact hret H locs lsA pc _ hd hP hS hw (Or.inr (Or.inl ⟨rfl, x, rfl, h5⟩))
              · have h3 : len = 1 := eq_of_beq hL
                subst h3
                exact hret H locs lsA pc _ hd hP hS hw (Or.inr (Or.inr (Or.inl ⟨rfl, x, rfl, h5, h6⟩)))
              · have h3 : len = 1 := eq_of_beq hL
                subst h3
                exact hret H locs lsA pc _ hd hP hS hw (Or.inr (Or.inr (Or.inr ⟨rfl, rfl, h5⟩)))
      · rw [if_neg hL] at hgo
        cases hgo
end SND4
