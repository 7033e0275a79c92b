theorem zcal_mono {f g : Nat → Nat → Nat → zL → List Value → zM → Option (Option Value × zM)} (hfg : ∀ d M pc ls st w r, f d M pc ls st w = some r → g d M pc ls st w = some r) (d K : Nat) (as : List Value) (w : zM) (r : Option Value × zM) (h : zcal f d K as w = some r) : zcal g d K as w = some r := by
  unfold zcal at h ⊢
  by_cases hc : (zflat as).length ≤ zmaxl K
  · rw [if_pos hc] at h ⊢
    exact hfg _ _ _ _ _ _ _ h
  · rw [if_neg hc] at h
    cases h
theorem zgo_mono {f g : Nat → Nat → Nat → zL → List Value → zM → Option (Option Value × zM)} (hfg : ∀ d M pc ls st w r, f d M pc ls st w = some r → g d M pc ls st w = some r) (d M pc : Nat) (ls : zL) (st : List Value) (w : zM) (r : Option Value × zM) (h : zgo f d M pc ls st w = some r) : zgo g d M pc ls st w = some r := by
  unfold zgo at h ⊢
  cases hd : decode (zcode M) pc with
  | error e => rw [hd] at h; cases h
  | ok q =>
    rw [hd] at h
    dsimp only at h ⊢
    by_cases hL : zlen q.1 q.2 = true
    · rw [if_pos hL] at h ⊢
      cases hs : zstep M q.1 pc q.2 ls st w with
      | inl c => rw [hs] at h; exact hfg _ _ _ _ _ _ _ h
      | inr z =>
        rw [hs] at h
        cases z with
        | inl c =>
          dsimp only at h ⊢
          cases d with
          | zero => cases h
          | succ d =>
            dsimp only at h ⊢
            cases h1 : zcal f d c.1 c.2.1 w with
            | none => rw [h1] at h; cases h
            | some q1 =>
              rw [h1] at h
              rw [zcal_mono hfg _ _ _ _ _ h1]
              exact hfg _ _ _ _ _ _ _ h
        | inr z => cases z with
          | none => cases h
          | some v => exact h
    · rw [if_neg hL] at h
      cases h
theorem zrun_succ (n : Nat) : ∀ (d M pc : Nat) (ls : zL) (st : List Value) (w : zM) (r : Option Value × zM), zrun n d M pc ls st w = some r → zrun (n + 1) d M pc ls st w = some r := by
  induction n with
  | zero => intro d M pc ls st w r h; cases h
  | succ n ih => intro d M pc ls st w r h; exact zgo_mono ih d M pc ls st w r h
theorem zrun_le {n k : Nat} (hk : n ≤ k) (d M pc : Nat) (ls : zL) (st : List Value) (w : zM) (r : Option Value × zM) (h : zrun n d M pc ls st w = some r) : zrun k d M pc ls st w = some r := by
  induction hk with
  | refl => exact h
  | step _ ih => exact zrun_succ _ _ _ _ _ _ _ _ ih
noncomputable def den (d M pc : Nat) (ls : zL) (st : List Value) (w : zM) : Option (Option Value × zM) :=
  @dite _ (∃ (r : Option Value × zM) (n : Nat), zrun n d M pc ls st w = some r) (Classical.propDecidable _) (fun h => some (Classical.choose h)) (fun _ => none)
theorem den_iff {d M pc : Nat} {ls : zL} {st : List Value} {w : zM} {r : Option Value × zM} : den d M pc ls st w = some r ↔ ∃ n, zrun n d M pc ls st w = some r := by
  unfold den
  by_cases h : ∃ (r : Option Value × zM) (n : Nat), zrun n d M pc ls st w = some r
  · rw [dif_pos h]
    obtain ⟨k, hk⟩ := Classical.choose_spec h
    constructor
    · intro e
      rw [Option.some.inj e] at hk
      exact ⟨k, hk⟩
    · intro ⟨n, hn⟩
      have a := zrun_le (Nat.le_max_left n k) _ _ _ _ _ _ _ hn
      have b := zrun_le (Nat.le_max_right n k) _ _ _ _ _ _ _ hk
      rw [a] at b
      exact b.symm
  · rw [dif_neg h]
    constructor
    · intro e; cases e
    · intro e; exact absurd ⟨r, e⟩ h
theorem den_go (d M pc : Nat) (ls : zL) (st : List Value) (w : zM) : den d M pc ls st w = zgo den d M pc ls st w := by
  apply Option.ext
  intro r
  constructor
  · intro h
    obtain ⟨n, hn⟩ := den_iff.mp h
    cases n with
    | zero => cases hn
    | succ n => exact zgo_mono (fun d M pc ls st w r h => den_iff.mpr ⟨n, h⟩) d M pc ls st w r hn
  · intro h
    have key : ∃ n, zgo (zrun n) d M pc ls st w = some r := by
      unfold zgo at h ⊢
      cases hd : decode (zcode M) pc with
      | error e => rw [hd] at h; cases h
      | ok q =>
        rw [hd] at h
        dsimp only at h ⊢
        by_cases hL : zlen q.1 q.2 = true
        · rw [if_pos hL] at h
          simp only [if_pos hL]
          cases hs : zstep M q.1 pc q.2 ls st w with
          | inl c => rw [hs] at h; exact den_iff.mp h
          | inr z =>
            rw [hs] at h
            cases z with
            | inl c =>
              dsimp only at h ⊢
              cases d with
              | zero => cases h
              | succ d =>
                dsimp only at h ⊢
                cases h1 : zcal den d c.1 c.2.1 w with
                | none => rw [h1] at h; cases h
                | some q1 =>
                  rw [h1] at h
                  have h1' : ∃ n1, zcal (zrun n1) d c.1 c.2.1 w = some q1 := by
                    unfold zcal at h1 ⊢
                    by_cases hc : (zflat c.2.1).length ≤ zmaxl c.1
                    · rw [if_pos hc] at h1
                      simp only [if_pos hc]
                      exact den_iff.mp h1
                    · rw [if_neg hc] at h1
                      cases h1
                  obtain ⟨n1, e1⟩ := h1'
                  obtain ⟨n2, e2⟩ := den_iff.mp h
                  refine ⟨max n1 n2, ?_⟩
                  rw [zcal_mono (fun d M pc ls st w r h => zrun_le (Nat.le_max_left n1 n2) d M pc ls st w r h) _ _ _ _ _ e1]
                  exact zrun_le (Nat.le_max_right n1 n2) _ _ _ _ _ _ _ e2
            | inr z => cases z with
              | none => cases h
              | some v => exact ⟨0, h⟩
        · rw [if_neg hL] at h
          cases h
    obtain ⟨n, hn⟩ := key
    exact den_iff.mpr ⟨n + 1, hn⟩
theorem den_step {d M pc : Nat} {ls : zL} {st : List Value} {w : zM} {ins : Instr} {len : Nat} {c : Nat × zL × List Value × zM} (hd : decode (zcode M) pc = .ok (ins, len)) (hs : zstep M ins pc len ls st w = .inl c) (hL : zlen ins len = true := by rfl) : den d M pc ls st w = den d M c.1 c.2.1 c.2.2.1 c.2.2.2 := by
  rw [den_go]
  unfold zgo
  rw [hd]
  dsimp only
  rw [if_pos hL, hs]
theorem den_if {d M pc : Nat} {ls : zL} {st : List Value} {w : zM} {ins : Instr} {len : Nat} {b : Prop} {hb : Decidable b} {c c' : Nat × zL × List Value × zM} (hd : decode (zcode M) pc = .ok (ins, len)) (hs : zstep M ins pc len ls st w = if b then .inl c else .inl c') (hL : zlen ins len = true := by rfl) : den d M pc ls st w = if b then den d M c.1 c.2.1 c.2.2.1 c.2.2.2 else den d M c'.1 c'.2.1 c'.2.2.1 c'.2.2.2 := by
  by_cases h : b
  · rw [if_pos h] at hs ⊢
    exact den_step hd hs hL
  · rw [if_neg h] at hs ⊢
    exact den_step hd hs hL
noncomputable def cal (d M : Nat) (as : List Value) (w : zM) : Option (Option Value × zM) := zcal den d M as w
theorem den_call {d M pc : Nat} {ls : zL} {st : List Value} {w : zM} {ins : Instr} {len : Nat} {c : Nat × List Value × List Value} (hd : decode (zcode M) pc = .ok (ins, len)) (hs : zstep M ins pc len ls st w = .inr (.inl c)) (hL : zlen ins len = true := by rfl) : den (d + 1) M pc ls st w = (cal d c.1 c.2.1 w).bind (fun r => den (d + 1) M (pc + 3) ls (zpush r.1 c.2.2) r.2) := by
  rw [den_go]
  unfold zgo
  rw [hd]
  dsimp only
  rw [if_pos hL, hs]
  rfl
theorem den_ret {d M pc : Nat} {ls : zL} {st : List Value} {w : zM} {ins : Instr} {len : Nat} {v : Option Value} (hd : decode (zcode M) pc = .ok (ins, len)) (hs : zstep M ins pc len ls st w = .inr (.inr (some v))) (hL : zlen ins len = true := by rfl) : den d M pc ls st w = some (v, w) := by
  rw [den_go]
  unfold zgo
  rw [hd]
  dsimp only
  rw [if_pos hL, hs]

theorem den_aload_n {d M pc : Nat} {ls : zL} {st : List Value} {w : zM} {k : Fin 4} {v : Value} (hd : decode (zcode M) pc = .ok (.aload_n k, 1)) (hl : ls[k.val]? = some (some v)) (hv : zisR v = true) : den d M pc ls st w = den d M (pc + 1) ls (v :: st) w := den_step (ls := ls) (st := st) (w := w) (c := ((pc + 1), ls, (v :: st), w)) hd (by show zlo ls k.val _ = _; unfold zlo; rw [hl]; exact if_pos hv)
theorem den_aload {d M pc : Nat} {ls : zL} {st : List Value} {w : zM} {k : Nat} {v : Value} (hd : decode (zcode M) pc = .ok (.aload k, 2)) (hl : ls[k]? = some (some v)) (hv : zisR v = true) : den d M pc ls st w = den d M (pc + 2) ls (v :: st) w := den_step (ls := ls) (st := st) (w := w) (c := ((pc + 2), ls, (v :: st), w)) hd (by show zlo ls k _ = _; unfold zlo; rw [hl]; exact if_pos hv)
theorem den_iload_n {d M pc : Nat} {ls : zL} {st : List Value} {w : zM} {k : Fin 4} {x : Int32} (hd : decode (zcode M) pc = .ok (.iload_n k, 1)) (hl : ls[k.val]? = some (some (.int x))) : den d M pc ls st w = den d M (pc + 1) ls (.int x :: st) w := den_step (ls := ls) (st := st) (w := w) (c := ((pc + 1), ls, (.int x :: st), w)) hd (by show zloI ls k.val _ = _; unfold zloI; rw [hl])
theorem den_iload {d M pc : Nat} {ls : zL} {st : List Value} {w : zM} {k : Nat} {x : Int32} (hd : decode (zcode M) pc = .ok (.iload k, 2)) (hl : ls[k]? = some (some (.int x))) : den d M pc ls st w = den d M (pc + 2) ls (.int x :: st) w := den_step (ls := ls) (st := st) (w := w) (c := ((pc + 2), ls, (.int x :: st), w)) hd (by show zloI ls k _ = _; unfold zloI; rw [hl])
theorem den_lload_n {d M pc : Nat} {ls : zL} {st : List Value} {w : zM} {k : Fin 4} {x : Int64} (hd : decode (zcode M) pc = .ok (.lload_n k, 1)) (hl : ls[k.val]? = some (some (.long x))) : den d M pc ls st w = den d M (pc + 1) ls (.long x :: st) w := den_step (ls := ls) (st := st) (w := w) (c := ((pc + 1), ls, (.long x :: st), w)) hd (by show zloJ ls k.val _ = _; unfold zloJ; rw [hl])
theorem den_iconst {d M pc : Nat} {ls : zL} {st : List Value} {w : zM} {n : Int} {x : Int32} (hd : decode (zcode M) pc = .ok (.iconst n, 1)) (hx : Int32.ofInt n = x) : den d M pc ls st w = den d M (pc + 1) ls (.int x :: st) w := den_step (ls := ls) (st := st) (w := w) (c := ((pc + 1), ls, (.int x :: st), w)) hd (by rw [← hx]; rfl)
theorem den_bipush {d M pc : Nat} {ls : zL} {st : List Value} {w : zM} {n : Int} {x : Int32} (hd : decode (zcode M) pc = .ok (.bipush n, 2)) (hx : (Int8.ofInt n).toInt32 = x) : den d M pc ls st w = den d M (pc + 2) ls (.int x :: st) w := den_step (ls := ls) (st := st) (w := w) (c := ((pc + 2), ls, (.int x :: st), w)) hd (by rw [← hx]; rfl)
theorem den_sipush {d M pc : Nat} {ls : zL} {st : List Value} {w : zM} {n : Int} {x : Int32} (hd : decode (zcode M) pc = .ok (.sipush n, 3)) (hx : (Int16.ofInt n).toInt32 = x) : den d M pc ls st w = den d M (pc + 3) ls (.int x :: st) w := den_step (ls := ls) (st := st) (w := w) (c := ((pc + 3), ls, (.int x :: st), w)) hd (by rw [← hx]; rfl)
theorem den_lconst {d M pc : Nat} {ls : zL} {st : List Value} {w : zM} {n : Fin 2} {x : Int64} (hd : decode (zcode M) pc = .ok (.lconst n, 1)) (hx : Int64.ofNat n.val = x) : den d M pc ls st w = den d M (pc + 1) ls (.long x :: st) w := den_step (ls := ls) (st := st) (w := w) (c := ((pc + 1), ls, (.long x :: st), w)) hd (by rw [← hx]; rfl)
theorem den_null {d M pc : Nat} {ls : zL} {st : List Value} {w : zM}  (hd : decode (zcode M) pc = .ok (.aconst_null, 1))  : den d M pc ls st w = den d M (pc + 1) ls (.null :: st) w := den_step (ls := ls) (st := st) (w := w) (c := ((pc + 1), ls, (.null :: st), w)) hd rfl
theorem den_istore_n {d M pc : Nat} {ls : zL} {st : List Value} {w : zM} {k : Fin 4} {x : Int32} (hd : decode (zcode M) pc = .ok (.istore_n k, 1)) (hk : k.val < ls.length) : den d M pc ls (.int x :: st) w = den d M (pc + 1) (zset ls k.val (.int x)) st w := den_step (ls := ls) (st := (.int x :: st)) (w := w) (c := ((pc + 1), (zset ls k.val (.int x)), st, w)) hd (if_pos hk)
theorem den_istore {d M pc : Nat} {ls : zL} {st : List Value} {w : zM} {k : Nat} {x : Int32} (hd : decode (zcode M) pc = .ok (.istore k, 2)) (hk : k < ls.length) : den d M pc ls (.int x :: st) w = den d M (pc + 2) (zset ls k (.int x)) st w := den_step (ls := ls) (st := (.int x :: st)) (w := w) (c := ((pc + 2), (zset ls k (.int x)), st, w)) hd (if_pos hk)
theorem den_astore_n {d M pc : Nat} {ls : zL} {st : List Value} {w : zM} {k : Fin 4} {v : Value} (hd : decode (zcode M) pc = .ok (.astore_n k, 1)) (hk : k.val < ls.length) (hv : zisR v = true) : den d M pc ls (v :: st) w = den d M (pc + 1) (zset ls k.val v) st w := den_step (ls := ls) (st := (v :: st)) (w := w) (c := ((pc + 1), (zset ls k.val v), st, w)) hd (if_pos ⟨hv, hk⟩)
theorem den_astore {d M pc : Nat} {ls : zL} {st : List Value} {w : zM} {k : Nat} {v : Value} (hd : decode (zcode M) pc = .ok (.astore k, 2)) (hk : k < ls.length) (hv : zisR v = true) : den d M pc ls (v :: st) w = den d M (pc + 2) (zset ls k v) st w := den_step (ls := ls) (st := (v :: st)) (w := w) (c := ((pc + 2), (zset ls k v), st, w)) hd (if_pos ⟨hv, hk⟩)
theorem den_iinc {d M pc : Nat} {ls : zL} {st : List Value} {w : zM} {k : Nat} {n : Int} {x y : Int32} (hd : decode (zcode M) pc = .ok (.iinc k n, 3)) (hl : ls[k]? = some (some (.int x))) (hk : k < ls.length) (hy : Int32.ofInt n = y) : den d M pc ls st w = den d M (pc + 3) (zset ls k (.int (x + y))) st w := den_step (ls := ls) (st := st) (w := w) (c := ((pc + 3), (zset ls k (.int (x + y))), st, w)) hd (by rw [← hy]; show zloI ls k _ = _; unfold zloI; rw [hl]; exact if_pos hk)
theorem den_iadd {d M pc : Nat} {ls : zL} {st : List Value} {w : zM} {x y : Int32} (hd : decode (zcode M) pc = .ok (.iadd, 1))  : den d M pc ls (.int y :: .int x :: st) w = den d M (pc + 1) ls (.int (x + y) :: st) w := den_step (ls := ls) (st := (.int y :: .int x :: st)) (w := w) (c := ((pc + 1), ls, (.int (x + y) :: st), w)) hd rfl
theorem den_isub {d M pc : Nat} {ls : zL} {st : List Value} {w : zM} {x y : Int32} (hd : decode (zcode M) pc = .ok (.isub, 1))  : den d M pc ls (.int y :: .int x :: st) w = den d M (pc + 1) ls (.int (x - y) :: st) w := den_step (ls := ls) (st := (.int y :: .int x :: st)) (w := w) (c := ((pc + 1), ls, (.int (x - y) :: st), w)) hd rfl
theorem den_imul {d M pc : Nat} {ls : zL} {st : List Value} {w : zM} {x y : Int32} (hd : decode (zcode M) pc = .ok (.imul, 1))  : den d M pc ls (.int y :: .int x :: st) w = den d M (pc + 1) ls (.int (x * y) :: st) w := den_step (ls := ls) (st := (.int y :: .int x :: st)) (w := w) (c := ((pc + 1), ls, (.int (x * y) :: st), w)) hd rfl
theorem den_iand {d M pc : Nat} {ls : zL} {st : List Value} {w : zM} {x y : Int32} (hd : decode (zcode M) pc = .ok (.iand, 1))  : den d M pc ls (.int y :: .int x :: st) w = den d M (pc + 1) ls (.int (x &&& y) :: st) w := den_step (ls := ls) (st := (.int y :: .int x :: st)) (w := w) (c := ((pc + 1), ls, (.int (x &&& y) :: st), w)) hd rfl
theorem den_ior {d M pc : Nat} {ls : zL} {st : List Value} {w : zM} {x y : Int32} (hd : decode (zcode M) pc = .ok (.ior, 1))  : den d M pc ls (.int y :: .int x :: st) w = den d M (pc + 1) ls (.int (x ||| y) :: st) w := den_step (ls := ls) (st := (.int y :: .int x :: st)) (w := w) (c := ((pc + 1), ls, (.int (x ||| y) :: st), w)) hd rfl
theorem den_ixor {d M pc : Nat} {ls : zL} {st : List Value} {w : zM} {x y : Int32} (hd : decode (zcode M) pc = .ok (.ixor, 1))  : den d M pc ls (.int y :: .int x :: st) w = den d M (pc + 1) ls (.int (x ^^^ y) :: st) w := den_step (ls := ls) (st := (.int y :: .int x :: st)) (w := w) (c := ((pc + 1), ls, (.int (x ^^^ y) :: st), w)) hd rfl
theorem den_ishl {d M pc : Nat} {ls : zL} {st : List Value} {w : zM} {x y : Int32} (hd : decode (zcode M) pc = .ok (.ishl, 1))  : den d M pc ls (.int y :: .int x :: st) w = den d M (pc + 1) ls (.int (x <<< (y &&& 31)) :: st) w := den_step (ls := ls) (st := (.int y :: .int x :: st)) (w := w) (c := ((pc + 1), ls, (.int (x <<< (y &&& 31)) :: st), w)) hd rfl
theorem den_iushr {d M pc : Nat} {ls : zL} {st : List Value} {w : zM} {x y : Int32} (hd : decode (zcode M) pc = .ok (.iushr, 1))  : den d M pc ls (.int y :: .int x :: st) w = den d M (pc + 1) ls (.int ((x.toUInt32 >>> (y.toUInt32 &&& Int32.toUInt32 31)).toInt32) :: st) w := den_step (ls := ls) (st := (.int y :: .int x :: st)) (w := w) (c := ((pc + 1), ls, (.int ((x.toUInt32 >>> (y.toUInt32 &&& Int32.toUInt32 31)).toInt32) :: st), w)) hd rfl
theorem den_idiv {d M pc : Nat} {ls : zL} {st : List Value} {w : zM} {x y : Int32} (hd : decode (zcode M) pc = .ok (.idiv, 1)) (hy : ¬ y = 0) : den d M pc ls (.int y :: .int x :: st) w = den d M (pc + 1) ls (.int (x / y) :: st) w := den_step (ls := ls) (st := (.int y :: .int x :: st)) (w := w) (c := ((pc + 1), ls, (.int (x / y) :: st), w)) hd (if_neg hy)
theorem den_irem {d M pc : Nat} {ls : zL} {st : List Value} {w : zM} {x y : Int32} (hd : decode (zcode M) pc = .ok (.irem, 1)) (hy : ¬ y = 0) : den d M pc ls (.int y :: .int x :: st) w = den d M (pc + 1) ls (.int (x - x / y * y) :: st) w := den_step (ls := ls) (st := (.int y :: .int x :: st)) (w := w) (c := ((pc + 1), ls, (.int (x - x / y * y) :: st), w)) hd (if_neg hy)
theorem den_ineg {d M pc : Nat} {ls : zL} {st : List Value} {w : zM} {x : Int32} (hd : decode (zcode M) pc = .ok (.ineg, 1))  : den d M pc ls (.int x :: st) w = den d M (pc + 1) ls (.int (-x) :: st) w := den_step (ls := ls) (st := (.int x :: st)) (w := w) (c := ((pc + 1), ls, (.int (-x) :: st), w)) hd rfl
theorem den_i2b {d M pc : Nat} {ls : zL} {st : List Value} {w : zM} {x : Int32} (hd : decode (zcode M) pc = .ok (.i2b, 1))  : den d M pc ls (.int x :: st) w = den d M (pc + 1) ls (.int x.toInt8.toInt32 :: st) w := den_step (ls := ls) (st := (.int x :: st)) (w := w) (c := ((pc + 1), ls, (.int x.toInt8.toInt32 :: st), w)) hd rfl
theorem den_i2s {d M pc : Nat} {ls : zL} {st : List Value} {w : zM} {x : Int32} (hd : decode (zcode M) pc = .ok (.i2s, 1))  : den d M pc ls (.int x :: st) w = den d M (pc + 1) ls (.int x.toInt16.toInt32 :: st) w := den_step (ls := ls) (st := (.int x :: st)) (w := w) (c := ((pc + 1), ls, (.int x.toInt16.toInt32 :: st), w)) hd rfl
theorem den_i2l {d M pc : Nat} {ls : zL} {st : List Value} {w : zM} {x : Int32} (hd : decode (zcode M) pc = .ok (.i2l, 1))  : den d M pc ls (.int x :: st) w = den d M (pc + 1) ls (.long x.toInt64 :: st) w := den_step (ls := ls) (st := (.int x :: st)) (w := w) (c := ((pc + 1), ls, (.long x.toInt64 :: st), w)) hd rfl
theorem den_l2i {d M pc : Nat} {ls : zL} {st : List Value} {w : zM} {x : Int64} (hd : decode (zcode M) pc = .ok (.l2i, 1))  : den d M pc ls (.long x :: st) w = den d M (pc + 1) ls (.int x.toInt32 :: st) w := den_step (ls := ls) (st := (.long x :: st)) (w := w) (c := ((pc + 1), ls, (.int x.toInt32 :: st), w)) hd rfl
theorem den_land {d M pc : Nat} {ls : zL} {st : List Value} {w : zM} {x y : Int64} (hd : decode (zcode M) pc = .ok (.land, 1))  : den d M pc ls (.long y :: .long x :: st) w = den d M (pc + 1) ls (.long (x &&& y) :: st) w := den_step (ls := ls) (st := (.long y :: .long x :: st)) (w := w) (c := ((pc + 1), ls, (.long (x &&& y) :: st), w)) hd rfl
theorem den_lor {d M pc : Nat} {ls : zL} {st : List Value} {w : zM} {x y : Int64} (hd : decode (zcode M) pc = .ok (.lor, 1))  : den d M pc ls (.long y :: .long x :: st) w = den d M (pc + 1) ls (.long (x ||| y) :: st) w := den_step (ls := ls) (st := (.long y :: .long x :: st)) (w := w) (c := ((pc + 1), ls, (.long (x ||| y) :: st), w)) hd rfl
theorem den_lcmp {d M pc : Nat} {ls : zL} {st : List Value} {w : zM} {x y : Int64} (hd : decode (zcode M) pc = .ok (.lcmp, 1))  : den d M pc ls (.long y :: .long x :: st) w = den d M (pc + 1) ls (.int (lg_cmp x y) :: st) w := den_step (ls := ls) (st := (.long y :: .long x :: st)) (w := w) (c := ((pc + 1), ls, (.int (lg_cmp x y) :: st), w)) hd rfl
theorem den_lshl {d M pc : Nat} {ls : zL} {st : List Value} {w : zM} {x : Int64} {y : Int32} (hd : decode (zcode M) pc = .ok (.lshl, 1))  : den d M pc ls (.int y :: .long x :: st) w = den d M (pc + 1) ls (.long (x <<< (y.toInt64 &&& 63)) :: st) w := den_step (ls := ls) (st := (.int y :: .long x :: st)) (w := w) (c := ((pc + 1), ls, (.long (x <<< (y.toInt64 &&& 63)) :: st), w)) hd rfl
theorem den_dup {d M pc : Nat} {ls : zL} {st : List Value} {w : zM} {v : Value} (hd : decode (zcode M) pc = .ok (.dup, 1)) (hv : zcl2 v = true) : den d M pc ls (v :: st) w = den d M (pc + 1) ls (v :: v :: st) w := den_step (ls := ls) (st := (v :: st)) (w := w) (c := ((pc + 1), ls, (v :: v :: st), w)) hd (if_pos hv)
theorem den_pop {d M pc : Nat} {ls : zL} {st : List Value} {w : zM} {v : Value} (hd : decode (zcode M) pc = .ok (.pop, 1)) (hv : zcl2 v = true) : den d M pc ls (v :: st) w = den d M (pc + 1) ls st w := den_step (ls := ls) (st := (v :: st)) (w := w) (c := ((pc + 1), ls, st, w)) hd (if_pos hv)
theorem den_dup_x1 {d M pc : Nat} {ls : zL} {st : List Value} {w : zM} {v u : Value} (hd : decode (zcode M) pc = .ok (.dup_x1, 1)) (hv : zcl2 v = true) (hu : zcl2 u = true) : den d M pc ls (v :: u :: st) w = den d M (pc + 1) ls (v :: u :: v :: st) w := den_step (ls := ls) (st := (v :: u :: st)) (w := w) (c := ((pc + 1), ls, (v :: u :: v :: st), w)) hd (if_pos ⟨hv, hu⟩)
theorem den_dup2 {d M pc : Nat} {ls : zL} {st : List Value} {w : zM} {v u : Value} (hd : decode (zcode M) pc = .ok (.dup2, 1)) (hv : zcl2 v = true) (hu : zcl2 u = true) : den d M pc ls (v :: u :: st) w = den d M (pc + 1) ls (v :: u :: v :: u :: st) w := den_step (ls := ls) (st := (v :: u :: st)) (w := w) (c := ((pc + 1), ls, (v :: u :: v :: u :: st), w)) hd (if_pos ⟨hv, hu⟩)
theorem zjp_at {pc t : Nat} {off : Int} {k : Nat → zR} (ht : (pc : Int) + off = (t : Int)) : zjp pc off k = k t := by
  unfold zjp
  rw [ht, if_pos (Int.natCast_nonneg t), Int.toNat_natCast]
theorem den_goto {d M pc : Nat} {ls : zL} {st : List Value} {w : zM} {off : Int} {t : Nat} (hd : decode (zcode M) pc = .ok (.goto off, 3)) (ht : (pc : Int) + off = (t : Int)) : den d M pc ls st w = den d M t ls st w := den_step (ls := ls) (st := st) (w := w) (c := (t, ls, st, w)) hd (by unfold zstep; dsimp only; rw [zjp_at ht])
theorem den_if_eq {d M pc : Nat} {ls : zL} {st : List Value} {w : zM} {off : Int} {t : Nat} {x : Int32} (hd : decode (zcode M) pc = .ok (.ifCond .eq off, 3)) (ht : (pc : Int) + off = (t : Int)) : den d M pc ls (.int x :: st) w = if x = 0 then den d M t ls st w else den d M (pc + 3) ls st w := den_if (ls := ls) (st := (.int x :: st)) (w := w) (b := x = 0) (c := (t, ls, st, w)) (c' := (pc + 3, ls, st, w)) hd (by unfold zstep; dsimp only; unfold zi1; dsimp only; rw [zjp_at ht]; unfold zcmp; simp only [decide_eq_true_eq])
theorem den_icmp_eq {d M pc : Nat} {ls : zL} {st : List Value} {w : zM} {off : Int} {t : Nat} {x y : Int32} (hd : decode (zcode M) pc = .ok (.if_icmp .eq off, 3)) (ht : (pc : Int) + off = (t : Int)) : den d M pc ls (.int y :: .int x :: st) w = if x = y then den d M t ls st w else den d M (pc + 3) ls st w := den_if (ls := ls) (st := (.int y :: .int x :: st)) (w := w) (b := x = y) (c := (t, ls, st, w)) (c' := (pc + 3, ls, st, w)) hd (by unfold zstep; dsimp only; unfold zi2; dsimp only; rw [zjp_at ht]; unfold zcmp; simp only [decide_eq_true_eq])
theorem den_if_ne {d M pc : Nat} {ls : zL} {st : List Value} {w : zM} {off : Int} {t : Nat} {x : Int32} (hd : decode (zcode M) pc = .ok (.ifCond .ne off, 3)) (ht : (pc : Int) + off = (t : Int)) : den d M pc ls (.int x :: st) w = if ¬ x = 0 then den d M t ls st w else den d M (pc + 3) ls st w := den_if (ls := ls) (st := (.int x :: st)) (w := w) (b := ¬ x = 0) (c := (t, ls, st, w)) (c' := (pc + 3, ls, st, w)) hd (by unfold zstep; dsimp only; unfold zi1; dsimp only; rw [zjp_at ht]; unfold zcmp; simp only [decide_eq_true_eq])
theorem den_icmp_ne {d M pc : Nat} {ls : zL} {st : List Value} {w : zM} {off : Int} {t : Nat} {x y : Int32} (hd : decode (zcode M) pc = .ok (.if_icmp .ne off, 3)) (ht : (pc : Int) + off = (t : Int)) : den d M pc ls (.int y :: .int x :: st) w = if ¬ x = y then den d M t ls st w else den d M (pc + 3) ls st w := den_if (ls := ls) (st := (.int y :: .int x :: st)) (w := w) (b := ¬ x = y) (c := (t, ls, st, w)) (c' := (pc + 3, ls, st, w)) hd (by unfold zstep; dsimp only; unfold zi2; dsimp only; rw [zjp_at ht]; unfold zcmp; simp only [decide_eq_true_eq])
theorem den_if_lt {d M pc : Nat} {ls : zL} {st : List Value} {w : zM} {off : Int} {t : Nat} {x : Int32} (hd : decode (zcode M) pc = .ok (.ifCond .lt off, 3)) (ht : (pc : Int) + off = (t : Int)) : den d M pc ls (.int x :: st) w = if x < 0 then den d M t ls st w else den d M (pc + 3) ls st w := den_if (ls := ls) (st := (.int x :: st)) (w := w) (b := x < 0) (c := (t, ls, st, w)) (c' := (pc + 3, ls, st, w)) hd (by unfold zstep; dsimp only; unfold zi1; dsimp only; rw [zjp_at ht]; unfold zcmp; simp only [decide_eq_true_eq])
theorem den_icmp_lt {d M pc : Nat} {ls : zL} {st : List Value} {w : zM} {off : Int} {t : Nat} {x y : Int32} (hd : decode (zcode M) pc = .ok (.if_icmp .lt off, 3)) (ht : (pc : Int) + off = (t : Int)) : den d M pc ls (.int y :: .int x :: st) w = if x < y then den d M t ls st w else den d M (pc + 3) ls st w := den_if (ls := ls) (st := (.int y :: .int x :: st)) (w := w) (b := x < y) (c := (t, ls, st, w)) (c' := (pc + 3, ls, st, w)) hd (by unfold zstep; dsimp only; unfold zi2; dsimp only; rw [zjp_at ht]; unfold zcmp; simp only [decide_eq_true_eq])
theorem den_if_ge {d M pc : Nat} {ls : zL} {st : List Value} {w : zM} {off : Int} {t : Nat} {x : Int32} (hd : decode (zcode M) pc = .ok (.ifCond .ge off, 3)) (ht : (pc : Int) + off = (t : Int)) : den d M pc ls (.int x :: st) w = if 0 ≤ x then den d M t ls st w else den d M (pc + 3) ls st w := den_if (ls := ls) (st := (.int x :: st)) (w := w) (b := 0 ≤ x) (c := (t, ls, st, w)) (c' := (pc + 3, ls, st, w)) hd (by unfold zstep; dsimp only; unfold zi1; dsimp only; rw [zjp_at ht]; unfold zcmp; simp only [decide_eq_true_eq])
theorem den_icmp_ge {d M pc : Nat} {ls : zL} {st : List Value} {w : zM} {off : Int} {t : Nat} {x y : Int32} (hd : decode (zcode M) pc = .ok (.if_icmp .ge off, 3)) (ht : (pc : Int) + off = (t : Int)) : den d M pc ls (.int y :: .int x :: st) w = if y ≤ x then den d M t ls st w else den d M (pc + 3) ls st w := den_if (ls := ls) (st := (.int y :: .int x :: st)) (w := w) (b := y ≤ x) (c := (t, ls, st, w)) (c' := (pc + 3, ls, st, w)) hd (by unfold zstep; dsimp only; unfold zi2; dsimp only; rw [zjp_at ht]; unfold zcmp; simp only [decide_eq_true_eq])
theorem den_if_gt {d M pc : Nat} {ls : zL} {st : List Value} {w : zM} {off : Int} {t : Nat} {x : Int32} (hd : decode (zcode M) pc = .ok (.ifCond .gt off, 3)) (ht : (pc : Int) + off = (t : Int)) : den d M pc ls (.int x :: st) w = if 0 < x then den d M t ls st w else den d M (pc + 3) ls st w := den_if (ls := ls) (st := (.int x :: st)) (w := w) (b := 0 < x) (c := (t, ls, st, w)) (c' := (pc + 3, ls, st, w)) hd (by unfold zstep; dsimp only; unfold zi1; dsimp only; rw [zjp_at ht]; unfold zcmp; simp only [decide_eq_true_eq])
theorem den_icmp_gt {d M pc : Nat} {ls : zL} {st : List Value} {w : zM} {off : Int} {t : Nat} {x y : Int32} (hd : decode (zcode M) pc = .ok (.if_icmp .gt off, 3)) (ht : (pc : Int) + off = (t : Int)) : den d M pc ls (.int y :: .int x :: st) w = if y < x then den d M t ls st w else den d M (pc + 3) ls st w := den_if (ls := ls) (st := (.int y :: .int x :: st)) (w := w) (b := y < x) (c := (t, ls, st, w)) (c' := (pc + 3, ls, st, w)) hd (by unfold zstep; dsimp only; unfold zi2; dsimp only; rw [zjp_at ht]; unfold zcmp; simp only [decide_eq_true_eq])
theorem den_if_le {d M pc : Nat} {ls : zL} {st : List Value} {w : zM} {off : Int} {t : Nat} {x : Int32} (hd : decode (zcode M) pc = .ok (.ifCond .le off, 3)) (ht : (pc : Int) + off = (t : Int)) : den d M pc ls (.int x :: st) w = if x ≤ 0 then den d M t ls st w else den d M (pc + 3) ls st w := den_if (ls := ls) (st := (.int x :: st)) (w := w) (b := x ≤ 0) (c := (t, ls, st, w)) (c' := (pc + 3, ls, st, w)) hd (by unfold zstep; dsimp only; unfold zi1; dsimp only; rw [zjp_at ht]; unfold zcmp; simp only [decide_eq_true_eq])
theorem den_icmp_le {d M pc : Nat} {ls : zL} {st : List Value} {w : zM} {off : Int} {t : Nat} {x y : Int32} (hd : decode (zcode M) pc = .ok (.if_icmp .le off, 3)) (ht : (pc : Int) + off = (t : Int)) : den d M pc ls (.int y :: .int x :: st) w = if x ≤ y then den d M t ls st w else den d M (pc + 3) ls st w := den_if (ls := ls) (st := (.int y :: .int x :: st)) (w := w) (b := x ≤ y) (c := (t, ls, st, w)) (c' := (pc + 3, ls, st, w)) hd (by unfold zstep; dsimp only; unfold zi2; dsimp only; rw [zjp_at ht]; unfold zcmp; simp only [decide_eq_true_eq])
theorem den_ifnull_N {d M pc : Nat} {ls : zL} {st : List Value} {w : zM} {off : Int} {t : Nat} (hd : decode (zcode M) pc = .ok (.ifnull off, 3)) (ht : (pc : Int) + off = (t : Int)) : den d M pc ls (.null :: st) w = den d M t ls st w := den_step (ls := ls) (st := (.null :: st)) (w := w) (c := (t, ls, st, w)) hd (by unfold zstep; dsimp only; rw [zjp_at ht])
theorem den_ifnull_R {d M pc : Nat} {ls : zL} {st : List Value} {w : zM} {off : Int} {a : Nat} (hd : decode (zcode M) pc = .ok (.ifnull off, 3))  : den d M pc ls (.ref a :: st) w = den d M (pc + 3) ls st w := den_step (ls := ls) (st := (.ref a :: st)) (w := w) (c := ((pc + 3), ls, st, w)) hd rfl
theorem den_ifnonnull_N {d M pc : Nat} {ls : zL} {st : List Value} {w : zM} {off : Int} (hd : decode (zcode M) pc = .ok (.ifnonnull off, 3))  : den d M pc ls (.null :: st) w = den d M (pc + 3) ls st w := den_step (ls := ls) (st := (.null :: st)) (w := w) (c := ((pc + 3), ls, st, w)) hd rfl
theorem den_ifnonnull_R {d M pc : Nat} {ls : zL} {st : List Value} {w : zM} {off : Int} {t : Nat} {a : Nat} (hd : decode (zcode M) pc = .ok (.ifnonnull off, 3)) (ht : (pc : Int) + off = (t : Int)) : den d M pc ls (.ref a :: st) w = den d M t ls st w := den_step (ls := ls) (st := (.ref a :: st)) (w := w) (c := (t, ls, st, w)) hd (by unfold zstep; dsimp only; rw [zjp_at ht])
def zchn (x : Int32) (ks : List (Int × Nat)) (t0 : Nat) : Nat := match ks with
  | [] => t0
  | q :: l => if x.toInt = q.1 then q.2 else zchn x l t0
theorem zswt_chn (x : Int32) (pc : Nat) (dflt : Int) (t0 : Nat) (h0 : (pc : Int) + dflt = (t0 : Int)) : ∀ (offs : List Int) (lo : Int) (ks : List (Int × Nat)), ks.map (fun q => q.1) = (List.range offs.length).map (fun j : Nat => lo + (j : Int)) → ks.map (fun q => (q.2 : Int)) = offs.map (fun o => (pc : Int) + o) → (pc : Int) + zswt x lo offs dflt = (zchn x ks t0 : Int) := by
  intro offs
  induction offs with
  | nil =>
    intro lo ks h1 h2
    cases ks with
    | nil => exact h0
    | cons a l => simp at h2
  | cons a l ih =>
    intro lo ks h1 h2
    cases ks with
    | nil => simp at h2
    | cons q ks =>
      simp only [List.map_cons, List.cons.injEq] at h2
      simp only [List.map_cons, List.length_cons, List.range_succ_eq_map, List.map_map, List.cons.injEq] at h1
      unfold zswt zchn
      have e1 : q.1 = lo := by simpa using h1.1
      rw [e1]
      by_cases h : x.toInt = lo
      · rw [if_pos h, if_pos h]; exact h2.1.symm
      · rw [if_neg h, if_neg h]
        refine ih (lo + 1) ks ?_ h2.2
        rw [h1.2]
        apply List.map_congr_left
        intro j _
        simp only [Function.comp_apply]
        omega
theorem den_tsw {d M pc : Nat} {ls : zL} {st : List Value} {w : zM} {dflt lo hi : Int} {offs : Array Int} {len : Nat} {x : Int32} {t0 : Nat} {ks : List (Int × Nat)} (hd : decode (zcode M) pc = .ok (.tableswitch dflt lo hi offs, len)) (hz : hi + 1 = lo + offs.size) (h0 : (pc : Int) + dflt = (t0 : Int)) (h1 : ks.map (fun q => q.1) = (List.range offs.toList.length).map (fun j : Nat => lo + (j : Int))) (h2 : ks.map (fun q => (q.2 : Int)) = offs.toList.map (fun o => (pc : Int) + o)) : den d M pc ls (.int x :: st) w = den d M (zchn x ks t0) ls st w := den_step (ls := ls) (st := (.int x :: st)) (w := w) (c := ((zchn x ks t0), ls, st, w)) hd (by unfold zstep; dsimp only; unfold zi1; dsimp only; rw [if_pos hz, zjp_at (zswt_chn x pc dflt t0 h0 offs.toList lo ks h1 h2)])
theorem zswl_chn (x : Int32) (pc : Nat) (dflt : Int) (t0 : Nat) (h0 : (pc : Int) + dflt = (t0 : Int)) : ∀ (ps : List (Int × Int)) (ks : List (Int × Nat)), ks.map (fun q => (q.1, (q.2 : Int))) = ps.map (fun o => (o.1, (pc : Int) + o.2)) → (pc : Int) + zswl x ps dflt = (zchn x ks t0 : Int) := by
  intro ps
  induction ps with
  | nil =>
    intro ks h
    cases ks with
    | nil => exact h0
    | cons a l => simp at h
  | cons a l ih =>
    intro ks h
    cases ks with
    | nil => simp at h
    | cons q ks =>
      simp only [List.map_cons, List.cons.injEq, Prod.mk.injEq] at h
      unfold zswl zchn
      rw [h.1.1]
      by_cases hx : x.toInt = a.1
      · rw [if_pos hx, if_pos hx]; exact h.1.2.symm
      · rw [if_neg hx, if_neg hx]; exact ih ks h.2
theorem den_lsw {d M pc : Nat} {ls : zL} {st : List Value} {w : zM} {dflt : Int} {ps : Array (Int × Int)} {len : Nat} {x : Int32} {t0 : Nat} {ks : List (Int × Nat)} (hd : decode (zcode M) pc = .ok (.lookupswitch dflt ps, len)) (hz : (ps.toList.zip (ps.toList.drop 1)).all (fun (a, next) => a.1 < next.1) = true) (h0 : (pc : Int) + dflt = (t0 : Int)) (h1 : ks.map (fun q => (q.1, (q.2 : Int))) = ps.toList.map (fun o => (o.1, (pc : Int) + o.2))) : den d M pc ls (.int x :: st) w = den d M (zchn x ks t0) ls st w := den_step (ls := ls) (st := (.int x :: st)) (w := w) (c := ((zchn x ks t0), ls, st, w)) hd (by unfold zstep; dsimp only; unfold zi1; dsimp only; rw [if_pos hz, zjp_at (zswl_chn x pc dflt t0 h0 ps.toList ks h1)])
theorem den_ch1 {d M t0 : Nat} {ls : zL} {st : List Value} {w : zM} {x : Int32} {n : Int} {t : Nat} {y : Int32} {ks : List (Int × Nat)} (hy : Int32.ofInt n = y) (hn : y.toInt = n) : den d M (zchn x ((n, t) :: ks) t0) ls st w = if x = y then den d M t ls st w else den d M (zchn x ks t0) ls st w := by
  have e : x.toInt = n ↔ x = y := by rw [← hn]; exact Int32.toInt_inj
  show den d M (if x.toInt = n then t else zchn x ks t0) ls st w = _
  by_cases h : x = y
  · rw [if_pos (e.mpr h), if_pos h]
  · rw [if_neg (fun z => h (e.mp z)), if_neg h]
theorem den_getI {d M pc : Nat} {ls : zL} {st : List Value} {w : zM} {i ci k a : Nat} (hd : decode (zcode M) pc = .ok (.getfield i, 3)) (hf : zfl (M / 1000) i = some (ci, k)) (hk : zfk ci k ≠ 2) (ht : zTag a = ci) : den d M pc ls (.ref a :: st) w = den d M (pc + 3) ls (.int (w.1 a k) :: st) w := den_step (ls := ls) (st := (.ref a :: st)) (w := w) (c := ((pc + 3), ls, (.int (w.1 a k) :: st), w)) hd (by show (match zfl (M / 1000) i with | some q => _ | none => _) = _; rw [hf]; dsimp only; rw [if_pos ht]; unfold zgf; rw [if_neg hk])
theorem den_getR {d M pc : Nat} {ls : zL} {st : List Value} {w : zM} {i ci k a : Nat} (hd : decode (zcode M) pc = .ok (.getfield i, 3)) (hf : zfl (M / 1000) i = some (ci, k)) (hk : zfk ci k = 2) (ht : zTag a = ci) : den d M pc ls (.ref a :: st) w = den d M (pc + 3) ls (.ref (zref a k) :: st) w := den_step (ls := ls) (st := (.ref a :: st)) (w := w) (c := ((pc + 3), ls, (.ref (zref a k) :: st), w)) hd (by show (match zfl (M / 1000) i with | some q => _ | none => _) = _; rw [hf]; dsimp only; rw [if_pos ht]; unfold zgf; rw [if_pos hk])
theorem den_put {d M pc : Nat} {ls : zL} {st : List Value} {w : zM} {i ci k a : Nat} {x : Int32} (hd : decode (zcode M) pc = .ok (.putfield i, 3)) (hf : zfl (M / 1000) i = some (ci, k)) (hk : zfk ci k = 0) (ht : zTag a = ci) : den d M pc ls (.int x :: .ref a :: st) w = den d M (pc + 3) ls st (zui w a k x) := den_step (ls := ls) (st := (.int x :: .ref a :: st)) (w := w) (c := ((pc + 3), ls, st, (zui w a k x))) hd (by show (match zfl (M / 1000) i with | some q => _ | none => _) = _; rw [hf]; dsimp only; rw [if_pos ⟨ht, Or.inl hk⟩])
theorem den_putZ {d M pc : Nat} {ls : zL} {st : List Value} {w : zM} {i ci k a : Nat} {x : Int32} (hd : decode (zcode M) pc = .ok (.putfield i, 3)) (hf : zfl (M / 1000) i = some (ci, k)) (hk : zfk ci k = 1) (ht : zTag a = ci) (hx : x = 0 ∨ x = 1) : den d M pc ls (.int x :: .ref a :: st) w = den d M (pc + 3) ls st (zui w a k x) := den_step (ls := ls) (st := (.int x :: .ref a :: st)) (w := w) (c := ((pc + 3), ls, st, (zui w a k x))) hd (by show (match zfl (M / 1000) i with | some q => _ | none => _) = _; rw [hf]; dsimp only; rw [if_pos ⟨ht, Or.inr ⟨hk, hx⟩⟩])
theorem den_gets {d M pc : Nat} {ls : zL} {st : List Value} {w : zM} {i t : Nat} (hd : decode (zcode M) pc = .ok (.getstatic i, 3)) (hf : zsl (M / 1000) i = some t) : den d M pc ls st w = den d M (pc + 3) ls (.ref t :: st) w := den_step (ls := ls) (st := st) (w := w) (c := ((pc + 3), ls, (.ref t :: st), w)) hd (by show (match zsl (M / 1000) i with | some q => _ | none => _) = _; rw [hf])
theorem den_iald {d M pc : Nat} {ls : zL} {st : List Value} {w : zM} {a : Nat} {i : Int32} (hd : decode (zcode M) pc = .ok (.iaload, 1)) (ht : zTag a = 10 ∨ zTag a = 20) (hi : zis i (zLen a) = true) : den d M pc ls (.int i :: .ref a :: st) w = den d M (pc + 1) ls (.int (zld w a i.toNatClampNeg) :: st) w := den_step (ls := ls) (st := (.int i :: .ref a :: st)) (w := w) (c := ((pc + 1), ls, (.int (zld w a i.toNatClampNeg) :: st), w)) hd (if_pos ⟨ht, hi⟩)
theorem den_ialdS {d M pc : Nat} {ls : zL} {st : List Value} {w : zM} {a : Nat} {i : Int32} (hd : decode (zcode M) pc = .ok (.iaload, 1)) (ht : zTag a = 21) (hi : zisS w i = true) : den d M pc ls (.int i :: .ref a :: st) w = den d M (pc + 1) ls (.int (w.1 a i.toNatClampNeg) :: st) w := den_step (ls := ls) (st := (.int i :: .ref a :: st)) (w := w) (c := ((pc + 1), ls, (.int (w.1 a i.toNatClampNeg) :: st), w)) hd ((if_neg (fun h => by rw [ht] at h; omega)).trans (if_pos ⟨ht, hi⟩))
theorem den_lald {d M pc : Nat} {ls : zL} {st : List Value} {w : zM} {a : Nat} {i : Int32} (hd : decode (zcode M) pc = .ok (.laload, 1)) (ht : zTag a = 11) (hi : zis i (zLen a) = true) : den d M pc ls (.int i :: .ref a :: st) w = den d M (pc + 1) ls (.long (w.2 a i.toNatClampNeg) :: st) w := den_step (ls := ls) (st := (.int i :: .ref a :: st)) (w := w) (c := ((pc + 1), ls, (.long (w.2 a i.toNatClampNeg) :: st), w)) hd (if_pos ⟨ht, hi⟩)
theorem den_aald {d M pc : Nat} {ls : zL} {st : List Value} {w : zM} {a : Nat} {i : Int32} (hd : decode (zcode M) pc = .ok (.aaload, 1)) (ht : zTag a = 12) (hi : zis i (zLen a) = true) : den d M pc ls (.int i :: .ref a :: st) w = den d M (pc + 1) ls (.ref (zref a i.toNatClampNeg) :: st) w := den_step (ls := ls) (st := (.int i :: .ref a :: st)) (w := w) (c := ((pc + 1), ls, (.ref (zref a i.toNatClampNeg) :: st), w)) hd (if_pos ⟨ht, hi⟩)
theorem den_iast {d M pc : Nat} {ls : zL} {st : List Value} {w : zM} {a : Nat} {i x : Int32} (hd : decode (zcode M) pc = .ok (.iastore, 1)) (ht : zTag a = 10) (hi : zis i (zLen a) = true) : den d M pc ls (.int x :: .int i :: .ref a :: st) w = den d M (pc + 1) ls st (zui w a i.toNatClampNeg x) := den_step (ls := ls) (st := (.int x :: .int i :: .ref a :: st)) (w := w) (c := ((pc + 1), ls, st, (zui w a i.toNatClampNeg x))) hd (if_pos ⟨ht, hi⟩)
theorem den_last {d M pc : Nat} {ls : zL} {st : List Value} {w : zM} {a : Nat} {i : Int32} {x : Int64} (hd : decode (zcode M) pc = .ok (.lastore, 1)) (ht : zTag a = 11) (hi : zis i (zLen a) = true) : den d M pc ls (.long x :: .int i :: .ref a :: st) w = den d M (pc + 1) ls st (zul w a i.toNatClampNeg x) := den_step (ls := ls) (st := (.long x :: .int i :: .ref a :: st)) (w := w) (c := ((pc + 1), ls, st, (zul w a i.toNatClampNeg x))) hd (if_pos ⟨ht, hi⟩)
theorem den_alen {d M pc : Nat} {ls : zL} {st : List Value} {w : zM} {a : Nat} (hd : decode (zcode M) pc = .ok (.arraylength, 1)) (ht : zTag a = 10 ∨ zTag a = 11 ∨ zTag a = 12 ∨ zTag a = 20) : den d M pc ls (.ref a :: st) w = den d M (pc + 1) ls (.int (Int32.ofNat (zLen a)) :: st) w := den_step (ls := ls) (st := (.ref a :: st)) (w := w) (c := ((pc + 1), ls, (.int (Int32.ofNat (zLen a)) :: st), w)) hd (if_pos ht)
theorem den_alenS {d M pc : Nat} {ls : zL} {st : List Value} {w : zM} {a : Nat} (hd : decode (zcode M) pc = .ok (.arraylength, 1)) (ht : zTag a = 21) : den d M pc ls (.ref a :: st) w = den d M (pc + 1) ls (.int (w.1 998 0) :: st) w := den_step (ls := ls) (st := (.ref a :: st)) (w := w) (c := ((pc + 1), ls, (.int (w.1 998 0) :: st), w)) hd ((if_neg (fun h => by rw [ht] at h; omega)).trans (if_pos ht))
theorem den_ldc {d M pc : Nat} {ls : zL} {st : List Value} {w : zM} {i : Nat} {v : Value} (hd : decode (zcode M) pc = .ok (.ldc i, 2)) (hf : zcs (M / 1000) i = some v) : den d M pc ls st w = den d M (pc + 2) ls (v :: st) w := den_step (ls := ls) (st := st) (w := w) (c := ((pc + 2), ls, (v :: st), w)) hd (by show (match zcs (M / 1000) i with | some q => _ | none => _) = _; rw [hf])
theorem den_ldcw {d M pc : Nat} {ls : zL} {st : List Value} {w : zM} {i : Nat} {x : Int32} (hd : decode (zcode M) pc = .ok (.ldc_w i, 3)) (hf : zcs (M / 1000) i = some (.int x)) : den d M pc ls st w = den d M (pc + 3) ls (.int x :: st) w := den_step (ls := ls) (st := st) (w := w) (c := ((pc + 3), ls, (.int x :: st), w)) hd (by show (match zcs (M / 1000) i with | some (.int x) => _ | _ => _) = _; rw [hf])
theorem den_ldc2 {d M pc : Nat} {ls : zL} {st : List Value} {w : zM} {i : Nat} {x : Int64} (hd : decode (zcode M) pc = .ok (.ldc2_w i, 3)) (hf : zc2 (M / 1000) i = some x) : den d M pc ls st w = den d M (pc + 3) ls (.long x :: st) w := den_step (ls := ls) (st := st) (w := w) (c := ((pc + 3), ls, (.long x :: st), w)) hd (by show (match zc2 (M / 1000) i with | some q => _ | none => _) = _; rw [hf])
def imax (x y : Int32) : Int32 := if x < y then y else x
def imin (x y : Int32) : Int32 := if y < x then y else x
theorem den_max {d M pc : Nat} {ls : zL} {st : List Value} {w : zM} {i : Nat} {x y : Int32} (hd : decode (zcode M) pc = .ok (.invokestatic i, 3)) (hf : zml (M / 1000) i = some 9001) (hr : (st.map fun v => v.category).sum ≤ 8) : den d M pc ls (.int y :: .int x :: st) w = den d M (pc + 3) ls (.int (imax x y) :: st) w := den_step (ls := ls) (st := (.int y :: .int x :: st)) (w := w) (c := ((pc + 3), ls, (.int (if x < y then y else x) :: st), w)) hd (by show (match zml (M / 1000) i with | some K => _ | none => _) = _; rw [hf]; dsimp only; rw [if_pos rfl]; exact if_pos hr)
theorem den_min {d M pc : Nat} {ls : zL} {st : List Value} {w : zM} {i : Nat} {x y : Int32} (hd : decode (zcode M) pc = .ok (.invokestatic i, 3)) (hf : zml (M / 1000) i = some 9002) (hr : (st.map fun v => v.category).sum ≤ 8) : den d M pc ls (.int y :: .int x :: st) w = den d M (pc + 3) ls (.int (imin x y) :: st) w := den_step (ls := ls) (st := (.int y :: .int x :: st)) (w := w) (c := ((pc + 3), ls, (.int (if y < x then y else x) :: st), w)) hd (by show (match zml (M / 1000) i with | some K => _ | none => _) = _; rw [hf]; dsimp only; rw [if_neg (by decide), if_pos rfl]; exact if_pos hr)
theorem den_slen {d M pc : Nat} {ls : zL} {st : List Value} {w : zM} {i a : Nat} (hd : decode (zcode M) pc = .ok (.invokevirtual i, 3)) (hf : zml (M / 1000) i = some 9003) (hr : (st.map fun v => v.category).sum ≤ 8) (ht : zTag a = 22) : den d M pc ls (.ref a :: st) w = den d M (pc + 3) ls (.int (Int32.ofNat (zLen a)) :: st) w := den_step (ls := ls) (st := (.ref a :: st)) (w := w) (c := ((pc + 3), ls, (.int (Int32.ofNat (zLen a)) :: st), w)) hd (by show (match zml (M / 1000) i with | some K => _ | none => _) = _; rw [hf]; dsimp only; rw [if_pos rfl]; exact if_pos ⟨ht, hr⟩)
theorem den_charAt {d M pc : Nat} {ls : zL} {st : List Value} {w : zM} {i a : Nat} {j : Int32} (hd : decode (zcode M) pc = .ok (.invokevirtual i, 3)) (hf : zml (M / 1000) i = some 9004) (hr : (st.map fun v => v.category).sum ≤ 8) (ht : zTag a = 22) (hj : zis j (zLen a) = true) : den d M pc ls (.int j :: .ref a :: st) w = den d M (pc + 3) ls (.int ((zsrL.getD (a - 2000) []).getD j.toNatClampNeg 0) :: st) w := den_step (ls := ls) (st := (.int j :: .ref a :: st)) (w := w) (c := ((pc + 3), ls, (.int ((zsrL.getD (a - 2000) []).getD j.toNatClampNeg 0) :: st), w)) hd (by show (match zml (M / 1000) i with | some K => _ | none => _) = _; rw [hf]; dsimp only; rw [if_neg (by decide), if_pos rfl]; exact if_pos ⟨ht, hj, hr⟩)
theorem zcat2 (v : Value) : v.category ≤ 2 := by cases v <;> exact Nat.le_of_ble_eq_true rfl
theorem zcatn : ∀ (r : List Value), (r.map fun v => v.category).sum ≤ 2 * r.length := by
  intro r
  induction r with
  | nil => exact Nat.le_refl _
  | cons v l ih =>
    have := zcat2 v
    simp only [List.map_cons, List.sum_cons, List.length_cons]
    omega
theorem zcat4 {r : List Value} (h : r.length ≤ 4) : (r.map fun v => v.category).sum ≤ 8 := by
  have := zcatn r
  omega
theorem den_invS {d M pc : Nat} {ls : zL} {st : List Value} {w : zM} {i K n : Nat} {as rest : List Value} (hd : decode (zcode M) pc = .ok (.invokestatic i, 3)) (hf : zml (M / 1000) i = some K) (h7 : K < 7000) (hst : zstat K = true) (hn : znarg K = n) (h1 : n ≤ st.length) (h2 : (st.take n).reverse = as) (h3 : st.drop n = rest) (h4 : (rest.map fun v => v.category).sum ≤ 8) : den (d + 1) M pc ls st w = (cal d K as w).bind (fun r => den (d + 1) M (pc + 3) ls (zpush r.1 rest) r.2) := den_call (ls := ls) (st := st) (w := w) (c := (K, as, rest)) hd (by show (match zml (M / 1000) i with | some K => _ | none => _) = _; rw [hf]; dsimp only; rw [if_neg (by omega), if_neg (by omega), if_pos h7]; unfold zinv; rw [if_pos hst, hn, h3, if_pos ⟨h1, h4⟩, h2])
theorem den_invV {d M pc : Nat} {ls : zL} {st : List Value} {w : zM} {i K n a : Nat} {as rest : List Value} (hd : decode (zcode M) pc = .ok (.invokevirtual i, 3)) (hf : zml (M / 1000) i = some K) (h7 : K < 7000) (hst : zstat K = false) (hn : znarg K = n) (h2 : (st.take n).reverse = as) (h3 : st.drop n = .ref a :: rest) (h4 : (rest.map fun v => v.category).sum ≤ 8) (ht : zTag a = K / 1000) : den (d + 1) M pc ls st w = (cal d K (.ref a :: as) w).bind (fun r => den (d + 1) M (pc + 3) ls (zpush r.1 rest) r.2) := den_call (ls := ls) (st := st) (w := w) (c := (K, .ref a :: as, rest)) hd (by show (match zml (M / 1000) i with | some K => _ | none => _) = _; rw [hf]; dsimp only; rw [if_neg (by omega), if_neg (by omega), if_pos h7]; unfold zinw; rw [if_pos hst, hn, h3]; unfold za1; dsimp only; rw [if_pos ⟨ht, h4⟩, h2])
theorem den_iret {d M pc : Nat} {ls : zL} {w : zM} {x : Int32} (hd : decode (zcode M) pc = .ok (.ireturn, 1)) (h : zrt M = 1) : den d M pc ls [.int x] w = some (some (.int x), w) := den_ret (ls := ls) (st := [.int x]) (w := w) hd (if_pos (Or.inl h))
theorem den_zret {d M pc : Nat} {ls : zL} {w : zM} {x : Int32} (hd : decode (zcode M) pc = .ok (.ireturn, 1)) (h : zrt M = 2) (hx : x = 0 ∨ x = 1) : den d M pc ls [.int x] w = some (some (.int x), w) := den_ret (ls := ls) (st := [.int x]) (w := w) hd (if_pos (Or.inr ⟨h, hx⟩))
theorem den_lret {d M pc : Nat} {ls : zL} {w : zM} {x : Int64} (hd : decode (zcode M) pc = .ok (.lreturn, 1)) (h : zrt M = 3) : den d M pc ls [.long x] w = some (some (.long x), w) := den_ret (ls := ls) (st := [.long x]) (w := w) hd (if_pos h)
theorem den_aret {d M pc : Nat} {ls : zL} {w : zM} {v : Value} (hd : decode (zcode M) pc = .ok (.areturn, 1)) (h : zrt M = 4) (hv : zisR v = true) : den d M pc ls [v] w = some (some v, w) := den_ret (ls := ls) (st := [v]) (w := w) hd (if_pos ⟨h, hv⟩)
theorem den_vret {d M pc : Nat} {ls : zL} {w : zM} (hd : decode (zcode M) pc = .ok (.return_, 1)) (h : zrt M = 0) : den d M pc ls [] w = some (none, w) := den_ret (ls := ls) (st := []) (w := w) hd (if_pos h)

theorem cal_in {d M n : Nat} {as : List Value} {w : zM} (hn : zmaxl M = n) (h : (zflat as).length ≤ n) : cal d M as w = den d M 0 (zent n as) [] w := by
  subst hn
  exact if_pos h
