def zKe (w w2 : zM) : Prop := w2.1 998 = w.1 998 ∧ w2.1 999 = w.1 999
theorem zKe_r (w : zM) : zKe w w := ⟨rfl, rfl⟩
theorem zKe_t {w w1 w2 : zM} (A : zKe w w1) (B : zKe w1 w2) : zKe w w2 := ⟨B.1.trans A.1, B.2.trans A.2⟩
theorem zKe_i {w : zM} {a k : Nat} {v : Int32} (h : zTag a ≠ 99 ∧ zTag a ≠ 21) : zKe w (zui w a k v) := by
  have n1 : 998 ≠ a := fun e => h.1 (by rw [← e]; decide)
  have n2 : 999 ≠ a := fun e => h.2 (by rw [← e]; decide)
  exact ⟨zi_n _ n1, zi_n _ n2⟩
theorem zfl_lt {o i : Nat} {q : Nat × Nat} (h : zfl o i = some q) : q.1 < 7 := by
  obtain ⟨e, he, h1, h2, h3, h4⟩ := zfl_mem h
  rw [← h3]
  exact (zw_fl e he).2.1
theorem zstep_keep {M pc len : Nat} {ins : Instr} {ls : zL} {st : List Value} {w : zM} {q : Nat × zL × List Value × zM} (hz : zstep M ins pc len ls st w = .inl q) : zKe w q.2.2.2 := by
  unfold zstep at hz
  split at hz
  all_goals (try unfold zlo at hz)
  all_goals (try unfold zloI at hz)
  all_goals (try unfold zloJ at hz)
  all_goals (try unfold zi1 at hz)
  all_goals (try unfold zi2 at hz)
  all_goals (try unfold zj1 at hz)
  all_goals (try unfold zj2 at hz)
  all_goals (try unfold zij at hz)
  all_goals (try unfold za1 at hz)
  all_goals (try unfold zai at hz)
  all_goals (try unfold zia at hz)
  all_goals (try unfold zaii at hz)
  all_goals (try unfold zaij at hz)
  all_goals (try unfold zjp at hz)
  all_goals (try unfold zinv at hz)
  all_goals (try unfold zinw at hz)
  all_goals (repeat' split at hz)
  all_goals first | (cases hz; done) | (cases hz; exact ⟨rfl, rfl⟩) | skip
  all_goals (try dsimp only at hz)
  all_goals (try unfold za1 at hz)
  all_goals (repeat' split at hz)
  all_goals (try dsimp only at hz)
  all_goals (repeat' split at hz)
  all_goals first | (cases hz; done) | (cases hz; exact ⟨rfl, rfl⟩) | skip
  · rename_i h1 h2
    have h := zfl_lt h1
    cases hz
    exact zKe_i (by rw [h2.1]; omega)
  · rename_i h2
    cases hz
    exact zKe_i (by rw [h2.1]; omega)
theorem zrun_keep : ∀ n d M pc ls st w r w1, zrun n d M pc ls st w = some (r, w1) → zKe w w1 := by
  intro n
  induction n with
  | zero => intro d M pc ls st w r w1 h; cases h
  | succ n ih =>
    intro d M pc ls st w r w1 hrun
    have hgo : zgo (zrun n) d M pc ls st w = some (r, w1) := hrun
    unfold zgo at hgo
    cases hd : decode (zcode M) pc with
    | error e => rw [hd] at hgo; cases hgo
    | ok q =>
      obtain ⟨ins, len⟩ := q
      rw [hd] at hgo
      dsimp only at hgo
      by_cases hL : zlen ins len = true
      · rw [if_pos hL] at hgo
        cases hz : zstep M ins pc len ls st w with
        | inl q =>
          rw [hz] at hgo
          exact zKe_t (zstep_keep hz) (ih _ _ _ _ _ _ _ _ hgo)
        | inr z =>
          rw [hz] at hgo
          cases z with
          | inl q =>
            dsimp only at hgo
            cases d with
            | zero => cases hgo
            | succ d =>
              dsimp only at hgo
              cases h1 : zcal (zrun n) d q.1 q.2.1 w with
              | none => rw [h1] at hgo; cases hgo
              | some q1 =>
                rw [h1] at hgo
                have hgo : zrun n (d + 1) M (pc + 3) ls (zpush q1.1 q.2.2) q1.2 = some (r, w1) := hgo
                unfold zcal at h1
                by_cases hlen : (zflat q.2.1).length ≤ zmaxl q.1
                · rw [if_pos hlen] at h1
                  exact zKe_t (ih _ _ _ _ _ _ q1.1 q1.2 h1) (ih _ _ _ _ _ _ _ _ hgo)
                · rw [if_neg hlen] at h1
                  cases h1
          | inr z =>
            cases z with
            | none => cases hgo
            | some v =>
              cases hgo
              exact zKe_r _
      · rw [if_neg hL] at hgo
        cases hgo
theorem den_keep {d M pc : Nat} {ls : zL} {st : List Value} {w w1 : zM} {r : Option Value} (h : den d M pc ls st w = some (r, w1)) : zKe w w1 := by
  obtain ⟨n, hn⟩ := den_iff.mp h
  exact zrun_keep n _ _ _ _ _ _ _ _ hn
theorem cal_keep {d M : Nat} {as : List Value} {w w1 : zM} {r : Option Value} (h : cal d M as w = some (r, w1)) : zKe w w1 := by
  unfold cal zcal at h
  by_cases hlen : (zflat as).length ≤ zmaxl M
  · rw [if_pos hlen] at h
    exact den_keep h
  · rw [if_neg hlen] at h
    cases h
