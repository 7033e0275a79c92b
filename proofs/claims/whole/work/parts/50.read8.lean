def rIx (L : Nat → Int32) (p : Nat) : Nat := (rBy (L p)).toNatClampNeg
def rRd (L : Nat → Int32) (z : Nat) : Nat → Nat → Nat → rHo → (Nat → Int32) → Bool × Nat × Nat × Nat × rHo × (Nat → Int32)
  | 0, k, p, H, N => (false, k, p, 0, H, N)
  | r + 1, k, p, H, N => if (rItm L H.1 H.2.1 p N).1 = true then (if (rItm L H.1 H.2.1 p N).2.1 < z then (if L (rItm L H.1 H.2.1 p N).2.1 = 59 then rRd L z r (k + 1) ((rItm L H.1 H.2.1 p N).2.1 + 1) (rTh H (rIx L p) (rItm L H.1 H.2.1 p N).2.2.2) (rItm L H.1 H.2.1 p N).2.2.2 else (false, k + 1, (rItm L H.1 H.2.1 p N).2.1, (rItm L H.1 H.2.1 p N).2.1, rTh H (rIx L p) (rItm L H.1 H.2.1 p N).2.2.2, (rItm L H.1 H.2.1 p N).2.2.2)) else (true, k + 1, (rItm L H.1 H.2.1 p N).2.1, 0, rTh H (rIx L p) (rItm L H.1 H.2.1 p N).2.2.2, (rItm L H.1 H.2.1 p N).2.2.2)) else (false, k, (rItm L H.1 H.2.1 p N).2.1, (rItm L H.1 H.2.1 p N).2.2.1, H, (rItm L H.1 H.2.1 p N).2.2.2)
theorem rItm_ok {L : Nat → Int32} {p : Nat} {H : rHo} {N : Nat → Int32} (hn : H.1 ≤ 8) (hm : H.2.1 ≤ 4) (ho : (rItm L H.1 H.2.1 p N).1 = true) : p + 1 ≤ (rItm L H.1 H.2.1 p N).2.1 ∧ (rItm L H.1 H.2.1 p N).2.1 ≤ p + 28 ∧ ∀ M, (rTh H (rIx L p) M).1 ≤ 8 ∧ (rTh H (rIx L p) M).2.1 ≤ 4 := by
  unfold rItm at ho ⊢
  unfold rIx
  rcases rBy_c (L p) with hb | ⟨i, hi, hb⟩
  · rw [if_pos hb] at ho
    cases ho
  · have hb1 : ¬ rBy (L p) = -1 := by
      rw [hb]
      rcases (by omega : i = 0 ∨ i = 1 ∨ i = 2 ∨ i = 3 ∨ i = 4) with rfl | rfl | rfl | rfl | rfl <;> decide
    rw [if_neg hb1] at ho ⊢
    have hc : (nI i).toNatClampNeg = i := nI_clamp (by omega)
    rw [hb, hc] at ho ⊢
    have hs : 2000 + i = 2000 ∨ 2000 + i = 2001 ∨ 2000 + i = 2002 ∨ 2000 + i = 2003 ∨ 2000 + i = 2004 := by omega
    have so := rStr_ok hs
    have h5 := rCnt_5 (i := i)
    by_cases hw : (rWrd L (rStr (2000 + i)) p).1 = true
    · rw [if_pos hw] at ho ⊢
      have wo := rWrd_ok _ _ hw
      by_cases hr : (i = 0 ∧ ¬ H.2.1 < 4) ∨ (i = 1 ∧ ¬ H.1 < 8)
      · rw [if_pos hr] at ho
        cases ho
      · rw [if_neg hr] at ho ⊢
        have nb := rNs_b _ _ _ _ ho
        refine ⟨by omega, by omega, fun M => ?_⟩
        unfold rTh
        by_cases h0 : i = 0
        · rw [if_pos h0]
          have : H.2.1 < 4 := by
            by_cases hh : H.2.1 < 4
            · exact hh
            · exact absurd (Or.inl ⟨h0, hh⟩) hr
          exact ⟨hn, this⟩
        · rw [if_neg h0]
          by_cases h1 : i = 1
          · rw [if_pos h1]
            have : H.1 < 8 := by
              by_cases hh : H.1 < 8
              · exact hh
              · exact absurd (Or.inr ⟨h1, hh⟩) hr
            exact ⟨this, hm⟩
          · rw [if_neg h1]
            by_cases h2 : i = 2
            · rw [if_pos h2]; exact ⟨hn, hm⟩
            · rw [if_neg h2]
              by_cases h3 : i = 3
              · rw [if_pos h3]; exact ⟨hn, hm⟩
              · rw [if_neg h3]; exact ⟨hn, hm⟩
    · rw [if_neg hw] at ho
      cases ho
section RR
variable {d h z : Nat} {Z : zM} {L : Nat → Int32} {f : Int32}
theorem r_spans {w : zM} {p : Nat} (X : rTx w h z L) (hp : p < 900) : cal d 4008 [.ref h, .int (nI p), .int 1] w = some (some (.int (if p < z then 1 else 0)), w) := by
  have q := q_spans (d := d) (w := w) (i := nI p) (n := 1) X.1
  rw [X.2.1] at q
  have hz := X.2.2.1
  have e : (0 ≤ nI p ∧ (0 : Int32) ≤ 1 ∧ 1 ≤ nI z ∧ nI p ≤ nI z - 1) ↔ p < z := by
    constructor
    · intro ⟨_, _, h1, h2⟩
      by_cases hp2 : p < z
      · exact hp2
      · exfalso
        have i1 : (1 : Int32) = nI 1 := by decide
        rw [i1] at h1
        have h3 := (nI_leI (by omega) (by omega)).mp h1
        obtain ⟨y, rfl⟩ : ∃ y, z = y + 1 := ⟨z - 1, by omega⟩
        rw [nI_pred] at h2
        have h4 := (nI_leI (by omega) (by omega)).mp h2
        omega
    · intro hp2
      obtain ⟨y, rfl⟩ : ∃ y, z = y + 1 := ⟨z - 1, by omega⟩
      refine ⟨nI_pos' (by omega), by decide, ?_, ?_⟩
      · exact nI_le (a := 1) (by omega) (by omega)
      · rw [nI_pred]
        exact nI_le (by omega) (by omega)
  by_cases hp2 : p < z
  · rw [if_pos (e.mpr hp2)] at q
    rw [if_pos hp2]
    exact q
  · rw [if_neg (fun x => hp2 (e.mp x))] at q
    rw [if_neg hp2]
    exact q
end RR
