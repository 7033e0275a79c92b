abbrev rHo : Type := Nat × Nat × (Nat → Int32) × (Nat → Int32) × (Nat → Int32)
def wD (Z : zM) (H : rHo) : zM := zuA (zuA (zuA (zuA Z 26 (upd (upd (Z.1 26) 3 (nI H.1)) 4 (nI H.2.1))) 27 H.2.2.1) 28 H.2.2.2.1) 29 H.2.2.2.2
theorem wD_26 (Z : zM) (H : rHo) : (wD Z H).1 26 = upd (upd (Z.1 26) 3 (nI H.1)) 4 (nI H.2.1) := by
  unfold wD
  rw [zA_n _ _ (by decide), zA_n _ _ (by decide), zA_n _ _ (by decide), zA_s]
theorem wD_27 (Z : zM) (H : rHo) : (wD Z H).1 27 = H.2.2.1 := by
  unfold wD
  rw [zA_n _ _ (by decide), zA_n _ _ (by decide), zA_s]
theorem wD_28 (Z : zM) (H : rHo) : (wD Z H).1 28 = H.2.2.2.1 := by
  unfold wD
  rw [zA_n _ _ (by decide), zA_s]
theorem wD_29 (Z : zM) (H : rHo) : (wD Z H).1 29 = H.2.2.2.2 := by
  unfold wD
  rw [zA_s]
theorem wD_C {Z : zM} {H : rHo} (hn : H.1 ≤ 8) (hm : H.2.1 ≤ 4) : zHc (wD Z H) 26 H.1 H.2.1 := ⟨Or.inr (Or.inr (Or.inr rfl)), by rw [wD_26]; rfl, hn, by rw [wD_26]; rfl, hm⟩
theorem wD_X {Z : zM} {H : rHo} {h z : Nat} {L : Nat → Int32} (X : rTx Z h z L) : rTx (wD Z H) h z L := rTx_u (rTx_u (rTx_u (rTx_u X (by decide)) (by decide)) (by decide)) (by decide)
def rTh (H : rHo) (i : Nat) (N : Nat → Int32) : rHo := if i = 0 then (H.1, H.2.1 + 1, H.2.2.1, sWtr H.2.2.2.1 H.2.1 (N 0) (N 1) (N 2), H.2.2.2.2) else if i = 1 then (H.1 + 1, H.2.1, upd (sGst H.2.2.1 H.1 (N 0) (N 1) (N 2) (N 3)) (5 * H.1 + 4) (N 4), H.2.2.2.1, H.2.2.2.2) else if i = 2 then (H.1, H.2.1, H.2.2.1, H.2.2.2.1, upd H.2.2.2.2 0 (N 0)) else if i = 3 then (H.1, H.2.1, H.2.2.1, H.2.2.2.1, upd H.2.2.2.2 1 (N 0)) else (H.1, H.2.1, H.2.2.1, H.2.2.2.1, upd (upd (upd H.2.2.2.2 2 (N 0)) 3 (N 1)) 4 (N 2))
theorem rTl_wD (Z : zM) (H : rHo) (i : Nat) (N : Nat → Int32) : rTl (wD Z H) H.1 H.2.1 i N = wD Z (rTh H i N) := by
  unfold rTl rTh
  by_cases h0 : i = 0
  · rw [if_pos h0, if_pos h0]
    unfold sAdW
    rw [wD_26, wD_28]
    unfold wD
    dsimp only
    rw [zA_c _ (a := 29) (b := 26) _ _ (by decide), zA_c _ (a := 28) (b := 26) _ _ (by decide), zA_c _ (a := 27) (b := 26) _ _ (by decide), zA_A]
    rw [zA_c _ (a := 29) (b := 28) _ _ (by decide), zA_A, upd_u]
  · rw [if_neg h0, if_neg h0]
    by_cases h1 : i = 1
    · rw [if_pos h1, if_pos h1]
      unfold sAdT
      rw [wD_26, wD_27]
      unfold wD
      dsimp only
      rw [zA_c _ (a := 29) (b := 26) _ _ (by decide), zA_c _ (a := 28) (b := 26) _ _ (by decide), zA_c _ (a := 27) (b := 26) _ _ (by decide), zA_A]
      rw [zA_c _ (a := 29) (b := 27) _ _ (by decide), zA_c _ (a := 28) (b := 27) _ _ (by decide), zA_A]
      have e : upd (upd (upd (Z.1 26) 3 (nI H.1)) 4 (nI H.2.1)) 3 (nI (H.1 + 1)) = upd (upd (Z.1 26) 3 (nI (H.1 + 1))) 4 (nI H.2.1) := by
        funext k
        unfold upd
        by_cases h3 : k = 3
        · subst h3; rfl
        · rw [if_neg h3, if_neg h3, if_neg h3]
      rw [e]
    · rw [if_neg h1, if_neg h1]
      by_cases h2 : i = 2
      · rw [if_pos h2, if_pos h2, wD_29]
        unfold wD
        dsimp only
        rw [zA_A]
      · rw [if_neg h2, if_neg h2]
        by_cases h3 : i = 3
        · rw [if_pos h3, if_pos h3, wD_29]
          unfold wD
          dsimp only
          rw [zA_A]
        · rw [if_neg h3, if_neg h3, wD_29]
          unfold wD
          dsimp only
          rw [zA_A]
theorem rWrd_ok {L : Nat → Int32} : ∀ cs p, (rWrd L cs p).1 = true → (rWrd L cs p).2 = p + cs.length := by
  intro cs
  induction cs with
  | nil => intro p _; rfl
  | cons c cs ih =>
    intro p h
    have e : rWrd L (c :: cs) p = if L p = c then rWrd L cs (p + 1) else (false, p) := rfl
    rw [e] at h ⊢
    by_cases hc : L p = c
    · rw [if_pos hc] at h ⊢
      rw [ih _ h]
      show p + 1 + cs.length = p + (cs.length + 1)
      omega
    · rw [if_neg hc] at h
      cases h
theorem rNs_b {L : Nat → Int32} {m i : Nat} : ∀ r j p N, (rNs L m i r j p N).1 = true → p ≤ (rNs L m i r j p N).2.1 ∧ (rNs L m i r j p N).2.1 ≤ p + 4 * r := by
  intro r
  induction r with
  | zero => intro j p N _; exact ⟨Nat.le_refl _, Nat.le_refl _⟩
  | succ r ih =>
    intro j p N ho
    have e : rNs L m i (r + 1) j p N = if L p = 32 then (if (rNb L (p + 1)).1 = p + 1 ∨ ¬ (rLo i j ≤ (rNb L (p + 1)).2 ∧ (rNb L (p + 1)).2 ≤ rHi m i j) then (false, (rNb L (p + 1)).1, p + 1, N) else rNs L m i r (j + 1) (rNb L (p + 1)).1 (upd N j (rNb L (p + 1)).2)) else (false, p, p, N) := rfl
    rw [e] at ho ⊢
    by_cases h1 : L p = 32
    · rw [if_pos h1] at ho ⊢
      by_cases h2 : (rNb L (p + 1)).1 = p + 1 ∨ ¬ (rLo i j ≤ (rNb L (p + 1)).2 ∧ (rNb L (p + 1)).2 ≤ rHi m i j)
      · rw [if_pos h2] at ho
        cases ho
      · rw [if_neg h2] at ho ⊢
        have b1 := rNb_b L (p + 1)
        have b2 := ih _ _ _ ho
        omega
    · rw [if_neg h1] at ho
      cases ho
