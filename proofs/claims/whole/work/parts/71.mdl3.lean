theorem u_eq (f : Nat → Int32) (k : Nat) (x : Int32) : upd f k x k = x := if_pos rfl
theorem u_ne {f : Nat → Int32} {k j : Nat} {x : Int32} (h : j ≠ k) : upd f k x j = f j := if_neg h
section MD
variable {n m : Nat} {w : zM} {T V G : Nat → Int32}
theorem zMs_V0 {y : Nat} {e : Int32} (A : zMs w T V G) (hy : y < 4) : zMs (zuA w 57 (upd (w.1 57) y e)) T (upd V (6 * y + 0) e) G := by
  have n52 : (zuA w 57 (upd (w.1 57) y e)).1 52 = w.1 52 := zA_n _ _ (by decide)
  have n53 : (zuA w 57 (upd (w.1 57) y e)).1 53 = w.1 53 := zA_n _ _ (by decide)
  have n54 : (zuA w 57 (upd (w.1 57) y e)).1 54 = w.1 54 := zA_n _ _ (by decide)
  have n55 : (zuA w 57 (upd (w.1 57) y e)).1 55 = w.1 55 := zA_n _ _ (by decide)
  have n56 : (zuA w 57 (upd (w.1 57) y e)).1 56 = w.1 56 := zA_n _ _ (by decide)
  have n58 : (zuA w 57 (upd (w.1 57) y e)).1 58 = w.1 58 := zA_n _ _ (by decide)
  have n59 : (zuA w 57 (upd (w.1 57) y e)).1 59 = w.1 59 := zA_n _ _ (by decide)
  have n60 : (zuA w 57 (upd (w.1 57) y e)).1 60 = w.1 60 := zA_n _ _ (by decide)
  have n61 : (zuA w 57 (upd (w.1 57) y e)).1 61 = w.1 61 := zA_n _ _ (by decide)
  have n62 : (zuA w 57 (upd (w.1 57) y e)).1 62 = w.1 62 := zA_n _ _ (by decide)
  have n63 : (zuA w 57 (upd (w.1 57) y e)).1 63 = w.1 63 := zA_n _ _ (by decide)
  have n50 : (zuA w 57 (upd (w.1 57) y e)).1 50 = w.1 50 := zA_n _ _ (by decide)
  have n57 : (zuA w 57 (upd (w.1 57) y e)).1 57 = (upd (w.1 57) y e) := zA_s _ _ _
  obtain ⟨a, b, g⟩ := A
  refine ⟨fun t ht => ?_, fun x hx => ?_, ?_⟩
  · rw [n52, n53, n54, n55, n56]; exact a t ht
  · have h := b x hx
    rw [n57, n58, n59, n60, n61, n62]
    refine ⟨?_, ?_, ?_, ?_, ?_, ?_⟩
    · by_cases hxy : x = y
      · subst hxy; rw [u_eq, u_eq]
      · rw [u_ne hxy, u_ne (by omega)]; exact h.1
    · rw [u_ne (by omega)]; exact h.2.1
    · rw [u_ne (by omega)]; exact h.2.2.1
    · rw [u_ne (by omega)]; exact h.2.2.2.1
    · rw [u_ne (by omega)]; exact h.2.2.2.2.1
    · rw [u_ne (by omega)]; exact h.2.2.2.2.2
  · rw [n50, n63]; exact g
theorem zMs_V1 {y : Nat} {e : Int32} (A : zMs w T V G) (hy : y < 4) : zMs (zuA w 58 (upd (w.1 58) y e)) T (upd V (6 * y + 1) e) G := by
  have n52 : (zuA w 58 (upd (w.1 58) y e)).1 52 = w.1 52 := zA_n _ _ (by decide)
  have n53 : (zuA w 58 (upd (w.1 58) y e)).1 53 = w.1 53 := zA_n _ _ (by decide)
  have n54 : (zuA w 58 (upd (w.1 58) y e)).1 54 = w.1 54 := zA_n _ _ (by decide)
  have n55 : (zuA w 58 (upd (w.1 58) y e)).1 55 = w.1 55 := zA_n _ _ (by decide)
  have n56 : (zuA w 58 (upd (w.1 58) y e)).1 56 = w.1 56 := zA_n _ _ (by decide)
  have n57 : (zuA w 58 (upd (w.1 58) y e)).1 57 = w.1 57 := zA_n _ _ (by decide)
  have n59 : (zuA w 58 (upd (w.1 58) y e)).1 59 = w.1 59 := zA_n _ _ (by decide)
  have n60 : (zuA w 58 (upd (w.1 58) y e)).1 60 = w.1 60 := zA_n _ _ (by decide)
  have n61 : (zuA w 58 (upd (w.1 58) y e)).1 61 = w.1 61 := zA_n _ _ (by decide)
  have n62 : (zuA w 58 (upd (w.1 58) y e)).1 62 = w.1 62 := zA_n _ _ (by decide)
  have n63 : (zuA w 58 (upd (w.1 58) y e)).1 63 = w.1 63 := zA_n _ _ (by decide)
  have n50 : (zuA w 58 (upd (w.1 58) y e)).1 50 = w.1 50 := zA_n _ _ (by decide)
  have n58 : (zuA w 58 (upd (w.1 58) y e)).1 58 = (upd (w.1 58) y e) := zA_s _ _ _
  obtain ⟨a, b, g⟩ := A
  refine ⟨fun t ht => ?_, fun x hx => ?_, ?_⟩
  · rw [n52, n53, n54, n55, n56]; exact a t ht
  · have h := b x hx
    rw [n57, n58, n59, n60, n61, n62]
    refine ⟨?_, ?_, ?_, ?_, ?_, ?_⟩
    · rw [u_ne (by omega)]; exact h.1
    · by_cases hxy : x = y
      · subst hxy; rw [u_eq, u_eq]
      · rw [u_ne hxy, u_ne (by omega)]; exact h.2.1
    · rw [u_ne (by omega)]; exact h.2.2.1
    · rw [u_ne (by omega)]; exact h.2.2.2.1
    · rw [u_ne (by omega)]; exact h.2.2.2.2.1
    · rw [u_ne (by omega)]; exact h.2.2.2.2.2
  · rw [n50, n63]; exact g
theorem zMs_V2 {y : Nat} {e : Int32} (A : zMs w T V G) (hy : y < 4) : zMs (zuA w 59 (upd (w.1 59) y e)) T (upd V (6 * y + 2) e) G := by
  have n52 : (zuA w 59 (upd (w.1 59) y e)).1 52 = w.1 52 := zA_n _ _ (by decide)
  have n53 : (zuA w 59 (upd (w.1 59) y e)).1 53 = w.1 53 := zA_n _ _ (by decide)
  have n54 : (zuA w 59 (upd (w.1 59) y e)).1 54 = w.1 54 := zA_n _ _ (by decide)
  have n55 : (zuA w 59 (upd (w.1 59) y e)).1 55 = w.1 55 := zA_n _ _ (by decide)
  have n56 : (zuA w 59 (upd (w.1 59) y e)).1 56 = w.1 56 := zA_n _ _ (by decide)
  have n57 : (zuA w 59 (upd (w.1 59) y e)).1 57 = w.1 57 := zA_n _ _ (by decide)
  have n58 : (zuA w 59 (upd (w.1 59) y e)).1 58 = w.1 58 := zA_n _ _ (by decide)
  have n60 : (zuA w 59 (upd (w.1 59) y e)).1 60 = w.1 60 := zA_n _ _ (by decide)
  have n61 : (zuA w 59 (upd (w.1 59) y e)).1 61 = w.1 61 := zA_n _ _ (by decide)
  have n62 : (zuA w 59 (upd (w.1 59) y e)).1 62 = w.1 62 := zA_n _ _ (by decide)
  have n63 : (zuA w 59 (upd (w.1 59) y e)).1 63 = w.1 63 := zA_n _ _ (by decide)
  have n50 : (zuA w 59 (upd (w.1 59) y e)).1 50 = w.1 50 := zA_n _ _ (by decide)
  have n59 : (zuA w 59 (upd (w.1 59) y e)).1 59 = (upd (w.1 59) y e) := zA_s _ _ _
  obtain ⟨a, b, g⟩ := A
  refine ⟨fun t ht => ?_, fun x hx => ?_, ?_⟩
  · rw [n52, n53, n54, n55, n56]; exact a t ht
  · have h := b x hx
    rw [n57, n58, n59, n60, n61, n62]
    refine ⟨?_, ?_, ?_, ?_, ?_, ?_⟩
    · rw [u_ne (by omega)]; exact h.1
    · rw [u_ne (by omega)]; exact h.2.1
    · by_cases hxy : x = y
      · subst hxy; rw [u_eq, u_eq]
      · rw [u_ne hxy, u_ne (by omega)]; exact h.2.2.1
    · rw [u_ne (by omega)]; exact h.2.2.2.1
    · rw [u_ne (by omega)]; exact h.2.2.2.2.1
    · rw [u_ne (by omega)]; exact h.2.2.2.2.2
  · rw [n50, n63]; exact g
theorem zMs_V3 {y : Nat} {e : Int32} (A : zMs w T V G) (hy : y < 4) : zMs (zuA w 60 (upd (w.1 60) y e)) T (upd V (6 * y + 3) e) G := by
  have n52 : (zuA w 60 (upd (w.1 60) y e)).1 52 = w.1 52 := zA_n _ _ (by decide)
  have n53 : (zuA w 60 (upd (w.1 60) y e)).1 53 = w.1 53 := zA_n _ _ (by decide)
  have n54 : (zuA w 60 (upd (w.1 60) y e)).1 54 = w.1 54 := zA_n _ _ (by decide)
  have n55 : (zuA w 60 (upd (w.1 60) y e)).1 55 = w.1 55 := zA_n _ _ (by decide)
  have n56 : (zuA w 60 (upd (w.1 60) y e)).1 56 = w.1 56 := zA_n _ _ (by decide)
  have n57 : (zuA w 60 (upd (w.1 60) y e)).1 57 = w.1 57 := zA_n _ _ (by decide)
  have n58 : (zuA w 60 (upd (w.1 60) y e)).1 58 = w.1 58 := zA_n _ _ (by decide)
  have n59 : (zuA w 60 (upd (w.1 60) y e)).1 59 = w.1 59 := zA_n _ _ (by decide)
  have n61 : (zuA w 60 (upd (w.1 60) y e)).1 61 = w.1 61 := zA_n _ _ (by decide)
  have n62 : (zuA w 60 (upd (w.1 60) y e)).1 62 = w.1 62 := zA_n _ _ (by decide)
  have n63 : (zuA w 60 (upd (w.1 60) y e)).1 63 = w.1 63 := zA_n _ _ (by decide)
  have n50 : (zuA w 60 (upd (w.1 60) y e)).1 50 = w.1 50 := zA_n _ _ (by decide)
  have n60 : (zuA w 60 (upd (w.1 60) y e)).1 60 = (upd (w.1 60) y e) := zA_s _ _ _
  obtain ⟨a, b, g⟩ := A
  refine ⟨fun t ht => ?_, fun x hx => ?_, ?_⟩
  · rw [n52, n53, n54, n55, n56]; exact a t ht
  · have h := b x hx
    rw [n57, n58, n59, n60, n61, n62]
    refine ⟨?_, ?_, ?_, ?_, ?_, ?_⟩
    · rw [u_ne (by omega)]; exact h.1
    · rw [u_ne (by omega)]; exact h.2.1
    · rw [u_ne (by omega)]; exact h.2.2.1
    · by_cases hxy : x = y
      · subst hxy; rw [u_eq, u_eq]
      · rw [u_ne hxy, u_ne (by omega)]; exact h.2.2.2.1
    · rw [u_ne (by omega)]; exact h.2.2.2.2.1
    · rw [u_ne (by omega)]; exact h.2.2.2.2.2
  · rw [n50, n63]; exact g
theorem zMs_V4 {y : Nat} {e : Int32} (A : zMs w T V G) (hy : y < 4) : zMs (zuA w 61 (upd (w.1 61) y e)) T (upd V (6 * y + 4) e) G := by
  have n52 : (zuA w 61 (upd (w.1 61) y e)).1 52 = w.1 52 := zA_n _ _ (by decide)
  have n53 : (zuA w 61 (upd (w.1 61) y e)).1 53 = w.1 53 := zA_n _ _ (by decide)
  have n54 : (zuA w 61 (upd (w.1 61) y e)).1 54 = w.1 54 := zA_n _ _ (by decide)
  have n55 : (zuA w 61 (upd (w.1 61) y e)).1 55 = w.1 55 := zA_n _ _ (by decide)
  have n56 : (zuA w 61 (upd (w.1 61) y e)).1 56 = w.1 56 := zA_n _ _ (by decide)
  have n57 : (zuA w 61 (upd (w.1 61) y e)).1 57 = w.1 57 := zA_n _ _ (by decide)
  have n58 : (zuA w 61 (upd (w.1 61) y e)).1 58 = w.1 58 := zA_n _ _ (by decide)
  have n59 : (zuA w 61 (upd (w.1 61) y e)).1 59 = w.1 59 := zA_n _ _ (by decide)
  have n60 : (zuA w 61 (upd (w.1 61) y e)).1 60 = w.1 60 := zA_n _ _ (by decide)
  have n62 : (zuA w 61 (upd (w.1 61) y e)).1 62 = w.1 62 := zA_n _ _ (by decide)
  have n63 : (zuA w 61 (upd (w.1 61) y e)).1 63 = w.1 63 := zA_n _ _ (by decide)
  have n50 : (zuA w 61 (upd (w.1 61) y e)).1 50 = w.1 50 := zA_n _ _ (by decide)
  have n61 : (zuA w 61 (upd (w.1 61) y e)).1 61 = (upd (w.1 61) y e) := zA_s _ _ _
  obtain ⟨a, b, g⟩ := A
  refine ⟨fun t ht => ?_, fun x hx => ?_, ?_⟩
  · rw [n52, n53, n54, n55, n56]; exact a t ht
  · have h := b x hx
    rw [n57, n58, n59, n60, n61, n62]
    refine ⟨?_, ?_, ?_, ?_, ?_, ?_⟩
    · rw [u_ne (by omega)]; exact h.1
    · rw [u_ne (by omega)]; exact h.2.1
    · rw [u_ne (by omega)]; exact h.2.2.1
    · rw [u_ne (by omega)]; exact h.2.2.2.1
    · by_cases hxy : x = y
      · subst hxy; rw [u_eq, u_eq]
      · rw [u_ne hxy, u_ne (by omega)]; exact h.2.2.2.2.1
    · rw [u_ne (by omega)]; exact h.2.2.2.2.2
  · rw [n50, n63]; exact g
theorem zMs_V5 {y : Nat} {e : Int32} (A : zMs w T V G) (hy : y < 4) : zMs (zuA w 62 (upd (w.1 62) y e)) T (upd V (6 * y + 5) e) G := by
  have n52 : (zuA w 62 (upd (w.1 62) y e)).1 52 = w.1 52 := zA_n _ _ (by decide)
  have n53 : (zuA w 62 (upd (w.1 62) y e)).1 53 = w.1 53 := zA_n _ _ (by decide)
  have n54 : (zuA w 62 (upd (w.1 62) y e)).1 54 = w.1 54 := zA_n _ _ (by decide)
  have n55 : (zuA w 62 (upd (w.1 62) y e)).1 55 = w.1 55 := zA_n _ _ (by decide)
  have n56 : (zuA w 62 (upd (w.1 62) y e)).1 56 = w.1 56 := zA_n _ _ (by decide)
  have n57 : (zuA w 62 (upd (w.1 62) y e)).1 57 = w.1 57 := zA_n _ _ (by decide)
  have n58 : (zuA w 62 (upd (w.1 62) y e)).1 58 = w.1 58 := zA_n _ _ (by decide)
  have n59 : (zuA w 62 (upd (w.1 62) y e)).1 59 = w.1 59 := zA_n _ _ (by decide)
  have n60 : (zuA w 62 (upd (w.1 62) y e)).1 60 = w.1 60 := zA_n _ _ (by decide)
  have n61 : (zuA w 62 (upd (w.1 62) y e)).1 61 = w.1 61 := zA_n _ _ (by decide)
  have n63 : (zuA w 62 (upd (w.1 62) y e)).1 63 = w.1 63 := zA_n _ _ (by decide)
  have n50 : (zuA w 62 (upd (w.1 62) y e)).1 50 = w.1 50 := zA_n _ _ (by decide)
  have n62 : (zuA w 62 (upd (w.1 62) y e)).1 62 = (upd (w.1 62) y e) := zA_s _ _ _
  obtain ⟨a, b, g⟩ := A
  refine ⟨fun t ht => ?_, fun x hx => ?_, ?_⟩
  · rw [n52, n53, n54, n55, n56]; exact a t ht
  · have h := b x hx
    rw [n57, n58, n59, n60, n61, n62]
    refine ⟨?_, ?_, ?_, ?_, ?_, ?_⟩
    · rw [u_ne (by omega)]; exact h.1
    · rw [u_ne (by omega)]; exact h.2.1
    · rw [u_ne (by omega)]; exact h.2.2.1
    · rw [u_ne (by omega)]; exact h.2.2.2.1
    · rw [u_ne (by omega)]; exact h.2.2.2.2.1
    · by_cases hxy : x = y
      · subst hxy; rw [u_eq, u_eq]
      · rw [u_ne hxy, u_ne (by omega)]; exact h.2.2.2.2.2
  · rw [n50, n63]; exact g
theorem zMs_T0 {y : Nat} {e : Int32} (A : zMs w T V G) (hy : y < 8) : zMs (zuA w 52 (upd (w.1 52) y e)) (upd T (5 * y + 0) e) V G := by
  have n53 : (zuA w 52 (upd (w.1 52) y e)).1 53 = w.1 53 := zA_n _ _ (by decide)
  have n54 : (zuA w 52 (upd (w.1 52) y e)).1 54 = w.1 54 := zA_n _ _ (by decide)
  have n55 : (zuA w 52 (upd (w.1 52) y e)).1 55 = w.1 55 := zA_n _ _ (by decide)
  have n56 : (zuA w 52 (upd (w.1 52) y e)).1 56 = w.1 56 := zA_n _ _ (by decide)
  have n57 : (zuA w 52 (upd (w.1 52) y e)).1 57 = w.1 57 := zA_n _ _ (by decide)
  have n58 : (zuA w 52 (upd (w.1 52) y e)).1 58 = w.1 58 := zA_n _ _ (by decide)
  have n59 : (zuA w 52 (upd (w.1 52) y e)).1 59 = w.1 59 := zA_n _ _ (by decide)
  have n60 : (zuA w 52 (upd (w.1 52) y e)).1 60 = w.1 60 := zA_n _ _ (by decide)
  have n61 : (zuA w 52 (upd (w.1 52) y e)).1 61 = w.1 61 := zA_n _ _ (by decide)
  have n62 : (zuA w 52 (upd (w.1 52) y e)).1 62 = w.1 62 := zA_n _ _ (by decide)
  have n63 : (zuA w 52 (upd (w.1 52) y e)).1 63 = w.1 63 := zA_n _ _ (by decide)
  have n50 : (zuA w 52 (upd (w.1 52) y e)).1 50 = w.1 50 := zA_n _ _ (by decide)
  have n52 : (zuA w 52 (upd (w.1 52) y e)).1 52 = (upd (w.1 52) y e) := zA_s _ _ _
  obtain ⟨a, b, g⟩ := A
  refine ⟨fun x hx => ?_, fun x hx => ?_, ?_⟩
  · have h := a x hx
    rw [n52, n53, n54, n55, n56]
    refine ⟨?_, ?_, ?_, ?_, ?_⟩
    · by_cases hxy : x = y
      · subst hxy; rw [u_eq, u_eq]
      · rw [u_ne hxy, u_ne (by omega)]; exact h.1
    · rw [u_ne (by omega)]; exact h.2.1
    · rw [u_ne (by omega)]; exact h.2.2.1
    · rw [u_ne (by omega)]; exact h.2.2.2.1
    · rw [u_ne (by omega)]; exact h.2.2.2.2
  · rw [n57, n58, n59, n60, n61, n62]; exact b x hx
  · rw [n50, n63]; exact g
theorem zMs_T1 {y : Nat} {e : Int32} (A : zMs w T V G) (hy : y < 8) : zMs (zuA w 53 (upd (w.1 53) y e)) (upd T (5 * y + 1) e) V G := by
  have n52 : (zuA w 53 (upd (w.1 53) y e)).1 52 = w.1 52 := zA_n _ _ (by decide)
  have n54 : (zuA w 53 (upd (w.1 53) y e)).1 54 = w.1 54 := zA_n _ _ (by decide)
  have n55 : (zuA w 53 (upd (w.1 53) y e)).1 55 = w.1 55 := zA_n _ _ (by decide)
  have n56 : (zuA w 53 (upd (w.1 53) y e)).1 56 = w.1 56 := zA_n _ _ (by decide)
  have n57 : (zuA w 53 (upd (w.1 53) y e)).1 57 = w.1 57 := zA_n _ _ (by decide)
  have n58 : (zuA w 53 (upd (w.1 53) y e)).1 58 = w.1 58 := zA_n _ _ (by decide)
  have n59 : (zuA w 53 (upd (w.1 53) y e)).1 59 = w.1 59 := zA_n _ _ (by decide)
  have n60 : (zuA w 53 (upd (w.1 53) y e)).1 60 = w.1 60 := zA_n _ _ (by decide)
  have n61 : (zuA w 53 (upd (w.1 53) y e)).1 61 = w.1 61 := zA_n _ _ (by decide)
  have n62 : (zuA w 53 (upd (w.1 53) y e)).1 62 = w.1 62 := zA_n _ _ (by decide)
  have n63 : (zuA w 53 (upd (w.1 53) y e)).1 63 = w.1 63 := zA_n _ _ (by decide)
  have n50 : (zuA w 53 (upd (w.1 53) y e)).1 50 = w.1 50 := zA_n _ _ (by decide)
  have n53 : (zuA w 53 (upd (w.1 53) y e)).1 53 = (upd (w.1 53) y e) := zA_s _ _ _
  obtain ⟨a, b, g⟩ := A
  refine ⟨fun x hx => ?_, fun x hx => ?_, ?_⟩
  · have h := a x hx
    rw [n52, n53, n54, n55, n56]
    refine ⟨?_, ?_, ?_, ?_, ?_⟩
    · rw [u_ne (by omega)]; exact h.1
    · by_cases hxy : x = y
      · subst hxy; rw [u_eq, u_eq]
      · rw [u_ne hxy, u_ne (by omega)]; exact h.2.1
    · rw [u_ne (by omega)]; exact h.2.2.1
    · rw [u_ne (by omega)]; exact h.2.2.2.1
    · rw [u_ne (by omega)]; exact h.2.2.2.2
  · rw [n57, n58, n59, n60, n61, n62]; exact b x hx
  · rw [n50, n63]; exact g
theorem zMs_T2 {y : Nat} {e : Int32} (A : zMs w T V G) (hy : y < 8) : zMs (zuA w 54 (upd (w.1 54) y e)) (upd T (5 * y + 2) e) V G := by
  have n52 : (zuA w 54 (upd (w.1 54) y e)).1 52 = w.1 52 := zA_n _ _ (by decide)
  have n53 : (zuA w 54 (upd (w.1 54) y e)).1 53 = w.1 53 := zA_n _ _ (by decide)
  have n55 : (zuA w 54 (upd (w.1 54) y e)).1 55 = w.1 55 := zA_n _ _ (by decide)
  have n56 : (zuA w 54 (upd (w.1 54) y e)).1 56 = w.1 56 := zA_n _ _ (by decide)
  have n57 : (zuA w 54 (upd (w.1 54) y e)).1 57 = w.1 57 := zA_n _ _ (by decide)
  have n58 : (zuA w 54 (upd (w.1 54) y e)).1 58 = w.1 58 := zA_n _ _ (by decide)
  have n59 : (zuA w 54 (upd (w.1 54) y e)).1 59 = w.1 59 := zA_n _ _ (by decide)
  have n60 : (zuA w 54 (upd (w.1 54) y e)).1 60 = w.1 60 := zA_n _ _ (by decide)
  have n61 : (zuA w 54 (upd (w.1 54) y e)).1 61 = w.1 61 := zA_n _ _ (by decide)
  have n62 : (zuA w 54 (upd (w.1 54) y e)).1 62 = w.1 62 := zA_n _ _ (by decide)
  have n63 : (zuA w 54 (upd (w.1 54) y e)).1 63 = w.1 63 := zA_n _ _ (by decide)
  have n50 : (zuA w 54 (upd (w.1 54) y e)).1 50 = w.1 50 := zA_n _ _ (by decide)
  have n54 : (zuA w 54 (upd (w.1 54) y e)).1 54 = (upd (w.1 54) y e) := zA_s _ _ _
  obtain ⟨a, b, g⟩ := A
  refine ⟨fun x hx => ?_, fun x hx => ?_, ?_⟩
  · have h := a x hx
    rw [n52, n53, n54, n55, n56]
    refine ⟨?_, ?_, ?_, ?_, ?_⟩
    · rw [u_ne (by omega)]; exact h.1
    · rw [u_ne (by omega)]; exact h.2.1
    · by_cases hxy : x = y
      · subst hxy; rw [u_eq, u_eq]
      · rw [u_ne hxy, u_ne (by omega)]; exact h.2.2.1
    · rw [u_ne (by omega)]; exact h.2.2.2.1
    · rw [u_ne (by omega)]; exact h.2.2.2.2
  · rw [n57, n58, n59, n60, n61, n62]; exact b x hx
  · rw [n50, n63]; exact g
theorem zMs_T3 {y : Nat} {e : Int32} (A : zMs w T V G) (hy : y < 8) : zMs (zuA w 55 (upd (w.1 55) y e)) (upd T (5 * y + 3) e) V G := by
  have n52 : (zuA w 55 (upd (w.1 55) y e)).1 52 = w.1 52 := zA_n _ _ (by decide)
  have n53 : (zuA w 55 (upd (w.1 55) y e)).1 53 = w.1 53 := zA_n _ _ (by decide)
  have n54 : (zuA w 55 (upd (w.1 55) y e)).1 54 = w.1 54 := zA_n _ _ (by decide)
  have n56 : (zuA w 55 (upd (w.1 55) y e)).1 56 = w.1 56 := zA_n _ _ (by decide)
  have n57 : (zuA w 55 (upd (w.1 55) y e)).1 57 = w.1 57 := zA_n _ _ (by decide)
  have n58 : (zuA w 55 (upd (w.1 55) y e)).1 58 = w.1 58 := zA_n _ _ (by decide)
  have n59 : (zuA w 55 (upd (w.1 55) y e)).1 59 = w.1 59 := zA_n _ _ (by decide)
  have n60 : (zuA w 55 (upd (w.1 55) y e)).1 60 = w.1 60 := zA_n _ _ (by decide)
  have n61 : (zuA w 55 (upd (w.1 55) y e)).1 61 = w.1 61 := zA_n _ _ (by decide)
  have n62 : (zuA w 55 (upd (w.1 55) y e)).1 62 = w.1 62 := zA_n _ _ (by decide)
  have n63 : (zuA w 55 (upd (w.1 55) y e)).1 63 = w.1 63 := zA_n _ _ (by decide)
  have n50 : (zuA w 55 (upd (w.1 55) y e)).1 50 = w.1 50 := zA_n _ _ (by decide)
  have n55 : (zuA w 55 (upd (w.1 55) y e)).1 55 = (upd (w.1 55) y e) := zA_s _ _ _
  obtain ⟨a, b, g⟩ := A
  refine ⟨fun x hx => ?_, fun x hx => ?_, ?_⟩
  · have h := a x hx
    rw [n52, n53, n54, n55, n56]
    refine ⟨?_, ?_, ?_, ?_, ?_⟩
    · rw [u_ne (by omega)]; exact h.1
    · rw [u_ne (by omega)]; exact h.2.1
    · rw [u_ne (by omega)]; exact h.2.2.1
    · by_cases hxy : x = y
      · subst hxy; rw [u_eq, u_eq]
      · rw [u_ne hxy, u_ne (by omega)]; exact h.2.2.2.1
    · rw [u_ne (by omega)]; exact h.2.2.2.2
  · rw [n57, n58, n59, n60, n61, n62]; exact b x hx
  · rw [n50, n63]; exact g
theorem zMs_T4 {y : Nat} {e : Int32} (A : zMs w T V G) (hy : y < 8) : zMs (zuA w 56 (upd (w.1 56) y e)) (upd T (5 * y + 4) e) V G := by
  have n52 : (zuA w 56 (upd (w.1 56) y e)).1 52 = w.1 52 := zA_n _ _ (by decide)
  have n53 : (zuA w 56 (upd (w.1 56) y e)).1 53 = w.1 53 := zA_n _ _ (by decide)
  have n54 : (zuA w 56 (upd (w.1 56) y e)).1 54 = w.1 54 := zA_n _ _ (by decide)
  have n55 : (zuA w 56 (upd (w.1 56) y e)).1 55 = w.1 55 := zA_n _ _ (by decide)
  have n57 : (zuA w 56 (upd (w.1 56) y e)).1 57 = w.1 57 := zA_n _ _ (by decide)
  have n58 : (zuA w 56 (upd (w.1 56) y e)).1 58 = w.1 58 := zA_n _ _ (by decide)
  have n59 : (zuA w 56 (upd (w.1 56) y e)).1 59 = w.1 59 := zA_n _ _ (by decide)
  have n60 : (zuA w 56 (upd (w.1 56) y e)).1 60 = w.1 60 := zA_n _ _ (by decide)
  have n61 : (zuA w 56 (upd (w.1 56) y e)).1 61 = w.1 61 := zA_n _ _ (by decide)
  have n62 : (zuA w 56 (upd (w.1 56) y e)).1 62 = w.1 62 := zA_n _ _ (by decide)
  have n63 : (zuA w 56 (upd (w.1 56) y e)).1 63 = w.1 63 := zA_n _ _ (by decide)
  have n50 : (zuA w 56 (upd (w.1 56) y e)).1 50 = w.1 50 := zA_n _ _ (by decide)
  have n56 : (zuA w 56 (upd (w.1 56) y e)).1 56 = (upd (w.1 56) y e) := zA_s _ _ _
  obtain ⟨a, b, g⟩ := A
  refine ⟨fun x hx => ?_, fun x hx => ?_, ?_⟩
  · have h := a x hx
    rw [n52, n53, n54, n55, n56]
    refine ⟨?_, ?_, ?_, ?_, ?_⟩
    · rw [u_ne (by omega)]; exact h.1
    · rw [u_ne (by omega)]; exact h.2.1
    · rw [u_ne (by omega)]; exact h.2.2.1
    · rw [u_ne (by omega)]; exact h.2.2.2.1
    · by_cases hxy : x = y
      · subst hxy; rw [u_eq, u_eq]
      · rw [u_ne hxy, u_ne (by omega)]; exact h.2.2.2.2
  · rw [n57, n58, n59, n60, n61, n62]; exact b x hx
  · rw [n50, n63]; exact g
theorem zMs_e {j : Nat} {e : Nat → Int32} (A : zMs w T V G) (hj : j ≤ 4) : zMs (zuA w 58 (zcpy e (w.1 58) j)) T (sSe V e j) G := by
  have n52 : (zuA w 58 (zcpy e (w.1 58) j)).1 52 = w.1 52 := zA_n _ _ (by decide)
  have n53 : (zuA w 58 (zcpy e (w.1 58) j)).1 53 = w.1 53 := zA_n _ _ (by decide)
  have n54 : (zuA w 58 (zcpy e (w.1 58) j)).1 54 = w.1 54 := zA_n _ _ (by decide)
  have n55 : (zuA w 58 (zcpy e (w.1 58) j)).1 55 = w.1 55 := zA_n _ _ (by decide)
  have n56 : (zuA w 58 (zcpy e (w.1 58) j)).1 56 = w.1 56 := zA_n _ _ (by decide)
  have n57 : (zuA w 58 (zcpy e (w.1 58) j)).1 57 = w.1 57 := zA_n _ _ (by decide)
  have n59 : (zuA w 58 (zcpy e (w.1 58) j)).1 59 = w.1 59 := zA_n _ _ (by decide)
  have n60 : (zuA w 58 (zcpy e (w.1 58) j)).1 60 = w.1 60 := zA_n _ _ (by decide)
  have n61 : (zuA w 58 (zcpy e (w.1 58) j)).1 61 = w.1 61 := zA_n _ _ (by decide)
  have n62 : (zuA w 58 (zcpy e (w.1 58) j)).1 62 = w.1 62 := zA_n _ _ (by decide)
  have n63 : (zuA w 58 (zcpy e (w.1 58) j)).1 63 = w.1 63 := zA_n _ _ (by decide)
  have n50 : (zuA w 58 (zcpy e (w.1 58) j)).1 50 = w.1 50 := zA_n _ _ (by decide)
  have n58 : (zuA w 58 (zcpy e (w.1 58) j)).1 58 = (zcpy e (w.1 58) j) := zA_s _ _ _
  obtain ⟨a, b, g⟩ := A
  refine ⟨fun t ht => ?_, fun x hx => ?_, ?_⟩
  · rw [n52, n53, n54, n55, n56]; exact a t ht
  · have h := b x hx
    rw [n57, n58, n59, n60, n61, n62]
    refine ⟨?_, ?_, ?_, ?_, ?_, ?_⟩
    · unfold sSe; rw [if_neg (by omega)]; exact h.1
    · unfold sSe zcpy
      by_cases hxj : x < j
      · rw [if_pos hxj, if_pos (by omega)]; congr 1; omega
      · rw [if_neg hxj, if_neg (by omega)]; exact h.2.1
    · unfold sSe; rw [if_neg (by omega)]; exact h.2.2.1
    · unfold sSe; rw [if_neg (by omega)]; exact h.2.2.2.1
    · unfold sSe; rw [if_neg (by omega)]; exact h.2.2.2.2.1
    · unfold sSe; rw [if_neg (by omega)]; exact h.2.2.2.2.2
  · rw [n50, n63]; exact g
theorem zMs_p {j : Nat} {e : Nat → Int32} (A : zMs w T V G) (hj : j ≤ 4) : zMs (zuA w 60 (zcpy e (w.1 60) j)) T (sSp V e j) G := by
  have n52 : (zuA w 60 (zcpy e (w.1 60) j)).1 52 = w.1 52 := zA_n _ _ (by decide)
  have n53 : (zuA w 60 (zcpy e (w.1 60) j)).1 53 = w.1 53 := zA_n _ _ (by decide)
  have n54 : (zuA w 60 (zcpy e (w.1 60) j)).1 54 = w.1 54 := zA_n _ _ (by decide)
  have n55 : (zuA w 60 (zcpy e (w.1 60) j)).1 55 = w.1 55 := zA_n _ _ (by decide)
  have n56 : (zuA w 60 (zcpy e (w.1 60) j)).1 56 = w.1 56 := zA_n _ _ (by decide)
  have n57 : (zuA w 60 (zcpy e (w.1 60) j)).1 57 = w.1 57 := zA_n _ _ (by decide)
  have n58 : (zuA w 60 (zcpy e (w.1 60) j)).1 58 = w.1 58 := zA_n _ _ (by decide)
  have n59 : (zuA w 60 (zcpy e (w.1 60) j)).1 59 = w.1 59 := zA_n _ _ (by decide)
  have n61 : (zuA w 60 (zcpy e (w.1 60) j)).1 61 = w.1 61 := zA_n _ _ (by decide)
  have n62 : (zuA w 60 (zcpy e (w.1 60) j)).1 62 = w.1 62 := zA_n _ _ (by decide)
  have n63 : (zuA w 60 (zcpy e (w.1 60) j)).1 63 = w.1 63 := zA_n _ _ (by decide)
  have n50 : (zuA w 60 (zcpy e (w.1 60) j)).1 50 = w.1 50 := zA_n _ _ (by decide)
  have n60 : (zuA w 60 (zcpy e (w.1 60) j)).1 60 = (zcpy e (w.1 60) j) := zA_s _ _ _
  obtain ⟨a, b, g⟩ := A
  refine ⟨fun t ht => ?_, fun x hx => ?_, ?_⟩
  · rw [n52, n53, n54, n55, n56]; exact a t ht
  · have h := b x hx
    rw [n57, n58, n59, n60, n61, n62]
    refine ⟨?_, ?_, ?_, ?_, ?_, ?_⟩
    · unfold sSp; rw [if_neg (by omega)]; exact h.1
    · unfold sSp; rw [if_neg (by omega)]; exact h.2.1
    · unfold sSp; rw [if_neg (by omega)]; exact h.2.2.1
    · unfold sSp zcpy
      by_cases hxj : x < j
      · rw [if_pos hxj, if_pos (by omega)]; congr 1; omega
      · rw [if_neg hxj, if_neg (by omega)]; exact h.2.2.2.1
    · unfold sSp; rw [if_neg (by omega)]; exact h.2.2.2.2.1
    · unfold sSp; rw [if_neg (by omega)]; exact h.2.2.2.2.2
  · rw [n50, n63]; exact g
theorem zMs_k {w2 : zM} (A : zMs w T V G) (k50 : w2.1 50 2 = w.1 50 2 ∧ w2.1 50 3 = w.1 50 3) (k : ∀ a, 52 ≤ a → a ≤ 63 → w2.1 a = w.1 a) : zMs w2 T V G := by
  obtain ⟨a, b, g⟩ := A
  refine ⟨fun t ht => ?_, fun x hx => ?_, ?_⟩
  · rw [k 52 (by decide) (by decide), k 53 (by decide) (by decide), k 54 (by decide) (by decide), k 55 (by decide) (by decide), k 56 (by decide) (by decide)]; exact a t ht
  · rw [k 57 (by decide) (by decide), k 58 (by decide) (by decide), k 59 (by decide) (by decide), k 60 (by decide) (by decide), k 61 (by decide) (by decide), k 62 (by decide) (by decide)]; exact b x hx
  · rw [k50.1, k50.2, k 63 (by decide) (by decide)]; exact g
theorem zMn_k {w2 : zM} (A : zMn w n m) (k0 : w2.1 50 0 = w.1 50 0) (k1 : w2.1 50 1 = w.1 50 1) : zMn w2 n m := ⟨by rw [k0]; exact A.1, by rw [k1]; exact A.2.1, A.2.2⟩
theorem zRg_V1 {y : Nat} {e : Int32} (R : zRg T V G n m) (he : zBt e 0 3) : zRg T (upd V (6 * y + 1) e) G n m := by
  obtain ⟨rt, rv, rg⟩ := R
  refine ⟨rt, fun x hx => ?_, rg⟩
  obtain ⟨h0, h1, h3⟩ := rv x hx
  refine ⟨?_, ?_, ?_⟩
  · rw [u_ne (by omega)]; exact h0
  · by_cases hxy : x = y
    · subst hxy; rw [u_eq]; exact he
    · rw [u_ne (by omega)]; exact h1
  · rw [u_ne (by omega)]; exact h3
theorem zRg_V0 {y : Nat} {e : Int32} (R : zRg T V G n m) (he : zBt e 0 7) : zRg T (upd V (6 * y + 0) e) G n m := by
  obtain ⟨rt, rv, rg⟩ := R
  refine ⟨rt, fun x hx => ?_, rg⟩
  obtain ⟨h0, h1, h3⟩ := rv x hx
  refine ⟨?_, ?_, ?_⟩
  · by_cases hxy : x = y
    · subst hxy; rw [u_eq]; exact he
    · rw [u_ne (by omega)]; exact h0
  · rw [u_ne (by omega)]; exact h1
  · rw [u_ne (by omega)]; exact h3
theorem zRg_e {j : Nat} {e : Nat → Int32} (R : zRg T V G n m) (he : ∀ x, x < j → zBt (e x) 0 3) : zRg T (sSe V e j) G n m := by
  obtain ⟨rt, rv, rg⟩ := R
  refine ⟨rt, fun x hx => ?_, rg⟩
  obtain ⟨h0, h1, h3⟩ := rv x hx
  unfold sSe
  refine ⟨?_, ?_, ?_⟩
  · rw [if_neg (by omega)]; exact h0
  · by_cases hxj : x < j
    · rw [if_pos (by omega)]
      have e2 : (6 * x + 1) / 6 = x := by omega
      rw [e2]; exact he x hxj
    · rw [if_neg (by omega)]; exact h1
  · rw [if_neg (by omega)]; exact h3
theorem zRg_p {j : Nat} {e : Nat → Int32} (R : zRg T V G n m) (he : ∀ x, x < j → zBt (e x) 1 9) : zRg T (sSp V e j) G n m := by
  obtain ⟨rt, rv, rg⟩ := R
  refine ⟨rt, fun x hx => ?_, rg⟩
  obtain ⟨h0, h1, h3⟩ := rv x hx
  unfold sSp
  refine ⟨?_, ?_, ?_⟩
  · rw [if_neg (by omega)]; exact h0
  · rw [if_neg (by omega)]; exact h1
  · by_cases hxj : x < j
    · rw [if_pos (by omega)]
      have e2 : (6 * x + 3) / 6 = x := by omega
      rw [e2]; exact he x hxj
    · rw [if_neg (by omega)]; exact h3
theorem nI_bt {k : Nat} {a b : Nat} (h : k < 1000) (ha : a ≤ k) (hb : k ≤ b) : zBt (nI k) a b := by
  unfold zBt
  rw [nI_toInt (by omega)]
  omega
end MD
