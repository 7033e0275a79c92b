abbrev kTt : Type := kS × (Nat → Nat) × (Nat → kS) × (Nat → kS × Nat × kS)
def zAd (x : Nat) (u : kTt) (y : Nat) (v : kS) : List Nat := [x, u.2.1 0, (u.2.2.1 0).1 0, (u.2.2.1 0).1 1, (u.2.2.1 0).1 2, (u.2.2.1 0).1 3, u.2.1 1, (u.2.2.1 1).1 0, (u.2.2.1 1).1 1, (u.2.2.1 1).1 2, (u.2.2.1 1).1 3, u.2.1 2, (u.2.2.1 2).1 0, u.2.1 20, (u.2.2.2 0).2.1, (u.2.2.2 0).2.2.1 0, (u.2.2.2 0).2.2.1 1, (u.2.2.2 0).2.2.1 2, (u.2.2.2 0).2.2.1 3, (u.2.2.2 0).1.1 0, (u.2.2.2 0).1.1 1, (u.2.2.2 0).1.1 2, (u.2.2.2 0).1.1 3, (u.2.2.2 0).1.1 4, (u.2.2.2 0).1.1 5, u.2.1 21, (u.2.2.2 1).2.1, (u.2.2.2 1).2.2.1 0, (u.2.2.2 1).2.2.1 1, (u.2.2.2 1).2.2.1 2, (u.2.2.2 1).2.2.1 3, (u.2.2.2 1).1.1 0, u.1.1 0, u.1.1 1, u.2.1 3, (u.2.2.1 3).1 0, u.2.1 4, (u.2.2.1 4).1 0, u.2.1 5, (u.2.2.1 5).1 0, u.2.1 6, (u.2.2.1 6).1 0, u.2.1 7, (u.2.2.1 7).1 0, u.2.1 8, (u.2.2.1 8).1 0, u.2.1 9, (u.2.2.1 9).1 0, u.2.1 10, (u.2.2.1 10).1 0, y, v.1 0, v.1 1, v.1 2, v.1 3, v.1 4, v.1 5, v.1 6, v.1 7, v.1 8, v.1 9, v.1 10, v.1 11, v.1 12, v.1 13, v.1 14, v.1 15, v.1 16, v.1 17, v.1 18, v.1 19, v.1 20, v.1 21, v.1 22, v.1 23, v.1 24, v.1 25, v.1 26, v.1 27, v.1 28]
def zAc (u : kTt) (v : kS) : List ClassId := [(u.1.2 0), (u.1.2 0), (u.2.2.1 0).2 0, (u.2.2.1 0).2 1, (u.2.2.1 0).2 2, (u.2.2.1 0).2 3, (u.1.2 0), (u.2.2.1 1).2 0, (u.2.2.1 1).2 1, (u.2.2.1 1).2 2, (u.2.2.1 1).2 3, (u.1.2 0), (u.2.2.1 2).2 0, (u.1.2 0), (u.1.2 0), (u.2.2.2 0).2.2.2 0, (u.2.2.2 0).2.2.2 1, (u.2.2.2 0).2.2.2 2, (u.2.2.2 0).2.2.2 3, (u.2.2.2 0).1.2 0, (u.2.2.2 0).1.2 1, (u.2.2.2 0).1.2 2, (u.2.2.2 0).1.2 3, (u.2.2.2 0).1.2 4, (u.2.2.2 0).1.2 5, (u.1.2 0), (u.1.2 0), (u.2.2.2 1).2.2.2 0, (u.2.2.2 1).2.2.2 1, (u.2.2.2 1).2.2.2 2, (u.2.2.2 1).2.2.2 3, (u.2.2.2 1).1.2 0, u.1.2 0, u.1.2 1, (u.1.2 0), (u.2.2.1 3).2 0, (u.1.2 0), (u.2.2.1 4).2 0, (u.1.2 0), (u.2.2.1 5).2 0, (u.1.2 0), (u.2.2.1 6).2 0, (u.1.2 0), (u.2.2.1 7).2 0, (u.1.2 0), (u.2.2.1 8).2 0, (u.1.2 0), (u.2.2.1 9).2 0, (u.1.2 0), (u.2.2.1 10).2 0, (u.1.2 0), v.2 0, v.2 1, v.2 2, v.2 3, v.2 4, v.2 5, v.2 6, v.2 7, v.2 8, v.2 9, v.2 10, v.2 11, v.2 12, v.2 13, v.2 14, v.2 15, v.2 16, v.2 17, v.2 18, v.2 19, v.2 20, v.2 21, v.2 22, v.2 23, v.2 24, v.2 25, v.2 26, v.2 27, v.2 28]
def zIL : List (Nat → Int32) := [(fun _ => 0), (fun k => ([0, 0, 0, 0, 0, 0, 0, 1] : List Int32).getD k 0), (fun _ => 0), (fun _ => 0), (upd (upd (upd (upd (upd (fun _ => 0) 0 0) 1 0) 2 10) 3 15) 4 20), (fun _ => 0), (fun k => ([0, 0, 0, 0, 0, 0, 0, 1] : List Int32).getD k 0), (fun _ => 0), (fun _ => 0), (upd (upd (upd (upd (upd (fun _ => 0) 0 0) 1 0) 2 10) 3 15) 4 20), (fun _ => 0), (fun _ => 0), (fun _ => 0), (fun _ => 0), (fun k => ([0, 0, 0, 0, 0, 0, 0, 1] : List Int32).getD k 0), (fun _ => 0), (fun _ => 0), (upd (upd (upd (upd (upd (fun _ => 0) 0 0) 1 0) 2 10) 3 15) 4 20), (fun _ => 0), (fun _ => 0), (fun _ => 0), (fun _ => 0), (fun _ => 0), (fun _ => 0), (fun _ => 0), (fun k => ([0, 0, 0, -1] : List Int32).getD k 0), (fun k => ([0, 0, 0, 0, 0, 0, 0, 1] : List Int32).getD k 0), (fun _ => 0), (fun _ => 0), (upd (upd (upd (upd (upd (fun _ => 0) 0 0) 1 0) 2 10) 3 15) 4 20), (fun _ => 0), (fun _ => 0), (fun _ => 0), (fun _ => 0), (fun k => ([0, -1, 0] : List Int32).getD k 0), (fun _ => 0), (fun k => ([0, -1, 0] : List Int32).getD k 0), (fun _ => 0), (fun k => ([0, -1, 0] : List Int32).getD k 0), (fun _ => 0), (fun k => ([0, -1, 0] : List Int32).getD k 0), (fun _ => 0), (fun k => ([0, -1, 0] : List Int32).getD k 0), (fun _ => 0), (fun k => ([0, -1, 0] : List Int32).getD k 0), (fun _ => 0), (fun k => ([0, -1, 0] : List Int32).getD k 0), (fun _ => 0), (fun k => ([0, -1, 0] : List Int32).getD k 0), (fun _ => 0), (fun k => ([0, 0, 0, 0, 0, 0, 1, -1] : List Int32).getD k 0), (fun _ => 0), (fun _ => 0), (fun _ => 0), (fun _ => 0), (fun _ => 0), (fun _ => 0), (fun _ => 0), (fun _ => 0), (fun _ => 0), (fun _ => 0), (fun _ => 0), (fun _ => 0), (upd (upd (upd (fun _ => 0) 0 10) 1 15) 2 20), (fun _ => 0), (fun _ => 0), (fun _ => 0), (fun _ => 0), (fun _ => 0), (fun _ => 0), (kWf 40), (fun _ => 0), (fun _ => 0), (fun _ => 0), (fun _ => 0), (fun _ => 0), (fun _ => 0), (fun _ => 0), (fun _ => 0), (fun _ => 0)]
def zI (a : Nat) : Nat → Int32 := zIL.getD a (fun _ => 0)
def zα (x : Nat) (u : kTt) (y : Nat) (v : kS) (b : Nat) (tS sS : Nat → Nat) (a : Nat) : Nat := if a < 80 then (zAd x u y v).getD a 0 else if a = 999 then b else if a < 2000 then tS (a - 1000) else sS (a - 2000)
def zaC (u : kTt) (v : kS) (a : Nat) : ClassId := (zAc u v).getD a (u.1.2 0)
def zW0 (L : Nat) (xs : Nat → Int32) : zM := (fun a => if a = 999 then xs else if a = 998 then fun _ => nI L else zI a, fun _ _ => 0)
def zRk : List Nat := [0, 0, 0, 1, 2, 3, 4, 4, 5, 6, 7, 8, 8, 9, 9, 9, 10, 11, 12, 13, 14, 15, 16, 17, 18, 19, 19, 19, 20, 21, 22, 23, 24, 25, 26, 26, 27, 27, 28, 28, 29, 29, 30, 30, 31, 31, 32, 32, 33, 33, 34, 34, 35, 36, 37, 38, 39, 40, 41, 42, 43, 44, 45, 46, 47, 48, 49, 50, 51, 52, 53, 54, 55, 56, 57, 58, 59, 60, 61, 62]
theorem z80s {P : Nat → Prop} {n : Nat} (h : ∀ a, a < n → P a) (h1 : P n) : ∀ a, a < n + 1 → P a := by
  intro a ha
  rcases Nat.lt_or_ge a n with g | g
  · exact h a g
  · have e : a = n := by omega
    rw [e]; exact h1
section KS
variable {x y b L : Nat} {u : kTt} {v : kS} {tS sS : Nat → Nat} {xs : Nat → Int32}
def zFw (x : Nat) (u : kTt) (y : Nat) (v : kS) : va_W := [(x, .inr (5, [.ref (u.2.1 0), .ref (u.2.1 1), .ref (u.2.1 2), .ref (u.2.1 20), .ref (u.2.1 21), .ref (u.1.1 0), .ref (u.1.1 1), .int 0])),
  ((u.2.1 0), .inr (1, [.ref ((u.2.2.1 0).1 0), .ref ((u.2.2.1 0).1 1), .ref ((u.2.2.1 0).1 2), .int 0, .int 0, .int 0, .int 0, .int 1, .ref ((u.2.2.1 0).1 3)])),
  (((u.2.2.1 0).1 0), .inl (((u.2.2.1 0).2 0), 40, .inl (fun _ => 0))),
  (((u.2.2.1 0).1 1), .inl (((u.2.2.1 0).2 1), 24, .inl (fun _ => 0))),
  (((u.2.2.1 0).1 2), .inl (((u.2.2.1 0).2 2), 5, .inl (upd (upd (upd (upd (upd (fun _ => 0) 0 0) 1 0) 2 10) 3 15) 4 20))),
  (((u.2.2.1 0).1 3), .inl (((u.2.2.1 0).2 3), 8, .inl (fun _ => 0))),
  ((u.2.1 1), .inr (1, [.ref ((u.2.2.1 1).1 0), .ref ((u.2.2.1 1).1 1), .ref ((u.2.2.1 1).1 2), .int 0, .int 0, .int 0, .int 0, .int 1, .ref ((u.2.2.1 1).1 3)])),
  (((u.2.2.1 1).1 0), .inl (((u.2.2.1 1).2 0), 40, .inl (fun _ => 0))),
  (((u.2.2.1 1).1 1), .inl (((u.2.2.1 1).2 1), 24, .inl (fun _ => 0))),
  (((u.2.2.1 1).1 2), .inl (((u.2.2.1 1).2 2), 5, .inl (upd (upd (upd (upd (upd (fun _ => 0) 0 0) 1 0) 2 10) 3 15) 4 20))),
  (((u.2.2.1 1).1 3), .inl (((u.2.2.1 1).2 3), 8, .inl (fun _ => 0))),
  ((u.2.1 2), .inr (0, [.ref ((u.2.2.1 2).1 0), .int 0, .int 0, .int 0, .int 0])),
  (((u.2.2.1 2).1 0), .inl (((u.2.2.1 2).2 0), 20, .inl (fun _ => 0))),
  ((u.2.1 20), .inr (2, [.ref ((u.2.2.2 0).2.1), .ref ((u.2.2.2 0).1.1 0), .int 0, .int 0, .ref ((u.2.2.2 0).1.1 1), .ref ((u.2.2.2 0).1.1 2), .ref ((u.2.2.2 0).1.1 3), .ref ((u.2.2.2 0).1.1 4), .ref ((u.2.2.2 0).1.1 5), .int 0, .int 0])),
  (((u.2.2.2 0).2.1), .inr (1, [.ref (((u.2.2.2 0).2.2).1 0), .ref (((u.2.2.2 0).2.2).1 1), .ref (((u.2.2.2 0).2.2).1 2), .int 0, .int 0, .int 0, .int 0, .int 1, .ref (((u.2.2.2 0).2.2).1 3)])),
  ((((u.2.2.2 0).2.2).1 0), .inl ((((u.2.2.2 0).2.2).2 0), 40, .inl (fun _ => 0))),
  ((((u.2.2.2 0).2.2).1 1), .inl ((((u.2.2.2 0).2.2).2 1), 24, .inl (fun _ => 0))),
  ((((u.2.2.2 0).2.2).1 2), .inl ((((u.2.2.2 0).2.2).2 2), 5, .inl (upd (upd (upd (upd (upd (fun _ => 0) 0 0) 1 0) 2 10) 3 15) 4 20))),
  ((((u.2.2.2 0).2.2).1 3), .inl ((((u.2.2.2 0).2.2).2 3), 8, .inl (fun _ => 0))),
  (((u.2.2.2 0).1.1 0), .inl (((u.2.2.2 0).1.2 0), 1024, .inl (fun _ => 0))),
  (((u.2.2.2 0).1.1 1), .inl (((u.2.2.2 0).1.2 1), 4, .inl (fun _ => 0))),
  (((u.2.2.2 0).1.1 2), .inl (((u.2.2.2 0).1.2 2), 4, .inl (fun _ => 0))),
  (((u.2.2.2 0).1.1 3), .inl (((u.2.2.2 0).1.2 3), 9, .inl (fun _ => 0))),
  (((u.2.2.2 0).1.1 4), .inl (((u.2.2.2 0).1.2 4), 8, .inl (fun _ => 0))),
  (((u.2.2.2 0).1.1 5), .inl (((u.2.2.2 0).1.2 5), 8, .inl (fun _ => 0))),
  ((u.2.1 21), .inr (3, [.ref ((u.2.2.2 1).2.1), .ref ((u.2.2.2 1).1.1 0), .int 0, .int (-1)])),
  (((u.2.2.2 1).2.1), .inr (1, [.ref (((u.2.2.2 1).2.2).1 0), .ref (((u.2.2.2 1).2.2).1 1), .ref (((u.2.2.2 1).2.2).1 2), .int 0, .int 0, .int 0, .int 0, .int 1, .ref (((u.2.2.2 1).2.2).1 3)])),
  ((((u.2.2.2 1).2.2).1 0), .inl ((((u.2.2.2 1).2.2).2 0), 40, .inl (fun _ => 0))),
  ((((u.2.2.2 1).2.2).1 1), .inl ((((u.2.2.2 1).2.2).2 1), 24, .inl (fun _ => 0))),
  ((((u.2.2.2 1).2.2).1 2), .inl ((((u.2.2.2 1).2.2).2 2), 5, .inl (upd (upd (upd (upd (upd (fun _ => 0) 0 0) 1 0) 2 10) 3 15) 4 20))),
  ((((u.2.2.2 1).2.2).1 3), .inl ((((u.2.2.2 1).2.2).2 3), 8, .inl (fun _ => 0))),
  (((u.2.2.2 1).1.1 0), .inl (((u.2.2.2 1).1.2 0), 5, .inl (fun _ => 0))),
  ((u.1.1 0), .inl ((u.1.2 0), 8, .inr (.inr (.inr (.inr (va_up (va_up (va_up (va_up (va_up (va_up (va_up (va_up (fun _ => none) 0 (some (u.2.1 3))) 1 (some (u.2.1 4))) 2 (some (u.2.1 5))) 3 (some (u.2.1 6))) 4 (some (u.2.1 7))) 5 (some (u.2.1 8))) 6 (some (u.2.1 9))) 7 (some (u.2.1 10)))))))),
  ((u.1.1 1), .inl ((u.1.2 1), 8, .inl (fun _ => 0))),
  ((u.2.1 3), .inr (4, [.ref ((u.2.2.1 3).1 0), .int (-1), .int 0])),
  (((u.2.2.1 3).1 0), .inl (((u.2.2.1 3).2 0), 160, .inr (.inl (fun _ => 0)))),
  ((u.2.1 4), .inr (4, [.ref ((u.2.2.1 4).1 0), .int (-1), .int 0])),
  (((u.2.2.1 4).1 0), .inl (((u.2.2.1 4).2 0), 160, .inr (.inl (fun _ => 0)))),
  ((u.2.1 5), .inr (4, [.ref ((u.2.2.1 5).1 0), .int (-1), .int 0])),
  (((u.2.2.1 5).1 0), .inl (((u.2.2.1 5).2 0), 160, .inr (.inl (fun _ => 0)))),
  ((u.2.1 6), .inr (4, [.ref ((u.2.2.1 6).1 0), .int (-1), .int 0])),
  (((u.2.2.1 6).1 0), .inl (((u.2.2.1 6).2 0), 160, .inr (.inl (fun _ => 0)))),
  ((u.2.1 7), .inr (4, [.ref ((u.2.2.1 7).1 0), .int (-1), .int 0])),
  (((u.2.2.1 7).1 0), .inl (((u.2.2.1 7).2 0), 160, .inr (.inl (fun _ => 0)))),
  ((u.2.1 8), .inr (4, [.ref ((u.2.2.1 8).1 0), .int (-1), .int 0])),
  (((u.2.2.1 8).1 0), .inl (((u.2.2.1 8).2 0), 160, .inr (.inl (fun _ => 0)))),
  ((u.2.1 9), .inr (4, [.ref ((u.2.2.1 9).1 0), .int (-1), .int 0])),
  (((u.2.2.1 9).1 0), .inl (((u.2.2.1 9).2 0), 160, .inr (.inl (fun _ => 0)))),
  ((u.2.1 10), .inr (4, [.ref ((u.2.2.1 10).1 0), .int (-1), .int 0])),
  (((u.2.2.1 10).1 0), .inl (((u.2.2.1 10).2 0), 160, .inr (.inl (fun _ => 0)))),
  (y, .inr (6, [.int 0, .int 0, .int 0, .int 0, .int 0, .int 0, .int 1, .int (-1), .ref (v.1 0), .ref (v.1 1), .ref (v.1 2), .ref (v.1 3), .ref (v.1 4), .ref (v.1 5), .ref (v.1 6), .ref (v.1 7), .ref (v.1 8), .ref (v.1 9), .ref (v.1 10), .ref (v.1 11), .ref (v.1 12), .ref (v.1 13), .ref (v.1 14), .ref (v.1 15), .ref (v.1 16), .ref (v.1 17), .ref (v.1 18), .ref (v.1 19), .ref (v.1 20), .int 0, .int 0, .int 0, .int 0, .int 0, .ref (v.1 21), .ref (v.1 22), .ref (v.1 23), .ref (v.1 24), .ref (v.1 25), .ref (v.1 26), .int 0, .int 0, .int 0, .int 0, .ref (v.1 27), .ref (v.1 28), .int 0, .int 0])),
  ((v.1 0), .inl ((v.2 0), 8, .inl (fun _ => 0))),
  ((v.1 1), .inl ((v.2 1), 8, .inl (fun _ => 0))),
  ((v.1 2), .inl ((v.2 2), 8, .inl (fun _ => 0))),
  ((v.1 3), .inl ((v.2 3), 8, .inl (fun _ => 0))),
  ((v.1 4), .inl ((v.2 4), 8, .inl (fun _ => 0))),
  ((v.1 5), .inl ((v.2 5), 8, .inl (fun _ => 0))),
  ((v.1 6), .inl ((v.2 6), 4, .inl (fun _ => 0))),
  ((v.1 7), .inl ((v.2 7), 4, .inl (fun _ => 0))),
  ((v.1 8), .inl ((v.2 8), 4, .inl (fun _ => 0))),
  ((v.1 9), .inl ((v.2 9), 4, .inl (fun _ => 0))),
  ((v.1 10), .inl ((v.2 10), 4, .inl (fun _ => 0))),
  ((v.1 11), .inl ((v.2 11), 4, .inl (fun _ => 0))),
  ((v.1 12), .inl ((v.2 12), 3, .inl (upd (upd (upd (fun _ => 0) 0 10) 1 15) 2 20))),
  ((v.1 13), .inl ((v.2 13), 8, .inl (fun _ => 0))),
  ((v.1 14), .inl ((v.2 14), 8, .inl (fun _ => 0))),
  ((v.1 15), .inl ((v.2 15), 8, .inl (fun _ => 0))),
  ((v.1 16), .inl ((v.2 16), 8, .inl (fun _ => 0))),
  ((v.1 17), .inl ((v.2 17), 1280, .inr (.inl (fun _ => 0)))),
  ((v.1 18), .inl ((v.2 18), 160, .inr (.inl (fun _ => 0)))),
  ((v.1 19), .inl ((v.2 19), 40, .inl (kWf 40))),
  ((v.1 20), .inl ((v.2 20), 5, .inl (fun _ => 0))),
  ((v.1 21), .inl ((v.2 21), 100, .inl (fun _ => 0))),
  ((v.1 22), .inl ((v.2 22), 100, .inl (fun _ => 0))),
  ((v.1 23), .inl ((v.2 23), 4, .inl (fun _ => 0))),
  ((v.1 24), .inl ((v.2 24), 4, .inl (fun _ => 0))),
  ((v.1 25), .inl ((v.2 25), 8, .inl (fun _ => 0))),
  ((v.1 26), .inl ((v.2 26), 8, .inl (fun _ => 0))),
  ((v.1 27), .inl ((v.2 27), 4, .inl (fun _ => 0))),
  ((v.1 28), .inl ((v.2 28), 20, .inl (fun _ => 0)))]
def zFt (u : kTt) (v : kS) : List (ClassId × FieldType) := [(((u.2.2.1 0).2 0), .int), (((u.2.2.1 0).2 1), .int), (((u.2.2.1 0).2 2), .int), (((u.2.2.1 0).2 3), .int), (((u.2.2.1 1).2 0), .int), (((u.2.2.1 1).2 1), .int), (((u.2.2.1 1).2 2), .int), (((u.2.2.1 1).2 3), .int), (((u.2.2.1 2).2 0), .int), ((((u.2.2.2 0).2.2).2 0), .int), ((((u.2.2.2 0).2.2).2 1), .int), ((((u.2.2.2 0).2.2).2 2), .int), ((((u.2.2.2 0).2.2).2 3), .int), (((u.2.2.2 0).1.2 0), .int), (((u.2.2.2 0).1.2 1), .int), (((u.2.2.2 0).1.2 2), .int), (((u.2.2.2 0).1.2 3), .int), (((u.2.2.2 0).1.2 4), .int), (((u.2.2.2 0).1.2 5), .int), ((((u.2.2.2 1).2.2).2 0), .int), ((((u.2.2.2 1).2.2).2 1), .int), ((((u.2.2.2 1).2.2).2 2), .int), ((((u.2.2.2 1).2.2).2 3), .int), (((u.2.2.2 1).1.2 0), .int), ((u.1.2 0), .object "TablesAndTips$Shelf"), ((u.1.2 1), .int), (((u.2.2.1 3).2 0), .long), (((u.2.2.1 4).2 0), .long), (((u.2.2.1 5).2 0), .long), (((u.2.2.1 6).2 0), .long), (((u.2.2.1 7).2 0), .long), (((u.2.2.1 8).2 0), .long), (((u.2.2.1 9).2 0), .long), (((u.2.2.1 10).2 0), .long), ((v.2 0), .int), ((v.2 1), .int), ((v.2 2), .int), ((v.2 3), .int), ((v.2 4), .int), ((v.2 5), .int), ((v.2 6), .int), ((v.2 7), .int), ((v.2 8), .int), ((v.2 9), .int), ((v.2 10), .int), ((v.2 11), .int), ((v.2 12), .int), ((v.2 13), .int), ((v.2 14), .int), ((v.2 15), .int), ((v.2 16), .int), ((v.2 17), .long), ((v.2 18), .long), ((v.2 19), .int), ((v.2 20), .int), ((v.2 21), .int), ((v.2 22), .int), ((v.2 23), .int), ((v.2 24), .int), ((v.2 25), .int), ((v.2 26), .int), ((v.2 27), .int), ((v.2 28), .int)]
theorem zFw_eq : kwT x u ++ kwM y v = zFw x u y v := rfl
theorem zFt_eq : ktT u ++ ktM v = zFt u v := rfl
def zPa (x : Nat) (u : kTt) (y : Nat) (v : kS) (b : Nat) (tS sS : Nat → Nat) (L : Nat) (xs : Nat → Int32) (a : Nat) : Prop := (zFw x u y v)[a]? = some (zα x u y v b tS sS a, zcell (zα x u y v b tS sS) (zaC u v) (zW0 L xs) a)
theorem zPa_0 : zPa x u y v b tS sS L xs 0 := rfl
theorem zPa_1 : zPa x u y v b tS sS L xs 1 := rfl
theorem zPa_2 : zPa x u y v b tS sS L xs 2 := rfl
theorem zPa_3 : zPa x u y v b tS sS L xs 3 := rfl
theorem zPa_4 : zPa x u y v b tS sS L xs 4 := rfl
theorem zPa_5 : zPa x u y v b tS sS L xs 5 := rfl
theorem zPa_6 : zPa x u y v b tS sS L xs 6 := rfl
theorem zPa_7 : zPa x u y v b tS sS L xs 7 := rfl
theorem zPa_8 : zPa x u y v b tS sS L xs 8 := rfl
theorem zPa_9 : zPa x u y v b tS sS L xs 9 := rfl
theorem zPa_10 : zPa x u y v b tS sS L xs 10 := rfl
theorem zPa_11 : zPa x u y v b tS sS L xs 11 := rfl
theorem zPa_12 : zPa x u y v b tS sS L xs 12 := rfl
theorem zPa_13 : zPa x u y v b tS sS L xs 13 := rfl
theorem zPa_14 : zPa x u y v b tS sS L xs 14 := rfl
theorem zPa_15 : zPa x u y v b tS sS L xs 15 := rfl
theorem zPa_16 : zPa x u y v b tS sS L xs 16 := rfl
theorem zPa_17 : zPa x u y v b tS sS L xs 17 := rfl
theorem zPa_18 : zPa x u y v b tS sS L xs 18 := rfl
theorem zPa_19 : zPa x u y v b tS sS L xs 19 := rfl
theorem zPa_20 : zPa x u y v b tS sS L xs 20 := rfl
theorem zPa_21 : zPa x u y v b tS sS L xs 21 := rfl
theorem zPa_22 : zPa x u y v b tS sS L xs 22 := rfl
theorem zPa_23 : zPa x u y v b tS sS L xs 23 := rfl
theorem zPa_24 : zPa x u y v b tS sS L xs 24 := rfl
theorem zPa_25 : zPa x u y v b tS sS L xs 25 := rfl
theorem zPa_26 : zPa x u y v b tS sS L xs 26 := rfl
theorem zPa_27 : zPa x u y v b tS sS L xs 27 := rfl
theorem zPa_28 : zPa x u y v b tS sS L xs 28 := rfl
theorem zPa_29 : zPa x u y v b tS sS L xs 29 := rfl
theorem zPa_30 : zPa x u y v b tS sS L xs 30 := rfl
theorem zPa_31 : zPa x u y v b tS sS L xs 31 := rfl
theorem zPa_33 : zPa x u y v b tS sS L xs 33 := rfl
theorem zPa_34 : zPa x u y v b tS sS L xs 34 := rfl
theorem zPa_35 : zPa x u y v b tS sS L xs 35 := rfl
theorem zPa_36 : zPa x u y v b tS sS L xs 36 := rfl
theorem zPa_37 : zPa x u y v b tS sS L xs 37 := rfl
theorem zPa_38 : zPa x u y v b tS sS L xs 38 := rfl
theorem zPa_39 : zPa x u y v b tS sS L xs 39 := rfl
theorem zPa_40 : zPa x u y v b tS sS L xs 40 := rfl
theorem zPa_41 : zPa x u y v b tS sS L xs 41 := rfl
theorem zPa_42 : zPa x u y v b tS sS L xs 42 := rfl
theorem zPa_43 : zPa x u y v b tS sS L xs 43 := rfl
theorem zPa_44 : zPa x u y v b tS sS L xs 44 := rfl
theorem zPa_45 : zPa x u y v b tS sS L xs 45 := rfl
theorem zPa_46 : zPa x u y v b tS sS L xs 46 := rfl
theorem zPa_47 : zPa x u y v b tS sS L xs 47 := rfl
theorem zPa_48 : zPa x u y v b tS sS L xs 48 := rfl
theorem zPa_49 : zPa x u y v b tS sS L xs 49 := rfl
theorem zPa_50 : zPa x u y v b tS sS L xs 50 := rfl
theorem zPa_51 : zPa x u y v b tS sS L xs 51 := rfl
theorem zPa_52 : zPa x u y v b tS sS L xs 52 := rfl
theorem zPa_53 : zPa x u y v b tS sS L xs 53 := rfl
theorem zPa_54 : zPa x u y v b tS sS L xs 54 := rfl
theorem zPa_55 : zPa x u y v b tS sS L xs 55 := rfl
theorem zPa_56 : zPa x u y v b tS sS L xs 56 := rfl
theorem zPa_57 : zPa x u y v b tS sS L xs 57 := rfl
theorem zPa_58 : zPa x u y v b tS sS L xs 58 := rfl
theorem zPa_59 : zPa x u y v b tS sS L xs 59 := rfl
theorem zPa_60 : zPa x u y v b tS sS L xs 60 := rfl
theorem zPa_61 : zPa x u y v b tS sS L xs 61 := rfl
theorem zPa_62 : zPa x u y v b tS sS L xs 62 := rfl
theorem zPa_63 : zPa x u y v b tS sS L xs 63 := rfl
theorem zPa_64 : zPa x u y v b tS sS L xs 64 := rfl
theorem zPa_65 : zPa x u y v b tS sS L xs 65 := rfl
theorem zPa_66 : zPa x u y v b tS sS L xs 66 := rfl
theorem zPa_67 : zPa x u y v b tS sS L xs 67 := rfl
theorem zPa_68 : zPa x u y v b tS sS L xs 68 := rfl
theorem zPa_69 : zPa x u y v b tS sS L xs 69 := rfl
theorem zPa_70 : zPa x u y v b tS sS L xs 70 := rfl
theorem zPa_71 : zPa x u y v b tS sS L xs 71 := rfl
theorem zPa_72 : zPa x u y v b tS sS L xs 72 := rfl
theorem zPa_73 : zPa x u y v b tS sS L xs 73 := rfl
theorem zPa_74 : zPa x u y v b tS sS L xs 74 := rfl
theorem zPa_75 : zPa x u y v b tS sS L xs 75 := rfl
theorem zPa_76 : zPa x u y v b tS sS L xs 76 := rfl
theorem zPa_77 : zPa x u y v b tS sS L xs 77 := rfl
theorem zPa_78 : zPa x u y v b tS sS L xs 78 := rfl
theorem zPa_79 : zPa x u y v b tS sS L xs 79 := rfl
theorem zPa_all : ∀ a, a < 80 → a ≠ 32 → zPa x u y v b tS sS L xs a :=
  z80s (n := 79) (z80s (n := 78) (z80s (n := 77) (z80s (n := 76) (z80s (n := 75) (z80s (n := 74) (z80s (n := 73) (z80s (n := 72) (z80s (n := 71) (z80s (n := 70) (z80s (n := 69) (z80s (n := 68) (z80s (n := 67) (z80s (n := 66) (z80s (n := 65) (z80s (n := 64) (z80s (n := 63) (z80s (n := 62) (z80s (n := 61) (z80s (n := 60) (z80s (n := 59) (z80s (n := 58) (z80s (n := 57) (z80s (n := 56) (z80s (n := 55) (z80s (n := 54) (z80s (n := 53) (z80s (n := 52) (z80s (n := 51) (z80s (n := 50) (z80s (n := 49) (z80s (n := 48) (z80s (n := 47) (z80s (n := 46) (z80s (n := 45) (z80s (n := 44) (z80s (n := 43) (z80s (n := 42) (z80s (n := 41) (z80s (n := 40) (z80s (n := 39) (z80s (n := 38) (z80s (n := 37) (z80s (n := 36) (z80s (n := 35) (z80s (n := 34) (z80s (n := 33) (z80s (n := 32) (z80s (n := 31) (z80s (n := 30) (z80s (n := 29) (z80s (n := 28) (z80s (n := 27) (z80s (n := 26) (z80s (n := 25) (z80s (n := 24) (z80s (n := 23) (z80s (n := 22) (z80s (n := 21) (z80s (n := 20) (z80s (n := 19) (z80s (n := 18) (z80s (n := 17) (z80s (n := 16) (z80s (n := 15) (z80s (n := 14) (z80s (n := 13) (z80s (n := 12) (z80s (n := 11) (z80s (n := 10) (z80s (n := 9) (z80s (n := 8) (z80s (n := 7) (z80s (n := 6) (z80s (n := 5) (z80s (n := 4) (z80s (n := 3) (z80s (n := 2) (z80s (n := 1) (z80s (n := 0) (fun a h => absurd h (Nat.not_lt_zero a)) (fun _ => zPa_0)) (fun _ => zPa_1)) (fun _ => zPa_2)) (fun _ => zPa_3)) (fun _ => zPa_4)) (fun _ => zPa_5)) (fun _ => zPa_6)) (fun _ => zPa_7)) (fun _ => zPa_8)) (fun _ => zPa_9)) (fun _ => zPa_10)) (fun _ => zPa_11)) (fun _ => zPa_12)) (fun _ => zPa_13)) (fun _ => zPa_14)) (fun _ => zPa_15)) (fun _ => zPa_16)) (fun _ => zPa_17)) (fun _ => zPa_18)) (fun _ => zPa_19)) (fun _ => zPa_20)) (fun _ => zPa_21)) (fun _ => zPa_22)) (fun _ => zPa_23)) (fun _ => zPa_24)) (fun _ => zPa_25)) (fun _ => zPa_26)) (fun _ => zPa_27)) (fun _ => zPa_28)) (fun _ => zPa_29)) (fun _ => zPa_30)) (fun _ => zPa_31)) (fun h => absurd rfl h)) (fun _ => zPa_33)) (fun _ => zPa_34)) (fun _ => zPa_35)) (fun _ => zPa_36)) (fun _ => zPa_37)) (fun _ => zPa_38)) (fun _ => zPa_39)) (fun _ => zPa_40)) (fun _ => zPa_41)) (fun _ => zPa_42)) (fun _ => zPa_43)) (fun _ => zPa_44)) (fun _ => zPa_45)) (fun _ => zPa_46)) (fun _ => zPa_47)) (fun _ => zPa_48)) (fun _ => zPa_49)) (fun _ => zPa_50)) (fun _ => zPa_51)) (fun _ => zPa_52)) (fun _ => zPa_53)) (fun _ => zPa_54)) (fun _ => zPa_55)) (fun _ => zPa_56)) (fun _ => zPa_57)) (fun _ => zPa_58)) (fun _ => zPa_59)) (fun _ => zPa_60)) (fun _ => zPa_61)) (fun _ => zPa_62)) (fun _ => zPa_63)) (fun _ => zPa_64)) (fun _ => zPa_65)) (fun _ => zPa_66)) (fun _ => zPa_67)) (fun _ => zPa_68)) (fun _ => zPa_69)) (fun _ => zPa_70)) (fun _ => zPa_71)) (fun _ => zPa_72)) (fun _ => zPa_73)) (fun _ => zPa_74)) (fun _ => zPa_75)) (fun _ => zPa_76)) (fun _ => zPa_77)) (fun _ => zPa_78)) (fun _ => zPa_79)
theorem zPa_32 : (zFw x u y v)[32]? = some (zα x u y v b tS sS 32, .inl (zaC u v 32, 8, .inr (.inr (.inr (.inr (va_up (va_up (va_up (va_up (va_up (va_up (va_up (va_up (fun _ => none) 0 (some (u.2.1 3))) 1 (some (u.2.1 4))) 2 (some (u.2.1 5))) 3 (some (u.2.1 6))) 4 (some (u.2.1 7))) 5 (some (u.2.1 8))) 6 (some (u.2.1 9))) 7 (some (u.2.1 10)))))))) := rfl
theorem zKa_i : ∀ a, a < 80 → zTag a = 10 → (zFt u v)[zRk.getD a 0]? = some (zaC u v a, .int) :=
  z80s (n := 79) (z80s (n := 78) (z80s (n := 77) (z80s (n := 76) (z80s (n := 75) (z80s (n := 74) (z80s (n := 73) (z80s (n := 72) (z80s (n := 71) (z80s (n := 70) (z80s (n := 69) (z80s (n := 68) (z80s (n := 67) (z80s (n := 66) (z80s (n := 65) (z80s (n := 64) (z80s (n := 63) (z80s (n := 62) (z80s (n := 61) (z80s (n := 60) (z80s (n := 59) (z80s (n := 58) (z80s (n := 57) (z80s (n := 56) (z80s (n := 55) (z80s (n := 54) (z80s (n := 53) (z80s (n := 52) (z80s (n := 51) (z80s (n := 50) (z80s (n := 49) (z80s (n := 48) (z80s (n := 47) (z80s (n := 46) (z80s (n := 45) (z80s (n := 44) (z80s (n := 43) (z80s (n := 42) (z80s (n := 41) (z80s (n := 40) (z80s (n := 39) (z80s (n := 38) (z80s (n := 37) (z80s (n := 36) (z80s (n := 35) (z80s (n := 34) (z80s (n := 33) (z80s (n := 32) (z80s (n := 31) (z80s (n := 30) (z80s (n := 29) (z80s (n := 28) (z80s (n := 27) (z80s (n := 26) (z80s (n := 25) (z80s (n := 24) (z80s (n := 23) (z80s (n := 22) (z80s (n := 21) (z80s (n := 20) (z80s (n := 19) (z80s (n := 18) (z80s (n := 17) (z80s (n := 16) (z80s (n := 15) (z80s (n := 14) (z80s (n := 13) (z80s (n := 12) (z80s (n := 11) (z80s (n := 10) (z80s (n := 9) (z80s (n := 8) (z80s (n := 7) (z80s (n := 6) (z80s (n := 5) (z80s (n := 4) (z80s (n := 3) (z80s (n := 2) (z80s (n := 1) (z80s (n := 0) (fun a h => absurd h (Nat.not_lt_zero a)) (fun h => absurd h (by decide))) (fun h => absurd h (by decide))) (fun _ => rfl)) (fun _ => rfl)) (fun _ => rfl)) (fun _ => rfl)) (fun h => absurd h (by decide))) (fun _ => rfl)) (fun _ => rfl)) (fun _ => rfl)) (fun _ => rfl)) (fun h => absurd h (by decide))) (fun _ => rfl)) (fun h => absurd h (by decide))) (fun h => absurd h (by decide))) (fun _ => rfl)) (fun _ => rfl)) (fun _ => rfl)) (fun _ => rfl)) (fun _ => rfl)) (fun _ => rfl)) (fun _ => rfl)) (fun _ => rfl)) (fun _ => rfl)) (fun _ => rfl)) (fun h => absurd h (by decide))) (fun h => absurd h (by decide))) (fun _ => rfl)) (fun _ => rfl)) (fun _ => rfl)) (fun _ => rfl)) (fun _ => rfl)) (fun h => absurd h (by decide))) (fun _ => rfl)) (fun h => absurd h (by decide))) (fun h => absurd h (by decide))) (fun h => absurd h (by decide))) (fun h => absurd h (by decide))) (fun h => absurd h (by decide))) (fun h => absurd h (by decide))) (fun h => absurd h (by decide))) (fun h => absurd h (by decide))) (fun h => absurd h (by decide))) (fun h => absurd h (by decide))) (fun h => absurd h (by decide))) (fun h => absurd h (by decide))) (fun h => absurd h (by decide))) (fun h => absurd h (by decide))) (fun h => absurd h (by decide))) (fun h => absurd h (by decide))) (fun h => absurd h (by decide))) (fun _ => rfl)) (fun _ => rfl)) (fun _ => rfl)) (fun _ => rfl)) (fun _ => rfl)) (fun _ => rfl)) (fun _ => rfl)) (fun _ => rfl)) (fun _ => rfl)) (fun _ => rfl)) (fun _ => rfl)) (fun _ => rfl)) (fun _ => rfl)) (fun _ => rfl)) (fun _ => rfl)) (fun _ => rfl)) (fun _ => rfl)) (fun h => absurd h (by decide))) (fun h => absurd h (by decide))) (fun _ => rfl)) (fun _ => rfl)) (fun _ => rfl)) (fun _ => rfl)) (fun _ => rfl)) (fun _ => rfl)) (fun _ => rfl)) (fun _ => rfl)) (fun _ => rfl)) (fun _ => rfl)
theorem zKa_l : ∀ a, a < 80 → zTag a = 11 → (zFt u v)[zRk.getD a 0]? = some (zaC u v a, .long) :=
  z80s (n := 79) (z80s (n := 78) (z80s (n := 77) (z80s (n := 76) (z80s (n := 75) (z80s (n := 74) (z80s (n := 73) (z80s (n := 72) (z80s (n := 71) (z80s (n := 70) (z80s (n := 69) (z80s (n := 68) (z80s (n := 67) (z80s (n := 66) (z80s (n := 65) (z80s (n := 64) (z80s (n := 63) (z80s (n := 62) (z80s (n := 61) (z80s (n := 60) (z80s (n := 59) (z80s (n := 58) (z80s (n := 57) (z80s (n := 56) (z80s (n := 55) (z80s (n := 54) (z80s (n := 53) (z80s (n := 52) (z80s (n := 51) (z80s (n := 50) (z80s (n := 49) (z80s (n := 48) (z80s (n := 47) (z80s (n := 46) (z80s (n := 45) (z80s (n := 44) (z80s (n := 43) (z80s (n := 42) (z80s (n := 41) (z80s (n := 40) (z80s (n := 39) (z80s (n := 38) (z80s (n := 37) (z80s (n := 36) (z80s (n := 35) (z80s (n := 34) (z80s (n := 33) (z80s (n := 32) (z80s (n := 31) (z80s (n := 30) (z80s (n := 29) (z80s (n := 28) (z80s (n := 27) (z80s (n := 26) (z80s (n := 25) (z80s (n := 24) (z80s (n := 23) (z80s (n := 22) (z80s (n := 21) (z80s (n := 20) (z80s (n := 19) (z80s (n := 18) (z80s (n := 17) (z80s (n := 16) (z80s (n := 15) (z80s (n := 14) (z80s (n := 13) (z80s (n := 12) (z80s (n := 11) (z80s (n := 10) (z80s (n := 9) (z80s (n := 8) (z80s (n := 7) (z80s (n := 6) (z80s (n := 5) (z80s (n := 4) (z80s (n := 3) (z80s (n := 2) (z80s (n := 1) (z80s (n := 0) (fun a h => absurd h (Nat.not_lt_zero a)) (fun h => absurd h (by decide))) (fun h => absurd h (by decide))) (fun h => absurd h (by decide))) (fun h => absurd h (by decide))) (fun h => absurd h (by decide))) (fun h => absurd h (by decide))) (fun h => absurd h (by decide))) (fun h => absurd h (by decide))) (fun h => absurd h (by decide))) (fun h => absurd h (by decide))) (fun h => absurd h (by decide))) (fun h => absurd h (by decide))) (fun h => absurd h (by decide))) (fun h => absurd h (by decide))) (fun h => absurd h (by decide))) (fun h => absurd h (by decide))) (fun h => absurd h (by decide))) (fun h => absurd h (by decide))) (fun h => absurd h (by decide))) (fun h => absurd h (by decide))) (fun h => absurd h (by decide))) (fun h => absurd h (by decide))) (fun h => absurd h (by decide))) (fun h => absurd h (by decide))) (fun h => absurd h (by decide))) (fun h => absurd h (by decide))) (fun h => absurd h (by decide))) (fun h => absurd h (by decide))) (fun h => absurd h (by decide))) (fun h => absurd h (by decide))) (fun h => absurd h (by decide))) (fun h => absurd h (by decide))) (fun h => absurd h (by decide))) (fun h => absurd h (by decide))) (fun h => absurd h (by decide))) (fun _ => rfl)) (fun h => absurd h (by decide))) (fun _ => rfl)) (fun h => absurd h (by decide))) (fun _ => rfl)) (fun h => absurd h (by decide))) (fun _ => rfl)) (fun h => absurd h (by decide))) (fun _ => rfl)) (fun h => absurd h (by decide))) (fun _ => rfl)) (fun h => absurd h (by decide))) (fun _ => rfl)) (fun h => absurd h (by decide))) (fun _ => rfl)) (fun h => absurd h (by decide))) (fun h => absurd h (by decide))) (fun h => absurd h (by decide))) (fun h => absurd h (by decide))) (fun h => absurd h (by decide))) (fun h => absurd h (by decide))) (fun h => absurd h (by decide))) (fun h => absurd h (by decide))) (fun h => absurd h (by decide))) (fun h => absurd h (by decide))) (fun h => absurd h (by decide))) (fun h => absurd h (by decide))) (fun h => absurd h (by decide))) (fun h => absurd h (by decide))) (fun h => absurd h (by decide))) (fun h => absurd h (by decide))) (fun h => absurd h (by decide))) (fun h => absurd h (by decide))) (fun _ => rfl)) (fun _ => rfl)) (fun h => absurd h (by decide))) (fun h => absurd h (by decide))) (fun h => absurd h (by decide))) (fun h => absurd h (by decide))) (fun h => absurd h (by decide))) (fun h => absurd h (by decide))) (fun h => absurd h (by decide))) (fun h => absurd h (by decide))) (fun h => absurd h (by decide))) (fun h => absurd h (by decide))
theorem zKa_q : ∀ a, a < 80 → zTag a = 12 → (zFt u v)[zRk.getD a 0]? = some (zaC u v a, .object "TablesAndTips$Shelf") :=
  z80s (n := 79) (z80s (n := 78) (z80s (n := 77) (z80s (n := 76) (z80s (n := 75) (z80s (n := 74) (z80s (n := 73) (z80s (n := 72) (z80s (n := 71) (z80s (n := 70) (z80s (n := 69) (z80s (n := 68) (z80s (n := 67) (z80s (n := 66) (z80s (n := 65) (z80s (n := 64) (z80s (n := 63) (z80s (n := 62) (z80s (n := 61) (z80s (n := 60) (z80s (n := 59) (z80s (n := 58) (z80s (n := 57) (z80s (n := 56) (z80s (n := 55) (z80s (n := 54) (z80s (n := 53) (z80s (n := 52) (z80s (n := 51) (z80s (n := 50) (z80s (n := 49) (z80s (n := 48) (z80s (n := 47) (z80s (n := 46) (z80s (n := 45) (z80s (n := 44) (z80s (n := 43) (z80s (n := 42) (z80s (n := 41) (z80s (n := 40) (z80s (n := 39) (z80s (n := 38) (z80s (n := 37) (z80s (n := 36) (z80s (n := 35) (z80s (n := 34) (z80s (n := 33) (z80s (n := 32) (z80s (n := 31) (z80s (n := 30) (z80s (n := 29) (z80s (n := 28) (z80s (n := 27) (z80s (n := 26) (z80s (n := 25) (z80s (n := 24) (z80s (n := 23) (z80s (n := 22) (z80s (n := 21) (z80s (n := 20) (z80s (n := 19) (z80s (n := 18) (z80s (n := 17) (z80s (n := 16) (z80s (n := 15) (z80s (n := 14) (z80s (n := 13) (z80s (n := 12) (z80s (n := 11) (z80s (n := 10) (z80s (n := 9) (z80s (n := 8) (z80s (n := 7) (z80s (n := 6) (z80s (n := 5) (z80s (n := 4) (z80s (n := 3) (z80s (n := 2) (z80s (n := 1) (z80s (n := 0) (fun a h => absurd h (Nat.not_lt_zero a)) (fun h => absurd h (by decide))) (fun h => absurd h (by decide))) (fun h => absurd h (by decide))) (fun h => absurd h (by decide))) (fun h => absurd h (by decide))) (fun h => absurd h (by decide))) (fun h => absurd h (by decide))) (fun h => absurd h (by decide))) (fun h => absurd h (by decide))) (fun h => absurd h (by decide))) (fun h => absurd h (by decide))) (fun h => absurd h (by decide))) (fun h => absurd h (by decide))) (fun h => absurd h (by decide))) (fun h => absurd h (by decide))) (fun h => absurd h (by decide))) (fun h => absurd h (by decide))) (fun h => absurd h (by decide))) (fun h => absurd h (by decide))) (fun h => absurd h (by decide))) (fun h => absurd h (by decide))) (fun h => absurd h (by decide))) (fun h => absurd h (by decide))) (fun h => absurd h (by decide))) (fun h => absurd h (by decide))) (fun h => absurd h (by decide))) (fun h => absurd h (by decide))) (fun h => absurd h (by decide))) (fun h => absurd h (by decide))) (fun h => absurd h (by decide))) (fun h => absurd h (by decide))) (fun h => absurd h (by decide))) (fun _ => rfl)) (fun h => absurd h (by decide))) (fun h => absurd h (by decide))) (fun h => absurd h (by decide))) (fun h => absurd h (by decide))) (fun h => absurd h (by decide))) (fun h => absurd h (by decide))) (fun h => absurd h (by decide))) (fun h => absurd h (by decide))) (fun h => absurd h (by decide))) (fun h => absurd h (by decide))) (fun h => absurd h (by decide))) (fun h => absurd h (by decide))) (fun h => absurd h (by decide))) (fun h => absurd h (by decide))) (fun h => absurd h (by decide))) (fun h => absurd h (by decide))) (fun h => absurd h (by decide))) (fun h => absurd h (by decide))) (fun h => absurd h (by decide))) (fun h => absurd h (by decide))) (fun h => absurd h (by decide))) (fun h => absurd h (by decide))) (fun h => absurd h (by decide))) (fun h => absurd h (by decide))) (fun h => absurd h (by decide))) (fun h => absurd h (by decide))) (fun h => absurd h (by decide))) (fun h => absurd h (by decide))) (fun h => absurd h (by decide))) (fun h => absurd h (by decide))) (fun h => absurd h (by decide))) (fun h => absurd h (by decide))) (fun h => absurd h (by decide))) (fun h => absurd h (by decide))) (fun h => absurd h (by decide))) (fun h => absurd h (by decide))) (fun h => absurd h (by decide))) (fun h => absurd h (by decide))) (fun h => absurd h (by decide))) (fun h => absurd h (by decide))) (fun h => absurd h (by decide))) (fun h => absurd h (by decide))) (fun h => absurd h (by decide))) (fun h => absurd h (by decide))) (fun h => absurd h (by decide))) (fun h => absurd h (by decide))) (fun h => absurd h (by decide))
end KS
