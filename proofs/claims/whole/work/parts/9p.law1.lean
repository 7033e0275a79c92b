theorem lgc (x : Int64) : lg_cmp x x = 0 := by
  unfold lg_cmp
  simp
theorem z999 : zTag 999 = 21 := by decide
theorem zrun_rt : ∀ n d M pc ls st w r w1, zrun n d M pc ls st w = some (r, w1) → (zrt M = 1 ∨ zrt M = 2 → ∃ x, r = some (.int x)) ∧ (zrt M = 3 → ∃ x, r = some (.long x)) := by
  intro n
  induction n with
  | zero => intro d M pc ls st w r w1 h; cases h
  | succ n ih =>
    intro d M pc ls st w r w1 hrun
    have hgo : zgo (zrun n) d M pc ls st w = some (r, w1) := hrun
    unfold zgo at hgo
    cases hd : decode (zcode M) pc with
    | error e => rw [hd] at hgo; cases hgo
    | ok q =>
      obtain ⟨ins, len⟩ := q
      rw [hd] at hgo
      dsimp only at hgo
      by_cases hL : zlen ins len = true
      · rw [if_pos hL] at hgo
        cases hz : zstep M ins pc len ls st w with
        | inl q =>
          rw [hz] at hgo
          exact ih _ _ _ _ _ _ _ _ hgo
        | inr z =>
          rw [hz] at hgo
          cases z with
          | inl q =>
            dsimp only at hgo
            cases d with
            | zero => cases hgo
            | succ d =>
              dsimp only at hgo
              cases h1 : zcal (zrun n) d q.1 q.2.1 w with
              | none => rw [h1] at hgo; cases hgo
              | some q1 =>
                rw [h1] at hgo
                have hgo : zrun n (d + 1) M (pc + 3) ls (zpush q1.1 q.2.2) q1.2 = some (r, w1) := hgo
                exact ih _ _ _ _ _ _ _ _ hgo
          | inr z =>
            cases z with
            | none => cases hgo
            | some v =>
              cases hgo
              rcases zstep_ret hz with ⟨-, x, rfl, -, h5⟩ | ⟨-, x, rfl, -, h5⟩ | ⟨-, x, rfl, -, h5, -⟩ | ⟨-, rfl, -, h5⟩
              · exact ⟨fun _ => ⟨x, rfl⟩, fun h => by omega⟩
              · exact ⟨fun h => by omega, fun _ => ⟨x, rfl⟩⟩
              · exact ⟨fun h => by omega, fun h => by omega⟩
              · exact ⟨fun h => by omega, fun h => by omega⟩
      · rw [if_neg hL] at hgo
        cases hgo
theorem cal_rt {d M : Nat} {as : List Value} {w w1 : zM} {v : Value} (h : cal d M as w = some (some v, w1)) : (zrt M = 1 ∨ zrt M = 2 → ∃ x, v = .int x) ∧ (zrt M = 3 → ∃ x, v = .long x) := by
  unfold cal zcal at h
  by_cases hlen : (zflat as).length ≤ zmaxl M
  · rw [if_pos hlen] at h
    obtain ⟨n, hn⟩ := den_iff.mp h
    obtain ⟨h1, h2⟩ := zrun_rt n _ _ _ _ _ _ _ _ hn
    refine ⟨fun g => ?_, fun g => ?_⟩
    · obtain ⟨x, e⟩ := h1 g
      exact ⟨x, Option.some.inj e⟩
    · obtain ⟨x, e⟩ := h2 g
      exact ⟨x, Option.some.inj e⟩
  · rw [if_neg hlen] at h
    cases h
def lWd (w : zM) (S : Nat → Int32) (LL : Nat) : Prop := w.1 998 0 = nI LL ∧ w.1 999 = S
theorem rl_W {n m LL : Nat} {w : zM} {S : Nat → Int32} (A : zRl w S (nI LL) n m) : lWd w S LL := ⟨A.2.2.2.2.2.2.1.2.1, A.2.2.2.2.2.2.1.2.2⟩
theorem rl_Wk {LL : Nat} {w w1 : zM} {S : Nat → Int32} (A : lWd w S LL) (k : zKe w w1) : lWd w1 S LL := ⟨by rw [k.1]; exact A.1, by rw [k.2]; exact A.2⟩
theorem zisS_n {w : zM} {LL j : Nat} (h : w.1 998 0 = nI LL) (hj : j < LL) (hL : LL ≤ 3072) : zisS w (nI j) = true := by
  unfold zisS
  rw [h, nI_toInt (by omega), nI_toInt (by omega)]
  exact decide_eq_true ⟨by omega, by omega⟩
theorem law_E {i LL : Nat} {w : zM} {S : Nat → Int32} (A : lWd w S LL) (hi : i + 6 ≤ LL) (hL : LL ≤ 3072) : zisS w (nI (i + 1)) = true ∧ zisS w (nI (i + 2)) = true ∧ zisS w (nI (i + 3)) = true ∧ zisS w (nI (i + 4)) = true ∧ zisS w (nI (i + 5)) = true ∧ w.1 999 = S :=
  ⟨zisS_n A.1 (by omega) hL, zisS_n A.1 (by omega) hL, zisS_n A.1 (by omega) hL, zisS_n A.1 (by omega) hL, zisS_n A.1 (by omega) hL, A.2⟩
theorem law_c {i LL : Nat} (hi : i + 6 ≤ LL) (hL : LL ≤ 3072) : (nI (i + 1)).toNatClampNeg = i + 1 ∧ (nI (i + 2)).toNatClampNeg = i + 2 ∧ (nI (i + 3)).toNatClampNeg = i + 3 ∧ (nI (i + 4)).toNatClampNeg = i + 4 ∧ (nI (i + 5)).toNatClampNeg = i + 5 :=
  ⟨nI_clamp (by omega), nI_clamp (by omega), nI_clamp (by omega), nI_clamp (by omega), nI_clamp (by omega)⟩
section QL
variable {d n m i LL : Nat} {w : zM} {S : Nat → Int32}
theorem law_0 (A : zRl w S (nI LL) n m) (hi : i + 6 ≤ LL) (hL : LL ≤ 3072) : ∃ w2 n2 m2, den (d + 41) 7000 224 [some (.ref 999), some (.ref 0), some (.ref 50), some (.int (nI i))] [] w = den (d + 41) 7000 1517 [some (.ref 999), some (.ref 0), some (.ref 50), some (.int (nI i))] [] w2 ∧ zRl w2 S (nI LL) n2 m2 := by
  have P : zPr d 5001 6007 [.int (S (i + 1)), .int (S (i + 2)), .int (S (i + 3))] w S (nI LL) := p_row A
  obtain ⟨v, w1, w2, n2, m2, hc, hm, A2⟩ := P
  obtain ⟨x, rfl⟩ := (cal_rt hc).1 (by decide +kernel)
  have ke := cal_keep hc
  have E0 := law_E (rl_W A) hi hL
  have E1 := law_E (rl_Wk (rl_W A) ke) hi hL
  obtain ⟨a0, a2, a3, a4, a5⟩ := nI_a i
  obtain ⟨s1, s2, s3, s4, s5, f0⟩ := E0
  obtain ⟨t1, t2, t3, t4, t5, f1⟩ := E1
  obtain ⟨c1, c2, c3, c4, c5⟩ := law_c hi hL
  refine ⟨w2, n2, m2, ?_, A2⟩
  simp only [e_7000_224, e_7000_225, e_7000_226, e_7000_227, e_7000_228, e_7000_229, e_7000_230, e_7000_231, e_7000_232, e_7000_233, e_7000_234, e_7000_235, e_7000_236, e_7000_237, e_7000_238, e_7000_239, e_7000_240, e_7000_243, e_7000_244, e_7000_245, e_7000_246, e_7000_247, e_7000_248, e_7000_249, e_7000_250, e_7000_251, e_7000_252, e_7000_253, e_7000_254, e_7000_255, e_7000_256, e_7000_257, e_7000_258, e_7000_259, e_7000_262, e_7000_265, e_7000_266, zk_int, zk_ref, zk_null, zk_none, zk_long, zisR_r, zisR_n, zcl_int, zcl_ref, zcl_null, zpush_s, zpush_n, zbs, zbn, true_or, or_true, not_false_eq_true, not_true_eq_false, ↓reduceIte, and_self, and_true, true_and, zt_0, zt_50, z999, nI_1, a2, a3, a4, a5, s1, s2, s3, s4, s5, t1, t2, t3, t4, t5, f0, f1, c1, c2, c3, c4, c5, hc, hm]
theorem law_1 (A : zRl w S (nI LL) n m) (hi : i + 6 ≤ LL) (hL : LL ≤ 3072) : ∃ w2 n2 m2, den (d + 41) 7000 267 [some (.ref 999), some (.ref 0), some (.ref 50), some (.int (nI i))] [] w = den (d + 41) 7000 1517 [some (.ref 999), some (.ref 0), some (.ref 50), some (.int (nI i))] [] w2 ∧ zRl w2 S (nI LL) n2 m2 := by
  have P : zPr d 5002 6008 [.int (S (i + 1)), .int (S (i + 2)), .long (((S (i + 3)).toInt64 <<< ((32 : Int32).toInt64 &&& 63)) ||| ((S (i + 4)).toInt64 &&& 4294967295))] w S (nI LL) := p_set A
  obtain ⟨v, w1, w2, n2, m2, hc, hm, A2⟩ := P
  obtain ⟨x, rfl⟩ := (cal_rt hc).1 (by decide +kernel)
  have ke := cal_keep hc
  have E0 := law_E (rl_W A) hi hL
  have E1 := law_E (rl_Wk (rl_W A) ke) hi hL
  obtain ⟨a0, a2, a3, a4, a5⟩ := nI_a i
  obtain ⟨s1, s2, s3, s4, s5, f0⟩ := E0
  obtain ⟨t1, t2, t3, t4, t5, f1⟩ := E1
  obtain ⟨c1, c2, c3, c4, c5⟩ := law_c hi hL
  refine ⟨w2, n2, m2, ?_, A2⟩
  simp only [e_7000_267, e_7000_268, e_7000_269, e_7000_270, e_7000_271, e_7000_272, e_7000_273, e_7000_274, e_7000_275, e_7000_276, e_7000_277, e_7000_278, e_7000_279, e_7000_280, e_7000_281, e_7000_282, e_7000_283, e_7000_284, e_7000_286, e_7000_287, e_7000_288, e_7000_289, e_7000_290, e_7000_291, e_7000_292, e_7000_293, e_7000_296, e_7000_297, e_7000_298, e_7000_301, e_7000_302, e_7000_303, e_7000_304, e_7000_305, e_7000_306, e_7000_307, e_7000_308, e_7000_309, e_7000_310, e_7000_311, e_7000_312, e_7000_313, e_7000_314, e_7000_315, e_7000_316, e_7000_317, e_7000_318, e_7000_320, e_7000_321, e_7000_322, e_7000_323, e_7000_324, e_7000_325, e_7000_326, e_7000_327, e_7000_330, e_7000_331, e_7000_332, e_7000_335, e_7000_338, e_7000_339, zk_int, zk_ref, zk_null, zk_none, zk_long, zisR_r, zisR_n, zcl_int, zcl_ref, zcl_null, zpush_s, zpush_n, zbs, zbn, true_or, or_true, not_false_eq_true, not_true_eq_false, ↓reduceIte, and_self, and_true, true_and, zt_0, zt_50, z999, nI_1, a2, a3, a4, a5, s1, s2, s3, s4, s5, t1, t2, t3, t4, t5, f0, f1, c1, c2, c3, c4, c5, hc, hm]
theorem law_2 (A : zRl w S (nI LL) n m) (hi : i + 6 ≤ LL) (hL : LL ≤ 3072) : ∃ w2 n2 m2, den (d + 41) 7000 340 [some (.ref 999), some (.ref 0), some (.ref 50), some (.int (nI i))] [] w = den (d + 41) 7000 1517 [some (.ref 999), some (.ref 0), some (.ref 50), some (.int (nI i))] [] w2 ∧ zRl w2 S (nI LL) n2 m2 := by
  have P : zPr d 5003 6009 [.int (S (i + 1)), .int (S (i + 2)), .int (S (i + 3)), .int (S (i + 4)), .int (S (i + 5))] w S (nI LL) := p_copy A
  obtain ⟨v, w1, w2, n2, m2, hc, hm, A2⟩ := P
  obtain ⟨x, rfl⟩ := (cal_rt hc).1 (by decide +kernel)
  have ke := cal_keep hc
  have E0 := law_E (rl_W A) hi hL
  have E1 := law_E (rl_Wk (rl_W A) ke) hi hL
  obtain ⟨a0, a2, a3, a4, a5⟩ := nI_a i
  obtain ⟨s1, s2, s3, s4, s5, f0⟩ := E0
  obtain ⟨t1, t2, t3, t4, t5, f1⟩ := E1
  obtain ⟨c1, c2, c3, c4, c5⟩ := law_c hi hL
  refine ⟨w2, n2, m2, ?_, A2⟩
  simp only [e_7000_340, e_7000_341, e_7000_342, e_7000_343, e_7000_344, e_7000_345, e_7000_346, e_7000_347, e_7000_348, e_7000_349, e_7000_350, e_7000_351, e_7000_352, e_7000_353, e_7000_354, e_7000_355, e_7000_356, e_7000_357, e_7000_358, e_7000_359, e_7000_360, e_7000_361, e_7000_362, e_7000_363, e_7000_364, e_7000_365, e_7000_366, e_7000_369, e_7000_370, e_7000_371, e_7000_372, e_7000_373, e_7000_374, e_7000_375, e_7000_376, e_7000_377, e_7000_378, e_7000_379, e_7000_380, e_7000_381, e_7000_382, e_7000_383, e_7000_384, e_7000_385, e_7000_386, e_7000_387, e_7000_388, e_7000_389, e_7000_390, e_7000_391, e_7000_392, e_7000_393, e_7000_394, e_7000_395, e_7000_398, e_7000_401, e_7000_402, zk_int, zk_ref, zk_null, zk_none, zk_long, zisR_r, zisR_n, zcl_int, zcl_ref, zcl_null, zpush_s, zpush_n, zbs, zbn, true_or, or_true, not_false_eq_true, not_true_eq_false, ↓reduceIte, and_self, and_true, true_and, zt_0, zt_50, z999, nI_1, a2, a3, a4, a5, s1, s2, s3, s4, s5, t1, t2, t3, t4, t5, f0, f1, c1, c2, c3, c4, c5, hc, hm]
theorem law_3 (A : zRl w S (nI LL) n m) (hi : i + 6 ≤ LL) (hL : LL ≤ 3072) : ∃ w2 n2 m2, den (d + 41) 7000 403 [some (.ref 999), some (.ref 0), some (.ref 50), some (.int (nI i))] [] w = den (d + 41) 7000 1517 [some (.ref 999), some (.ref 0), some (.ref 50), some (.int (nI i))] [] w2 ∧ zRl w2 S (nI LL) n2 m2 := by
  have P : zPr d 5004 6010 [.int (S (i + 1)), .int (S (i + 2))] w S (nI LL) := p_element A
  obtain ⟨v, w1, w2, n2, m2, hc, hm, A2⟩ := P
  obtain ⟨x, rfl⟩ := (cal_rt hc).2 (by decide +kernel)
  have ke := cal_keep hc
  have E0 := law_E (rl_W A) hi hL
  have E1 := law_E (rl_Wk (rl_W A) ke) hi hL
  obtain ⟨a0, a2, a3, a4, a5⟩ := nI_a i
  obtain ⟨s1, s2, s3, s4, s5, f0⟩ := E0
  obtain ⟨t1, t2, t3, t4, t5, f1⟩ := E1
  obtain ⟨c1, c2, c3, c4, c5⟩ := law_c hi hL
  refine ⟨w2, n2, m2, ?_, A2⟩
  simp only [e_7000_403, e_7000_404, e_7000_405, e_7000_406, e_7000_407, e_7000_408, e_7000_409, e_7000_410, e_7000_411, e_7000_412, e_7000_413, e_7000_414, e_7000_417, e_7000_418, e_7000_419, e_7000_420, e_7000_421, e_7000_422, e_7000_423, e_7000_424, e_7000_425, e_7000_426, e_7000_427, e_7000_428, e_7000_431, e_7000_432, e_7000_435, e_7000_436, zk_int, zk_ref, zk_null, zk_none, zk_long, zisR_r, zisR_n, zcl_int, zcl_ref, zcl_null, zpush_s, zpush_n, zbs, zbn, true_or, or_true, not_false_eq_true, not_true_eq_false, ↓reduceIte, and_self, and_true, true_and, zt_0, zt_50, z999, nI_1, a2, a3, a4, a5, s1, s2, s3, s4, s5, t1, t2, t3, t4, t5, f0, f1, c1, c2, c3, c4, c5, hc, hm, lgc]
theorem law_4 (A : zRl w S (nI LL) n m) (hi : i + 6 ≤ LL) (hL : LL ≤ 3072) : ∃ w2 n2 m2, den (d + 41) 7000 437 [some (.ref 999), some (.ref 0), some (.ref 50), some (.int (nI i))] [] w = den (d + 41) 7000 1517 [some (.ref 999), some (.ref 0), some (.ref 50), some (.int (nI i))] [] w2 ∧ zRl w2 S (nI LL) n2 m2 := by
  have P : zPr d 5005 6011 [.int (S (i + 1)), .int (S (i + 2))] w S (nI LL) := p_show A
  obtain ⟨v, w1, w2, n2, m2, hc, hm, A2⟩ := P
  obtain ⟨x, rfl⟩ := (cal_rt hc).1 (by decide +kernel)
  have ke := cal_keep hc
  have E0 := law_E (rl_W A) hi hL
  have E1 := law_E (rl_Wk (rl_W A) ke) hi hL
  obtain ⟨a0, a2, a3, a4, a5⟩ := nI_a i
  obtain ⟨s1, s2, s3, s4, s5, f0⟩ := E0
  obtain ⟨t1, t2, t3, t4, t5, f1⟩ := E1
  obtain ⟨c1, c2, c3, c4, c5⟩ := law_c hi hL
  refine ⟨w2, n2, m2, ?_, A2⟩
  simp only [e_7000_437, e_7000_438, e_7000_439, e_7000_440, e_7000_441, e_7000_442, e_7000_443, e_7000_444, e_7000_445, e_7000_446, e_7000_447, e_7000_448, e_7000_451, e_7000_452, e_7000_453, e_7000_454, e_7000_455, e_7000_456, e_7000_457, e_7000_458, e_7000_459, e_7000_460, e_7000_461, e_7000_462, e_7000_465, e_7000_468, e_7000_469, zk_int, zk_ref, zk_null, zk_none, zk_long, zisR_r, zisR_n, zcl_int, zcl_ref, zcl_null, zpush_s, zpush_n, zbs, zbn, true_or, or_true, not_false_eq_true, not_true_eq_false, ↓reduceIte, and_self, and_true, true_and, zt_0, zt_50, z999, nI_1, a2, a3, a4, a5, s1, s2, s3, s4, s5, t1, t2, t3, t4, t5, f0, f1, c1, c2, c3, c4, c5, hc, hm]
theorem law_5 (A : zRl w S (nI LL) n m) (hi : i + 6 ≤ LL) (hL : LL ≤ 3072) : ∃ w2 n2 m2, den (d + 41) 7000 470 [some (.ref 999), some (.ref 0), some (.ref 50), some (.int (nI i))] [] w = den (d + 41) 7000 1517 [some (.ref 999), some (.ref 0), some (.ref 50), some (.int (nI i))] [] w2 ∧ zRl w2 S (nI LL) n2 m2 := by
  have P : zPr d 5006 6012 [.int (S (i + 1))] w S (nI LL) := p_holds A
  obtain ⟨v, w1, w2, n2, m2, hc, hm, A2⟩ := P
  obtain ⟨x, rfl⟩ := (cal_rt hc).1 (by decide +kernel)
  have ke := cal_keep hc
  have E0 := law_E (rl_W A) hi hL
  have E1 := law_E (rl_Wk (rl_W A) ke) hi hL
  obtain ⟨a0, a2, a3, a4, a5⟩ := nI_a i
  obtain ⟨s1, s2, s3, s4, s5, f0⟩ := E0
  obtain ⟨t1, t2, t3, t4, t5, f1⟩ := E1
  obtain ⟨c1, c2, c3, c4, c5⟩ := law_c hi hL
  refine ⟨w2, n2, m2, ?_, A2⟩
  simp only [e_7000_470, e_7000_471, e_7000_472, e_7000_473, e_7000_474, e_7000_475, e_7000_476, e_7000_479, e_7000_480, e_7000_481, e_7000_482, e_7000_483, e_7000_484, e_7000_485, e_7000_488, e_7000_491, e_7000_492, zk_int, zk_ref, zk_null, zk_none, zk_long, zisR_r, zisR_n, zcl_int, zcl_ref, zcl_null, zpush_s, zpush_n, zbs, zbn, true_or, or_true, not_false_eq_true, not_true_eq_false, ↓reduceIte, and_self, and_true, true_and, zt_0, zt_50, z999, nI_1, a2, a3, a4, a5, s1, s2, s3, s4, s5, t1, t2, t3, t4, t5, f0, f1, c1, c2, c3, c4, c5, hc, hm]
theorem law_6 (A : zRl w S (nI LL) n m) (hi : i + 6 ≤ LL) (hL : LL ≤ 3072) : ∃ w2 n2 m2, den (d + 41) 7000 493 [some (.ref 999), some (.ref 0), some (.ref 50), some (.int (nI i))] [] w = den (d + 41) 7000 1517 [some (.ref 999), some (.ref 0), some (.ref 50), some (.int (nI i))] [] w2 ∧ zRl w2 S (nI LL) n2 m2 := by
  have P : zPr d 5007 6014 [.int (S (i + 1)), .int (S (i + 2))] w S (nI LL) := p_says A
  obtain ⟨v, w1, w2, n2, m2, hc, hm, A2⟩ := P
  obtain ⟨x, rfl⟩ := (cal_rt hc).1 (by decide +kernel)
  have ke := cal_keep hc
  have E0 := law_E (rl_W A) hi hL
  have E1 := law_E (rl_Wk (rl_W A) ke) hi hL
  obtain ⟨a0, a2, a3, a4, a5⟩ := nI_a i
  obtain ⟨s1, s2, s3, s4, s5, f0⟩ := E0
  obtain ⟨t1, t2, t3, t4, t5, f1⟩ := E1
  obtain ⟨c1, c2, c3, c4, c5⟩ := law_c hi hL
  refine ⟨w2, n2, m2, ?_, A2⟩
  simp only [e_7000_493, e_7000_494, e_7000_495, e_7000_496, e_7000_497, e_7000_498, e_7000_499, e_7000_500, e_7000_501, e_7000_502, e_7000_503, e_7000_504, e_7000_507, e_7000_508, e_7000_509, e_7000_510, e_7000_511, e_7000_512, e_7000_513, e_7000_514, e_7000_515, e_7000_516, e_7000_517, e_7000_518, e_7000_521, e_7000_524, e_7000_525, zk_int, zk_ref, zk_null, zk_none, zk_long, zisR_r, zisR_n, zcl_int, zcl_ref, zcl_null, zpush_s, zpush_n, zbs, zbn, true_or, or_true, not_false_eq_true, not_true_eq_false, ↓reduceIte, and_self, and_true, true_and, zt_0, zt_50, z999, nI_1, a2, a3, a4, a5, s1, s2, s3, s4, s5, t1, t2, t3, t4, t5, f0, f1, c1, c2, c3, c4, c5, hc, hm]
theorem law_7 (A : zRl w S (nI LL) n m) (hi : i + 6 ≤ LL) (hL : LL ≤ 3072) : ∃ w2 n2 m2, den (d + 41) 7000 526 [some (.ref 999), some (.ref 0), some (.ref 50), some (.int (nI i))] [] w = den (d + 41) 7000 1517 [some (.ref 999), some (.ref 0), some (.ref 50), some (.int (nI i))] [] w2 ∧ zRl w2 S (nI LL) n2 m2 := by
  have P : zPr d 5008 6018 [.int (S (i + 1)), .int (S (i + 2)), .int (S (i + 3))] w S (nI LL) := p_waiter A
  obtain ⟨v, w1, w2, n2, m2, hc, hm, A2⟩ := P
  obtain ⟨x, rfl⟩ := (cal_rt hc).1 (by decide +kernel)
  have ke := cal_keep hc
  have E0 := law_E (rl_W A) hi hL
  have E1 := law_E (rl_Wk (rl_W A) ke) hi hL
  obtain ⟨a0, a2, a3, a4, a5⟩ := nI_a i
  obtain ⟨s1, s2, s3, s4, s5, f0⟩ := E0
  obtain ⟨t1, t2, t3, t4, t5, f1⟩ := E1
  obtain ⟨c1, c2, c3, c4, c5⟩ := law_c hi hL
  refine ⟨w2, n2, m2, ?_, A2⟩
  simp only [e_7000_526, e_7000_527, e_7000_528, e_7000_529, e_7000_530, e_7000_531, e_7000_532, e_7000_533, e_7000_534, e_7000_535, e_7000_536, e_7000_537, e_7000_538, e_7000_539, e_7000_540, e_7000_541, e_7000_542, e_7000_545, e_7000_546, e_7000_547, e_7000_548, e_7000_549, e_7000_550, e_7000_551, e_7000_552, e_7000_553, e_7000_554, e_7000_555, e_7000_556, e_7000_557, e_7000_558, e_7000_559, e_7000_560, e_7000_561, e_7000_564, e_7000_567, e_7000_568, zk_int, zk_ref, zk_null, zk_none, zk_long, zisR_r, zisR_n, zcl_int, zcl_ref, zcl_null, zpush_s, zpush_n, zbs, zbn, true_or, or_true, not_false_eq_true, not_true_eq_false, ↓reduceIte, and_self, and_true, true_and, zt_0, zt_50, z999, nI_1, a2, a3, a4, a5, s1, s2, s3, s4, s5, t1, t2, t3, t4, t5, f0, f1, c1, c2, c3, c4, c5, hc, hm]
theorem law_8 (A : zRl w S (nI LL) n m) (hi : i + 6 ≤ LL) (hL : LL ≤ 3072) : ∃ w2 n2 m2, den (d + 41) 7000 569 [some (.ref 999), some (.ref 0), some (.ref 50), some (.int (nI i))] [] w = den (d + 41) 7000 1517 [some (.ref 999), some (.ref 0), some (.ref 50), some (.int (nI i))] [] w2 ∧ zRl w2 S (nI LL) n2 m2 := by
  have P : zPr d 5009 6021 [.int (S (i + 1)), .int (S (i + 2)), .int (S (i + 3)), .int (S (i + 4)), .int (S (i + 5))] w S (nI LL) := p_table A
  obtain ⟨v, w1, w2, n2, m2, hc, hm, A2⟩ := P
  obtain ⟨x, rfl⟩ := (cal_rt hc).1 (by decide +kernel)
  have ke := cal_keep hc
  have E0 := law_E (rl_W A) hi hL
  have E1 := law_E (rl_Wk (rl_W A) ke) hi hL
  obtain ⟨a0, a2, a3, a4, a5⟩ := nI_a i
  obtain ⟨s1, s2, s3, s4, s5, f0⟩ := E0
  obtain ⟨t1, t2, t3, t4, t5, f1⟩ := E1
  obtain ⟨c1, c2, c3, c4, c5⟩ := law_c hi hL
  refine ⟨w2, n2, m2, ?_, A2⟩
  simp only [e_7000_569, e_7000_570, e_7000_571, e_7000_572, e_7000_573, e_7000_574, e_7000_575, e_7000_576, e_7000_577, e_7000_578, e_7000_579, e_7000_580, e_7000_581, e_7000_582, e_7000_583, e_7000_584, e_7000_585, e_7000_586, e_7000_587, e_7000_588, e_7000_589, e_7000_590, e_7000_591, e_7000_592, e_7000_593, e_7000_594, e_7000_595, e_7000_598, e_7000_599, e_7000_600, e_7000_601, e_7000_602, e_7000_603, e_7000_604, e_7000_605, e_7000_606, e_7000_607, e_7000_608, e_7000_609, e_7000_610, e_7000_611, e_7000_612, e_7000_613, e_7000_614, e_7000_615, e_7000_616, e_7000_617, e_7000_618, e_7000_619, e_7000_620, e_7000_621, e_7000_622, e_7000_623, e_7000_624, e_7000_627, e_7000_630, e_7000_631, zk_int, zk_ref, zk_null, zk_none, zk_long, zisR_r, zisR_n, zcl_int, zcl_ref, zcl_null, zpush_s, zpush_n, zbs, zbn, true_or, or_true, not_false_eq_true, not_true_eq_false, ↓reduceIte, and_self, and_true, true_and, zt_0, zt_50, z999, nI_1, a2, a3, a4, a5, s1, s2, s3, s4, s5, t1, t2, t3, t4, t5, f0, f1, c1, c2, c3, c4, c5, hc, hm]
theorem law_9 (A : zRl w S (nI LL) n m) (hi : i + 6 ≤ LL) (hL : LL ≤ 3072) : ∃ w2 n2 m2, den (d + 41) 7000 632 [some (.ref 999), some (.ref 0), some (.ref 50), some (.int (nI i))] [] w = den (d + 41) 7000 1517 [some (.ref 999), some (.ref 0), some (.ref 50), some (.int (nI i))] [] w2 ∧ zRl w2 S (nI LL) n2 m2 := by
  have P : zPr d 5010 6022 [.int (S (i + 1)), .int (S (i + 2)), .int (S (i + 3))] w S (nI LL) := p_tables A
  obtain ⟨v, w1, w2, n2, m2, hc, hm, A2⟩ := P
  obtain ⟨x, rfl⟩ := (cal_rt hc).1 (by decide +kernel)
  have ke := cal_keep hc
  have E0 := law_E (rl_W A) hi hL
  have E1 := law_E (rl_Wk (rl_W A) ke) hi hL
  obtain ⟨a0, a2, a3, a4, a5⟩ := nI_a i
  obtain ⟨s1, s2, s3, s4, s5, f0⟩ := E0
  obtain ⟨t1, t2, t3, t4, t5, f1⟩ := E1
  obtain ⟨c1, c2, c3, c4, c5⟩ := law_c hi hL
  refine ⟨w2, n2, m2, ?_, A2⟩
  simp only [e_7000_632, e_7000_633, e_7000_634, e_7000_635, e_7000_636, e_7000_637, e_7000_638, e_7000_639, e_7000_640, e_7000_641, e_7000_642, e_7000_643, e_7000_644, e_7000_645, e_7000_646, e_7000_647, e_7000_648, e_7000_651, e_7000_652, e_7000_653, e_7000_654, e_7000_655, e_7000_656, e_7000_657, e_7000_658, e_7000_659, e_7000_660, e_7000_661, e_7000_662, e_7000_663, e_7000_664, e_7000_665, e_7000_666, e_7000_667, e_7000_670, e_7000_673, e_7000_674, zk_int, zk_ref, zk_null, zk_none, zk_long, zisR_r, zisR_n, zcl_int, zcl_ref, zcl_null, zpush_s, zpush_n, zbs, zbn, true_or, or_true, not_false_eq_true, not_true_eq_false, ↓reduceIte, and_self, and_true, true_and, zt_0, zt_50, z999, nI_1, a2, a3, a4, a5, s1, s2, s3, s4, s5, t1, t2, t3, t4, t5, f0, f1, c1, c2, c3, c4, c5, hc, hm]
theorem law_10 (A : zRl w S (nI LL) n m) (hi : i + 6 ≤ LL) (hL : LL ≤ 3072) : ∃ w2 n2 m2, den (d + 41) 7000 675 [some (.ref 999), some (.ref 0), some (.ref 50), some (.int (nI i))] [] w = den (d + 41) 7000 1517 [some (.ref 999), some (.ref 0), some (.ref 50), some (.int (nI i))] [] w2 ∧ zRl w2 S (nI LL) n2 m2 := by
  have P : zPr d 5011 6023 [.int (S (i + 1)), .int (S (i + 2))] w S (nI LL) := p_serves A
  obtain ⟨v, w1, w2, n2, m2, hc, hm, A2⟩ := P
  obtain ⟨x, rfl⟩ := (cal_rt hc).1 (by decide +kernel)
  have ke := cal_keep hc
  have E0 := law_E (rl_W A) hi hL
  have E1 := law_E (rl_Wk (rl_W A) ke) hi hL
  obtain ⟨a0, a2, a3, a4, a5⟩ := nI_a i
  obtain ⟨s1, s2, s3, s4, s5, f0⟩ := E0
  obtain ⟨t1, t2, t3, t4, t5, f1⟩ := E1
  obtain ⟨c1, c2, c3, c4, c5⟩ := law_c hi hL
  refine ⟨w2, n2, m2, ?_, A2⟩
  simp only [e_7000_675, e_7000_676, e_7000_677, e_7000_678, e_7000_679, e_7000_680, e_7000_681, e_7000_682, e_7000_683, e_7000_684, e_7000_685, e_7000_686, e_7000_689, e_7000_690, e_7000_691, e_7000_692, e_7000_693, e_7000_694, e_7000_695, e_7000_696, e_7000_697, e_7000_698, e_7000_699, e_7000_700, e_7000_703, e_7000_706, e_7000_707, zk_int, zk_ref, zk_null, zk_none, zk_long, zisR_r, zisR_n, zcl_int, zcl_ref, zcl_null, zpush_s, zpush_n, zbs, zbn, true_or, or_true, not_false_eq_true, not_true_eq_false, ↓reduceIte, and_self, and_true, true_and, zt_0, zt_50, z999, nI_1, a2, a3, a4, a5, s1, s2, s3, s4, s5, t1, t2, t3, t4, t5, f0, f1, c1, c2, c3, c4, c5, hc, hm]
theorem law_11 (A : zRl w S (nI LL) n m) (hi : i + 6 ≤ LL) (hL : LL ≤ 3072) : ∃ w2 n2 m2, den (d + 41) 7000 708 [some (.ref 999), some (.ref 0), some (.ref 50), some (.int (nI i))] [] w = den (d + 41) 7000 1517 [some (.ref 999), some (.ref 0), some (.ref 50), some (.int (nI i))] [] w2 ∧ zRl w2 S (nI LL) n2 m2 := by
  have P : zPr d 5012 6025 [.int (S (i + 1)), .int (S (i + 2)), .int (S (i + 3))] w S (nI LL) := p_becomes A
  obtain ⟨v, w1, w2, n2, m2, hc, hm, A2⟩ := P
  obtain ⟨x, rfl⟩ := (cal_rt hc).1 (by decide +kernel)
  have ke := cal_keep hc
  have E0 := law_E (rl_W A) hi hL
  have E1 := law_E (rl_Wk (rl_W A) ke) hi hL
  obtain ⟨a0, a2, a3, a4, a5⟩ := nI_a i
  obtain ⟨s1, s2, s3, s4, s5, f0⟩ := E0
  obtain ⟨t1, t2, t3, t4, t5, f1⟩ := E1
  obtain ⟨c1, c2, c3, c4, c5⟩ := law_c hi hL
  refine ⟨w2, n2, m2, ?_, A2⟩
  simp only [e_7000_708, e_7000_709, e_7000_710, e_7000_711, e_7000_712, e_7000_713, e_7000_714, e_7000_715, e_7000_716, e_7000_717, e_7000_718, e_7000_719, e_7000_720, e_7000_721, e_7000_722, e_7000_723, e_7000_724, e_7000_727, e_7000_728, e_7000_729, e_7000_730, e_7000_731, e_7000_732, e_7000_733, e_7000_734, e_7000_735, e_7000_736, e_7000_737, e_7000_738, e_7000_739, e_7000_740, e_7000_741, e_7000_742, e_7000_743, e_7000_746, e_7000_749, e_7000_750, zk_int, zk_ref, zk_null, zk_none, zk_long, zisR_r, zisR_n, zcl_int, zcl_ref, zcl_null, zpush_s, zpush_n, zbs, zbn, true_or, or_true, not_false_eq_true, not_true_eq_false, ↓reduceIte, and_self, and_true, true_and, zt_0, zt_50, z999, nI_1, a2, a3, a4, a5, s1, s2, s3, s4, s5, t1, t2, t3, t4, t5, f0, f1, c1, c2, c3, c4, c5, hc, hm]
theorem law_12 (A : zRl w S (nI LL) n m) (hi : i + 6 ≤ LL) (hL : LL ≤ 3072) : ∃ w2 n2 m2, den (d + 41) 7000 751 [some (.ref 999), some (.ref 0), some (.ref 50), some (.int (nI i))] [] w = den (d + 41) 7000 1517 [some (.ref 999), some (.ref 0), some (.ref 50), some (.int (nI i))] [] w2 ∧ zRl w2 S (nI LL) n2 m2 := by
  have P : zPr d 5013 6026 [.int (S (i + 1)), .int (S (i + 2))] w S (nI LL) := p_ask A
  obtain ⟨v, w1, w2, n2, m2, hc, hm, A2⟩ := P
  obtain ⟨x, rfl⟩ := (cal_rt hc).1 (by decide +kernel)
  have ke := cal_keep hc
  have E0 := law_E (rl_W A) hi hL
  have E1 := law_E (rl_Wk (rl_W A) ke) hi hL
  obtain ⟨a0, a2, a3, a4, a5⟩ := nI_a i
  obtain ⟨s1, s2, s3, s4, s5, f0⟩ := E0
  obtain ⟨t1, t2, t3, t4, t5, f1⟩ := E1
  obtain ⟨c1, c2, c3, c4, c5⟩ := law_c hi hL
  refine ⟨w2, n2, m2, ?_, A2⟩
  simp only [e_7000_751, e_7000_752, e_7000_753, e_7000_754, e_7000_755, e_7000_756, e_7000_757, e_7000_758, e_7000_759, e_7000_760, e_7000_761, e_7000_762, e_7000_765, e_7000_766, e_7000_767, e_7000_768, e_7000_769, e_7000_770, e_7000_771, e_7000_772, e_7000_773, e_7000_774, e_7000_775, e_7000_776, e_7000_779, e_7000_782, e_7000_783, zk_int, zk_ref, zk_null, zk_none, zk_long, zisR_r, zisR_n, zcl_int, zcl_ref, zcl_null, zpush_s, zpush_n, zbs, zbn, true_or, or_true, not_false_eq_true, not_true_eq_false, ↓reduceIte, and_self, and_true, true_and, zt_0, zt_50, z999, nI_1, a2, a3, a4, a5, s1, s2, s3, s4, s5, t1, t2, t3, t4, t5, f0, f1, c1, c2, c3, c4, c5, hc, hm]
theorem law_13 (A : zRl w S (nI LL) n m) (hi : i + 6 ≤ LL) (hL : LL ≤ 3072) : ∃ w2 n2 m2, den (d + 41) 7000 784 [some (.ref 999), some (.ref 0), some (.ref 50), some (.int (nI i))] [] w = den (d + 41) 7000 1517 [some (.ref 999), some (.ref 0), some (.ref 50), some (.int (nI i))] [] w2 ∧ zRl w2 S (nI LL) n2 m2 := by
  have P : zPr d 5014 6027 [.int (S (i + 1)), .int (S (i + 2))] w S (nI LL) := p_tableOf A
  obtain ⟨v, w1, w2, n2, m2, hc, hm, A2⟩ := P
  obtain ⟨x, rfl⟩ := (cal_rt hc).1 (by decide +kernel)
  have ke := cal_keep hc
  have E0 := law_E (rl_W A) hi hL
  have E1 := law_E (rl_Wk (rl_W A) ke) hi hL
  obtain ⟨a0, a2, a3, a4, a5⟩ := nI_a i
  obtain ⟨s1, s2, s3, s4, s5, f0⟩ := E0
  obtain ⟨t1, t2, t3, t4, t5, f1⟩ := E1
  obtain ⟨c1, c2, c3, c4, c5⟩ := law_c hi hL
  refine ⟨w2, n2, m2, ?_, A2⟩
  simp only [e_7000_784, e_7000_785, e_7000_786, e_7000_787, e_7000_788, e_7000_789, e_7000_790, e_7000_791, e_7000_792, e_7000_793, e_7000_794, e_7000_795, e_7000_798, e_7000_799, e_7000_800, e_7000_801, e_7000_802, e_7000_803, e_7000_804, e_7000_805, e_7000_806, e_7000_807, e_7000_808, e_7000_809, e_7000_812, e_7000_815, e_7000_816, zk_int, zk_ref, zk_null, zk_none, zk_long, zisR_r, zisR_n, zcl_int, zcl_ref, zcl_null, zpush_s, zpush_n, zbs, zbn, true_or, or_true, not_false_eq_true, not_true_eq_false, ↓reduceIte, and_self, and_true, true_and, zt_0, zt_50, z999, nI_1, a2, a3, a4, a5, s1, s2, s3, s4, s5, t1, t2, t3, t4, t5, f0, f1, c1, c2, c3, c4, c5, hc, hm]
theorem law_14 (A : zRl w S (nI LL) n m) (hi : i + 6 ≤ LL) (hL : LL ≤ 3072) : ∃ w2 n2 m2, den (d + 41) 7000 817 [some (.ref 999), some (.ref 0), some (.ref 50), some (.int (nI i))] [] w = den (d + 41) 7000 1517 [some (.ref 999), some (.ref 0), some (.ref 50), some (.int (nI i))] [] w2 ∧ zRl w2 S (nI LL) n2 m2 := by
  have P : zPr d 5015 6029 [.int (S (i + 1)), .int (S (i + 2))] w S (nI LL) := p_waiterOf A
  obtain ⟨v, w1, w2, n2, m2, hc, hm, A2⟩ := P
  obtain ⟨x, rfl⟩ := (cal_rt hc).1 (by decide +kernel)
  have ke := cal_keep hc
  have E0 := law_E (rl_W A) hi hL
  have E1 := law_E (rl_Wk (rl_W A) ke) hi hL
  obtain ⟨a0, a2, a3, a4, a5⟩ := nI_a i
  obtain ⟨s1, s2, s3, s4, s5, f0⟩ := E0
  obtain ⟨t1, t2, t3, t4, t5, f1⟩ := E1
  obtain ⟨c1, c2, c3, c4, c5⟩ := law_c hi hL
  refine ⟨w2, n2, m2, ?_, A2⟩
  simp only [e_7000_817, e_7000_818, e_7000_819, e_7000_820, e_7000_821, e_7000_822, e_7000_823, e_7000_824, e_7000_825, e_7000_826, e_7000_827, e_7000_828, e_7000_831, e_7000_832, e_7000_833, e_7000_834, e_7000_835, e_7000_836, e_7000_837, e_7000_838, e_7000_839, e_7000_840, e_7000_841, e_7000_842, e_7000_845, e_7000_848, e_7000_849, zk_int, zk_ref, zk_null, zk_none, zk_long, zisR_r, zisR_n, zcl_int, zcl_ref, zcl_null, zpush_s, zpush_n, zbs, zbn, true_or, or_true, not_false_eq_true, not_true_eq_false, ↓reduceIte, and_self, and_true, true_and, zt_0, zt_50, z999, nI_1, a2, a3, a4, a5, s1, s2, s3, s4, s5, t1, t2, t3, t4, t5, f0, f1, c1, c2, c3, c4, c5, hc, hm]
theorem law_15 (A : zRl w S (nI LL) n m) (hi : i + 6 ≤ LL) (hL : LL ≤ 3072) : ∃ w2 n2 m2, den (d + 41) 7000 850 [some (.ref 999), some (.ref 0), some (.ref 50), some (.int (nI i))] [] w = den (d + 41) 7000 1517 [some (.ref 999), some (.ref 0), some (.ref 50), some (.int (nI i))] [] w2 ∧ zRl w2 S (nI LL) n2 m2 := by
  have P : zPr d 5016 6040 [.int (S (i + 1))] w S (nI LL) := p_house A
  obtain ⟨v, w1, w2, n2, m2, hc, hm, A2⟩ := P
  obtain ⟨x, rfl⟩ := (cal_rt hc).1 (by decide +kernel)
  have ke := cal_keep hc
  have E0 := law_E (rl_W A) hi hL
  have E1 := law_E (rl_Wk (rl_W A) ke) hi hL
  obtain ⟨a0, a2, a3, a4, a5⟩ := nI_a i
  obtain ⟨s1, s2, s3, s4, s5, f0⟩ := E0
  obtain ⟨t1, t2, t3, t4, t5, f1⟩ := E1
  obtain ⟨c1, c2, c3, c4, c5⟩ := law_c hi hL
  refine ⟨w2, n2, m2, ?_, A2⟩
  simp only [e_7000_850, e_7000_851, e_7000_852, e_7000_853, e_7000_854, e_7000_855, e_7000_856, e_7000_859, e_7000_860, e_7000_861, e_7000_862, e_7000_863, e_7000_864, e_7000_865, e_7000_868, e_7000_871, e_7000_872, zk_int, zk_ref, zk_null, zk_none, zk_long, zisR_r, zisR_n, zcl_int, zcl_ref, zcl_null, zpush_s, zpush_n, zbs, zbn, true_or, or_true, not_false_eq_true, not_true_eq_false, ↓reduceIte, and_self, and_true, true_and, zt_0, zt_50, z999, nI_1, a2, a3, a4, a5, s1, s2, s3, s4, s5, t1, t2, t3, t4, t5, f0, f1, c1, c2, c3, c4, c5, hc, hm]
theorem law_16 (A : zRl w S (nI LL) n m) (hi : i + 6 ≤ LL) (hL : LL ≤ 3072) : ∃ w2 n2 m2, den (d + 41) 7000 873 [some (.ref 999), some (.ref 0), some (.ref 50), some (.int (nI i))] [] w = den (d + 41) 7000 1517 [some (.ref 999), some (.ref 0), some (.ref 50), some (.int (nI i))] [] w2 ∧ zRl w2 S (nI LL) n2 m2 := by
  have P : zPr d 5017 6041 [] w S (nI LL) := p_fault A
  obtain ⟨v, w1, w2, n2, m2, hc, hm, A2⟩ := P
  obtain ⟨x, rfl⟩ := (cal_rt hc).1 (by decide +kernel)
  have ke := cal_keep hc
  have E0 := law_E (rl_W A) hi hL
  have E1 := law_E (rl_Wk (rl_W A) ke) hi hL
  obtain ⟨a0, a2, a3, a4, a5⟩ := nI_a i
  obtain ⟨s1, s2, s3, s4, s5, f0⟩ := E0
  obtain ⟨t1, t2, t3, t4, t5, f1⟩ := E1
  obtain ⟨c1, c2, c3, c4, c5⟩ := law_c hi hL
  refine ⟨w2, n2, m2, ?_, A2⟩
  simp only [e_7000_873, e_7000_874, e_7000_877, e_7000_878, e_7000_881, e_7000_884, e_7000_885, zk_int, zk_ref, zk_null, zk_none, zk_long, zisR_r, zisR_n, zcl_int, zcl_ref, zcl_null, zpush_s, zpush_n, zbs, zbn, true_or, or_true, not_false_eq_true, not_true_eq_false, ↓reduceIte, and_self, and_true, true_and, zt_0, zt_50, z999, nI_1, a2, a3, a4, a5, s1, s2, s3, s4, s5, t1, t2, t3, t4, t5, f0, f1, c1, c2, c3, c4, c5, hc, hm]
theorem law_17 (A : zRl w S (nI LL) n m) (hi : i + 6 ≤ LL) (hL : LL ≤ 3072) : ∃ w2 n2 m2, den (d + 41) 7000 886 [some (.ref 999), some (.ref 0), some (.ref 50), some (.int (nI i))] [] w = den (d + 41) 7000 1517 [some (.ref 999), some (.ref 0), some (.ref 50), some (.int (nI i))] [] w2 ∧ zRl w2 S (nI LL) n2 m2 := by
  have P : zPr d 5018 6048 [.int (S (i + 1))] w S (nI LL) := p_would A
  obtain ⟨v, w1, w2, n2, m2, hc, hm, A2⟩ := P
  obtain ⟨x, rfl⟩ := (cal_rt hc).1 (by decide +kernel)
  have ke := cal_keep hc
  have E0 := law_E (rl_W A) hi hL
  have E1 := law_E (rl_Wk (rl_W A) ke) hi hL
  obtain ⟨a0, a2, a3, a4, a5⟩ := nI_a i
  obtain ⟨s1, s2, s3, s4, s5, f0⟩ := E0
  obtain ⟨t1, t2, t3, t4, t5, f1⟩ := E1
  obtain ⟨c1, c2, c3, c4, c5⟩ := law_c hi hL
  refine ⟨w2, n2, m2, ?_, A2⟩
  simp only [e_7000_886, e_7000_887, e_7000_888, e_7000_889, e_7000_890, e_7000_891, e_7000_892, e_7000_895, e_7000_896, e_7000_897, e_7000_898, e_7000_899, e_7000_900, e_7000_901, e_7000_904, e_7000_907, e_7000_908, zk_int, zk_ref, zk_null, zk_none, zk_long, zisR_r, zisR_n, zcl_int, zcl_ref, zcl_null, zpush_s, zpush_n, zbs, zbn, true_or, or_true, not_false_eq_true, not_true_eq_false, ↓reduceIte, and_self, and_true, true_and, zt_0, zt_50, z999, nI_1, a2, a3, a4, a5, s1, s2, s3, s4, s5, t1, t2, t3, t4, t5, f0, f1, c1, c2, c3, c4, c5, hc, hm]
theorem law_18 (A : zRl w S (nI LL) n m) (hi : i + 6 ≤ LL) (hL : LL ≤ 3072) : ∃ w2 n2 m2, den (d + 41) 7000 909 [some (.ref 999), some (.ref 0), some (.ref 50), some (.int (nI i))] [] w = den (d + 41) 7000 1517 [some (.ref 999), some (.ref 0), some (.ref 50), some (.int (nI i))] [] w2 ∧ zRl w2 S (nI LL) n2 m2 := by
  have P : zPr d 5019 6049 [.int (S (i + 1))] w S (nI LL) := p_gives A
  obtain ⟨v, w1, w2, n2, m2, hc, hm, A2⟩ := P
  obtain ⟨x, rfl⟩ := (cal_rt hc).1 (by decide +kernel)
  have ke := cal_keep hc
  have E0 := law_E (rl_W A) hi hL
  have E1 := law_E (rl_Wk (rl_W A) ke) hi hL
  obtain ⟨a0, a2, a3, a4, a5⟩ := nI_a i
  obtain ⟨s1, s2, s3, s4, s5, f0⟩ := E0
  obtain ⟨t1, t2, t3, t4, t5, f1⟩ := E1
  obtain ⟨c1, c2, c3, c4, c5⟩ := law_c hi hL
  refine ⟨w2, n2, m2, ?_, A2⟩
  simp only [e_7000_909, e_7000_910, e_7000_911, e_7000_912, e_7000_913, e_7000_914, e_7000_915, e_7000_918, e_7000_919, e_7000_920, e_7000_921, e_7000_922, e_7000_923, e_7000_924, e_7000_927, e_7000_930, e_7000_931, zk_int, zk_ref, zk_null, zk_none, zk_long, zisR_r, zisR_n, zcl_int, zcl_ref, zcl_null, zpush_s, zpush_n, zbs, zbn, true_or, or_true, not_false_eq_true, not_true_eq_false, ↓reduceIte, and_self, and_true, true_and, zt_0, zt_50, z999, nI_1, a2, a3, a4, a5, s1, s2, s3, s4, s5, t1, t2, t3, t4, t5, f0, f1, c1, c2, c3, c4, c5, hc, hm]
theorem law_19 (A : zRl w S (nI LL) n m) (hi : i + 6 ≤ LL) (hL : LL ≤ 3072) : ∃ w2 n2 m2, den (d + 41) 7000 932 [some (.ref 999), some (.ref 0), some (.ref 50), some (.int (nI i))] [] w = den (d + 41) 7000 1517 [some (.ref 999), some (.ref 0), some (.ref 50), some (.int (nI i))] [] w2 ∧ zRl w2 S (nI LL) n2 m2 := by
  have P : zPr d 5020 6051 [] w S (nI LL) := p_all A
  obtain ⟨v, w1, w2, n2, m2, hc, hm, A2⟩ := P
  obtain ⟨x, rfl⟩ := (cal_rt hc).1 (by decide +kernel)
  have ke := cal_keep hc
  have E0 := law_E (rl_W A) hi hL
  have E1 := law_E (rl_Wk (rl_W A) ke) hi hL
  obtain ⟨a0, a2, a3, a4, a5⟩ := nI_a i
  obtain ⟨s1, s2, s3, s4, s5, f0⟩ := E0
  obtain ⟨t1, t2, t3, t4, t5, f1⟩ := E1
  obtain ⟨c1, c2, c3, c4, c5⟩ := law_c hi hL
  refine ⟨w2, n2, m2, ?_, A2⟩
  simp only [e_7000_932, e_7000_933, e_7000_936, e_7000_937, e_7000_940, e_7000_943, e_7000_944, zk_int, zk_ref, zk_null, zk_none, zk_long, zisR_r, zisR_n, zcl_int, zcl_ref, zcl_null, zpush_s, zpush_n, zbs, zbn, true_or, or_true, not_false_eq_true, not_true_eq_false, ↓reduceIte, and_self, and_true, true_and, zt_0, zt_50, z999, nI_1, a2, a3, a4, a5, s1, s2, s3, s4, s5, t1, t2, t3, t4, t5, f0, f1, c1, c2, c3, c4, c5, hc, hm]
theorem law_20 (A : zRl w S (nI LL) n m) (hi : i + 6 ≤ LL) (hL : LL ≤ 3072) : ∃ w2 n2 m2, den (d + 41) 7000 945 [some (.ref 999), some (.ref 0), some (.ref 50), some (.int (nI i))] [] w = den (d + 41) 7000 1517 [some (.ref 999), some (.ref 0), some (.ref 50), some (.int (nI i))] [] w2 ∧ zRl w2 S (nI LL) n2 m2 := by
  have P : zPr d 5021 6054 [.int (S (i + 1)), .int (S (i + 2))] w S (nI LL) := p_share A
  obtain ⟨v, w1, w2, n2, m2, hc, hm, A2⟩ := P
  obtain ⟨x, rfl⟩ := (cal_rt hc).1 (by decide +kernel)
  have ke := cal_keep hc
  have E0 := law_E (rl_W A) hi hL
  have E1 := law_E (rl_Wk (rl_W A) ke) hi hL
  obtain ⟨a0, a2, a3, a4, a5⟩ := nI_a i
  obtain ⟨s1, s2, s3, s4, s5, f0⟩ := E0
  obtain ⟨t1, t2, t3, t4, t5, f1⟩ := E1
  obtain ⟨c1, c2, c3, c4, c5⟩ := law_c hi hL
  refine ⟨w2, n2, m2, ?_, A2⟩
  simp only [e_7000_945, e_7000_946, e_7000_947, e_7000_948, e_7000_949, e_7000_950, e_7000_951, e_7000_952, e_7000_953, e_7000_954, e_7000_955, e_7000_956, e_7000_959, e_7000_960, e_7000_961, e_7000_962, e_7000_963, e_7000_964, e_7000_965, e_7000_966, e_7000_967, e_7000_968, e_7000_969, e_7000_970, e_7000_973, e_7000_976, e_7000_977, zk_int, zk_ref, zk_null, zk_none, zk_long, zisR_r, zisR_n, zcl_int, zcl_ref, zcl_null, zpush_s, zpush_n, zbs, zbn, true_or, or_true, not_false_eq_true, not_true_eq_false, ↓reduceIte, and_self, and_true, true_and, zt_0, zt_50, z999, nI_1, a2, a3, a4, a5, s1, s2, s3, s4, s5, t1, t2, t3, t4, t5, f0, f1, c1, c2, c3, c4, c5, hc, hm]
theorem law_21 (A : zRl w S (nI LL) n m) (hi : i + 6 ≤ LL) (hL : LL ≤ 3072) : ∃ w2 n2 m2, den (d + 41) 7000 978 [some (.ref 999), some (.ref 0), some (.ref 50), some (.int (nI i))] [] w = den (d + 41) 7000 1517 [some (.ref 999), some (.ref 0), some (.ref 50), some (.int (nI i))] [] w2 ∧ zRl w2 S (nI LL) n2 m2 := by
  have P : zPr d 5022 6057 [.int (S (i + 1)), .int (S (i + 2))] w S (nI LL) := p_gain A
  obtain ⟨v, w1, w2, n2, m2, hc, hm, A2⟩ := P
  obtain ⟨x, rfl⟩ := (cal_rt hc).1 (by decide +kernel)
  have ke := cal_keep hc
  have E0 := law_E (rl_W A) hi hL
  have E1 := law_E (rl_Wk (rl_W A) ke) hi hL
  obtain ⟨a0, a2, a3, a4, a5⟩ := nI_a i
  obtain ⟨s1, s2, s3, s4, s5, f0⟩ := E0
  obtain ⟨t1, t2, t3, t4, t5, f1⟩ := E1
  obtain ⟨c1, c2, c3, c4, c5⟩ := law_c hi hL
  refine ⟨w2, n2, m2, ?_, A2⟩
  simp only [e_7000_978, e_7000_979, e_7000_980, e_7000_981, e_7000_982, e_7000_983, e_7000_984, e_7000_985, e_7000_986, e_7000_987, e_7000_988, e_7000_989, e_7000_992, e_7000_993, e_7000_994, e_7000_995, e_7000_996, e_7000_997, e_7000_998, e_7000_999, e_7000_1000, e_7000_1001, e_7000_1002, e_7000_1003, e_7000_1006, e_7000_1009, e_7000_1010, zk_int, zk_ref, zk_null, zk_none, zk_long, zisR_r, zisR_n, zcl_int, zcl_ref, zcl_null, zpush_s, zpush_n, zbs, zbn, true_or, or_true, not_false_eq_true, not_true_eq_false, ↓reduceIte, and_self, and_true, true_and, zt_0, zt_50, z999, nI_1, a2, a3, a4, a5, s1, s2, s3, s4, s5, t1, t2, t3, t4, t5, f0, f1, c1, c2, c3, c4, c5, hc, hm]
end QL
