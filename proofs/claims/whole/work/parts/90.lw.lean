theorem la_2 (i : Nat) : nI i + 2 = nI (i + 2) := nI_add i 2
theorem la_3 (i : Nat) : nI i + 3 = nI (i + 3) := nI_add i 3
theorem la_4 (i : Nat) : nI i + 4 = nI (i + 4) := nI_add i 4
theorem la_5 (i : Nat) : nI i + 5 = nI (i + 5) := nI_add i 5
theorem la_6 (i : Nat) : nI i + 6 = nI (i + 6) := nI_add i 6
theorem ld_0 (L : Nat) (xs : Nat → Int32) (c : Nat × Nat) (D : hz_D) (hL : L ≤ 3072) (j : Nat) (hj : j < L) : mg_ld (hp (sx_rom L xs) c D) 0 .int (nI j) = some (.int (xs j)) := by
  have e : mx_arr (hp (sx_rom L xs) c D) 0 = some (.int, L, fun j => .int (xs j)) := rfl
  unfold mg_ld
  rw [e]
  dsimp only
  rw [if_pos ⟨rfl, in_nI hj (by omega)⟩, nI_clamp (by omega)]
theorem ln_0 (L : Nat) (xs : Nat → Int32) (c : Nat × Nat) (D : hz_D) : mg_ln (hp (sx_rom L xs) c D) 0 = some (nI L) := rfl
variable {d L : Nat} {xs : Nat → Int32} {c : Nat × Nat} {D : hz_D}
theorem lw_c0 (hI : Inv c D) (hL : L ≤ 3072) (i : Nat) (hi : i + 6 ≤ L) : ∃ c' D', mx_run (d + 101) 0 212 [some (.ref 0), some (.ref 17), some (.ref 109), some (.int (nI i))] [] (hp (sx_rom L xs) c D) = mx_run (d + 101) 0 1405 [some (.ref 0), some (.ref 17), some (.ref 109), some (.int (nI i))] [] (hp (sx_rom L xs) c' D') ∧ Inv c' D' ∧ c'.1 ≤ c.1 + 3 ∧ c'.2 ≤ c.2 + 300 := by
  obtain ⟨v, c', D', D'', r1, r2, hI', g1, g2⟩ := ap_boat (d := d) (L := L) (xs := xs) hI (xs (i + 1)) (xs (i + 2)) (xs (i + 3))
  refine ⟨c', D'', ?_, hI', g1, g2⟩
  simp (disch := first | assumption | exact kd_17 _ _ _ | exact kd_109 _ _ _ | omega) only [iq_0_212, iq_0_212n, iq_0_213, iq_0_214, iq_0_215, iq_0_216, iq_0_217, iq_0_218, iq_0_219, iq_0_220, iq_0_221, iq_0_222, iq_0_223, iq_0_224, iq_0_225, iq_0_226, iq_0_227, iq_0_228, iq_0_231, iq_0_231n, iq_0_232, iq_0_233, iq_0_234, iq_0_235, iq_0_236, iq_0_237, iq_0_238, iq_0_239, iq_0_240, iq_0_241, iq_0_242, iq_0_243, iq_0_244, iq_0_245, iq_0_246, iq_0_247, iq_0_250, iq_0_253, iq_0_254, iq_0_254z, Option.bind_some, Option.toList, List.cons_append, List.nil_append, ↓reduceIte, nI_1, Int32.reduceLT, Int32.reduceLE, dv_1, dv_2, dv_3, dv_4, dv_6, dv_8, dv_10, dv_20, dv_100, dv_200, dv_500, la_2, la_3, la_4, la_5, ld_0, r1, r2]
theorem lw_c1 (hI : Inv c D) (hL : L ≤ 3072) (i : Nat) (hi : i + 6 ≤ L) : ∃ c' D', mx_run (d + 101) 0 255 [some (.ref 0), some (.ref 17), some (.ref 109), some (.int (nI i))] [] (hp (sx_rom L xs) c D) = mx_run (d + 101) 0 1405 [some (.ref 0), some (.ref 17), some (.ref 109), some (.int (nI i))] [] (hp (sx_rom L xs) c' D') ∧ Inv c' D' ∧ c'.1 ≤ c.1 + 3 ∧ c'.2 ≤ c.2 + 300 := by
  obtain ⟨v, c', D', D'', r1, r2, hI', g1, g2⟩ := ap_told (d := d) (L := L) (xs := xs) hI (xs (i + 1)) (xs (i + 2))
  refine ⟨c', D'', ?_, hI', g1, g2⟩
  simp (disch := first | assumption | exact kd_17 _ _ _ | exact kd_109 _ _ _ | omega) only [iq_0_255, iq_0_255n, iq_0_256, iq_0_257, iq_0_258, iq_0_259, iq_0_260, iq_0_261, iq_0_262, iq_0_263, iq_0_264, iq_0_265, iq_0_266, iq_0_269, iq_0_269n, iq_0_270, iq_0_271, iq_0_272, iq_0_273, iq_0_274, iq_0_275, iq_0_276, iq_0_277, iq_0_278, iq_0_279, iq_0_280, iq_0_283, iq_0_286, iq_0_287, iq_0_287z, Option.bind_some, Option.toList, List.cons_append, List.nil_append, ↓reduceIte, nI_1, Int32.reduceLT, Int32.reduceLE, dv_1, dv_2, dv_3, dv_4, dv_6, dv_8, dv_10, dv_20, dv_100, dv_200, dv_500, la_2, la_3, la_4, la_5, ld_0, r1, r2]
theorem lw_c2 (hI : Inv c D) (hL : L ≤ 3072) (i : Nat) (hi : i + 6 ≤ L) : ∃ c' D', mx_run (d + 101) 0 288 [some (.ref 0), some (.ref 17), some (.ref 109), some (.int (nI i))] [] (hp (sx_rom L xs) c D) = mx_run (d + 101) 0 1405 [some (.ref 0), some (.ref 17), some (.ref 109), some (.int (nI i))] [] (hp (sx_rom L xs) c' D') ∧ Inv c' D' ∧ c'.1 ≤ c.1 + 3 ∧ c'.2 ≤ c.2 + 300 := by
  obtain ⟨v, c', D', D'', r1, r2, hI', g1, g2⟩ := ap_as (d := d) (L := L) (xs := xs) hI (xs (i + 1)) (xs (i + 2))
  refine ⟨c', D'', ?_, hI', g1, g2⟩
  simp (disch := first | assumption | exact kd_17 _ _ _ | exact kd_109 _ _ _ | omega) only [iq_0_288, iq_0_288n, iq_0_289, iq_0_290, iq_0_291, iq_0_292, iq_0_293, iq_0_294, iq_0_295, iq_0_296, iq_0_297, iq_0_298, iq_0_299, iq_0_302, iq_0_302n, iq_0_303, iq_0_304, iq_0_305, iq_0_306, iq_0_307, iq_0_308, iq_0_309, iq_0_310, iq_0_311, iq_0_312, iq_0_313, iq_0_316, iq_0_319, iq_0_320, iq_0_320z, Option.bind_some, Option.toList, List.cons_append, List.nil_append, ↓reduceIte, nI_1, Int32.reduceLT, Int32.reduceLE, dv_1, dv_2, dv_3, dv_4, dv_6, dv_8, dv_10, dv_20, dv_100, dv_200, dv_500, la_2, la_3, la_4, la_5, ld_0, r1, r2]
theorem lw_c3 (hI : Inv c D) (hL : L ≤ 3072) (i : Nat) (hi : i + 6 ≤ L) : ∃ c' D', mx_run (d + 101) 0 321 [some (.ref 0), some (.ref 17), some (.ref 109), some (.int (nI i))] [] (hp (sx_rom L xs) c D) = mx_run (d + 101) 0 1405 [some (.ref 0), some (.ref 17), some (.ref 109), some (.int (nI i))] [] (hp (sx_rom L xs) c' D') ∧ Inv c' D' ∧ c'.1 ≤ c.1 + 3 ∧ c'.2 ≤ c.2 + 300 := by
  obtain ⟨v, c', D', D'', r1, r2, hI', g1, g2⟩ := ap_turns (d := d) (L := L) (xs := xs) hI (xs (i + 1)) (xs (i + 2))
  refine ⟨c', D'', ?_, hI', g1, g2⟩
  simp (disch := first | assumption | exact kd_17 _ _ _ | exact kd_109 _ _ _ | omega) only [iq_0_321, iq_0_321n, iq_0_322, iq_0_323, iq_0_324, iq_0_325, iq_0_326, iq_0_327, iq_0_328, iq_0_329, iq_0_330, iq_0_331, iq_0_332, iq_0_335, iq_0_335n, iq_0_336, iq_0_337, iq_0_338, iq_0_339, iq_0_340, iq_0_341, iq_0_342, iq_0_343, iq_0_344, iq_0_345, iq_0_346, iq_0_349, iq_0_352, iq_0_353, iq_0_353z, Option.bind_some, Option.toList, List.cons_append, List.nil_append, ↓reduceIte, nI_1, Int32.reduceLT, Int32.reduceLE, dv_1, dv_2, dv_3, dv_4, dv_6, dv_8, dv_10, dv_20, dv_100, dv_200, dv_500, la_2, la_3, la_4, la_5, ld_0, r1, r2]
theorem lw_c4 (hI : Inv c D) (hL : L ≤ 3072) (i : Nat) (hi : i + 6 ≤ L) : ∃ c' D', mx_run (d + 101) 0 354 [some (.ref 0), some (.ref 17), some (.ref 109), some (.int (nI i))] [] (hp (sx_rom L xs) c D) = mx_run (d + 101) 0 1405 [some (.ref 0), some (.ref 17), some (.ref 109), some (.int (nI i))] [] (hp (sx_rom L xs) c' D') ∧ Inv c' D' ∧ c'.1 ≤ c.1 + 3 ∧ c'.2 ≤ c.2 + 300 := by
  obtain ⟨v, c', D', D'', r1, r2, hI', g1, g2⟩ := ap_set (d := d) (L := L) (xs := xs) hI (xs (i + 1)) (xs (i + 2)) (xs (i + 3))
  refine ⟨c', D'', ?_, hI', g1, g2⟩
  simp (disch := first | assumption | exact kd_17 _ _ _ | exact kd_109 _ _ _ | omega) only [iq_0_354, iq_0_354n, iq_0_355, iq_0_356, iq_0_357, iq_0_358, iq_0_359, iq_0_360, iq_0_361, iq_0_362, iq_0_363, iq_0_364, iq_0_365, iq_0_366, iq_0_367, iq_0_368, iq_0_369, iq_0_370, iq_0_373, iq_0_373n, iq_0_374, iq_0_375, iq_0_376, iq_0_377, iq_0_378, iq_0_379, iq_0_380, iq_0_381, iq_0_382, iq_0_383, iq_0_384, iq_0_385, iq_0_386, iq_0_387, iq_0_388, iq_0_389, iq_0_392, iq_0_395, iq_0_396, iq_0_396z, Option.bind_some, Option.toList, List.cons_append, List.nil_append, ↓reduceIte, nI_1, Int32.reduceLT, Int32.reduceLE, dv_1, dv_2, dv_3, dv_4, dv_6, dv_8, dv_10, dv_20, dv_100, dv_200, dv_500, la_2, la_3, la_4, la_5, ld_0, r1, r2]
theorem lw_c5 (hI : Inv c D) (hL : L ≤ 3072) (i : Nat) (hi : i + 6 ≤ L) : ∃ c' D', mx_run (d + 101) 0 397 [some (.ref 0), some (.ref 17), some (.ref 109), some (.int (nI i))] [] (hp (sx_rom L xs) c D) = mx_run (d + 101) 0 1405 [some (.ref 0), some (.ref 17), some (.ref 109), some (.int (nI i))] [] (hp (sx_rom L xs) c' D') ∧ Inv c' D' ∧ c'.1 ≤ c.1 + 3 ∧ c'.2 ≤ c.2 + 300 := by
  obtain ⟨v, c', D', D'', r1, r2, hI', g1, g2⟩ := ap_ties (d := d) (L := L) (xs := xs) hI (xs (i + 1)) (xs (i + 2))
  refine ⟨c', D'', ?_, hI', g1, g2⟩
  simp (disch := first | assumption | exact kd_17 _ _ _ | exact kd_109 _ _ _ | omega) only [iq_0_397, iq_0_397n, iq_0_398, iq_0_399, iq_0_400, iq_0_401, iq_0_402, iq_0_403, iq_0_404, iq_0_405, iq_0_406, iq_0_407, iq_0_408, iq_0_411, iq_0_411n, iq_0_412, iq_0_413, iq_0_414, iq_0_415, iq_0_416, iq_0_417, iq_0_418, iq_0_419, iq_0_420, iq_0_421, iq_0_422, iq_0_425, iq_0_428, iq_0_429, iq_0_429z, Option.bind_some, Option.toList, List.cons_append, List.nil_append, ↓reduceIte, nI_1, Int32.reduceLT, Int32.reduceLE, dv_1, dv_2, dv_3, dv_4, dv_6, dv_8, dv_10, dv_20, dv_100, dv_200, dv_500, la_2, la_3, la_4, la_5, ld_0, r1, r2]
theorem lw_c6 (hI : Inv c D) (hL : L ≤ 3072) (i : Nat) (hi : i + 6 ≤ L) : ∃ c' D', mx_run (d + 101) 0 430 [some (.ref 0), some (.ref 17), some (.ref 109), some (.int (nI i))] [] (hp (sx_rom L xs) c D) = mx_run (d + 101) 0 1405 [some (.ref 0), some (.ref 17), some (.ref 109), some (.int (nI i))] [] (hp (sx_rom L xs) c' D') ∧ Inv c' D' ∧ c'.1 ≤ c.1 + 3 ∧ c'.2 ≤ c.2 + 300 := by
  obtain ⟨v, c', D', D'', r1, r2, hI', g1, g2⟩ := ap_hands (d := d) (L := L) (xs := xs) hI (xs (i + 1))
  refine ⟨c', D'', ?_, hI', g1, g2⟩
  simp (disch := first | assumption | exact kd_17 _ _ _ | exact kd_109 _ _ _ | omega) only [iq_0_430, iq_0_430n, iq_0_431, iq_0_432, iq_0_433, iq_0_434, iq_0_435, iq_0_436, iq_0_439, iq_0_439n, iq_0_440, iq_0_441, iq_0_442, iq_0_443, iq_0_444, iq_0_445, iq_0_448, iq_0_451, iq_0_452, iq_0_452z, Option.bind_some, Option.toList, List.cons_append, List.nil_append, ↓reduceIte, nI_1, Int32.reduceLT, Int32.reduceLE, dv_1, dv_2, dv_3, dv_4, dv_6, dv_8, dv_10, dv_20, dv_100, dv_200, dv_500, la_2, la_3, la_4, la_5, ld_0, r1, r2]
theorem lw_c7 (hI : Inv c D) (hL : L ≤ 3072) (i : Nat) (hi : i + 6 ≤ L) : ∃ c' D', mx_run (d + 101) 0 453 [some (.ref 0), some (.ref 17), some (.ref 109), some (.int (nI i))] [] (hp (sx_rom L xs) c D) = mx_run (d + 101) 0 1405 [some (.ref 0), some (.ref 17), some (.ref 109), some (.int (nI i))] [] (hp (sx_rom L xs) c' D') ∧ Inv c' D' ∧ c'.1 ≤ c.1 + 3 ∧ c'.2 ≤ c.2 + 300 := by
  obtain ⟨v, c', D', D'', r1, r2, hI', g1, g2⟩ := ap_rule (d := d) (L := L) (xs := xs) hI (xs (i + 1)) (xs (i + 2))
  refine ⟨c', D'', ?_, hI', g1, g2⟩
  simp (disch := first | assumption | exact kd_17 _ _ _ | exact kd_109 _ _ _ | omega) only [iq_0_453, iq_0_453n, iq_0_454, iq_0_455, iq_0_456, iq_0_457, iq_0_458, iq_0_459, iq_0_460, iq_0_461, iq_0_462, iq_0_463, iq_0_464, iq_0_467, iq_0_467n, iq_0_468, iq_0_469, iq_0_470, iq_0_471, iq_0_472, iq_0_473, iq_0_474, iq_0_475, iq_0_476, iq_0_477, iq_0_478, iq_0_481, iq_0_484, iq_0_485, iq_0_485z, Option.bind_some, Option.toList, List.cons_append, List.nil_append, ↓reduceIte, nI_1, Int32.reduceLT, Int32.reduceLE, dv_1, dv_2, dv_3, dv_4, dv_6, dv_8, dv_10, dv_20, dv_100, dv_200, dv_500, la_2, la_3, la_4, la_5, ld_0, r1, r2]
theorem lw_c8 (hI : Inv c D) (hL : L ≤ 3072) (i : Nat) (hi : i + 6 ≤ L) : ∃ c' D', mx_run (d + 101) 0 486 [some (.ref 0), some (.ref 17), some (.ref 109), some (.int (nI i))] [] (hp (sx_rom L xs) c D) = mx_run (d + 101) 0 1405 [some (.ref 0), some (.ref 17), some (.ref 109), some (.int (nI i))] [] (hp (sx_rom L xs) c' D') ∧ Inv c' D' ∧ c'.1 ≤ c.1 + 3 ∧ c'.2 ≤ c.2 + 300 := by
  obtain ⟨v, c', D', D'', r1, r2, hI', g1, g2⟩ := ap_deal (d := d) (L := L) (xs := xs) hI (xs (i + 1))
  refine ⟨c', D'', ?_, hI', g1, g2⟩
  simp (disch := first | assumption | exact kd_17 _ _ _ | exact kd_109 _ _ _ | omega) only [iq_0_486, iq_0_486n, iq_0_487, iq_0_488, iq_0_489, iq_0_490, iq_0_491, iq_0_492, iq_0_495, iq_0_495n, iq_0_496, iq_0_497, iq_0_498, iq_0_499, iq_0_500, iq_0_501, iq_0_504, iq_0_507, iq_0_508, iq_0_508z, Option.bind_some, Option.toList, List.cons_append, List.nil_append, ↓reduceIte, nI_1, Int32.reduceLT, Int32.reduceLE, dv_1, dv_2, dv_3, dv_4, dv_6, dv_8, dv_10, dv_20, dv_100, dv_200, dv_500, la_2, la_3, la_4, la_5, ld_0, r1, r2]
theorem lw_c9 (hI : Inv c D) (hL : L ≤ 3072) (i : Nat) (hi : i + 6 ≤ L) : ∃ c' D', mx_run (d + 101) 0 509 [some (.ref 0), some (.ref 17), some (.ref 109), some (.int (nI i))] [] (hp (sx_rom L xs) c D) = mx_run (d + 101) 0 1405 [some (.ref 0), some (.ref 17), some (.ref 109), some (.int (nI i))] [] (hp (sx_rom L xs) c' D') ∧ Inv c' D' ∧ c'.1 ≤ c.1 + 3 ∧ c'.2 ≤ c.2 + 300 := by
  obtain ⟨v, c', D', D'', r1, r2, hI', g1, g2⟩ := ap_seed (d := d) (L := L) (xs := xs) hI (xs (i + 1))
  refine ⟨c', D'', ?_, hI', g1, g2⟩
  simp (disch := first | assumption | exact kd_17 _ _ _ | exact kd_109 _ _ _ | omega) only [iq_0_509, iq_0_509n, iq_0_510, iq_0_511, iq_0_512, iq_0_513, iq_0_514, iq_0_515, iq_0_518, iq_0_518n, iq_0_519, iq_0_520, iq_0_521, iq_0_522, iq_0_523, iq_0_524, iq_0_527, iq_0_530, iq_0_531, iq_0_531z, Option.bind_some, Option.toList, List.cons_append, List.nil_append, ↓reduceIte, nI_1, Int32.reduceLT, Int32.reduceLE, dv_1, dv_2, dv_3, dv_4, dv_6, dv_8, dv_10, dv_20, dv_100, dv_200, dv_500, la_2, la_3, la_4, la_5, ld_0, r1, r2]
theorem lw_c10 (hI : Inv c D) (hL : L ≤ 3072) (i : Nat) (hi : i + 6 ≤ L) : ∃ c' D', mx_run (d + 101) 0 532 [some (.ref 0), some (.ref 17), some (.ref 109), some (.int (nI i))] [] (hp (sx_rom L xs) c D) = mx_run (d + 101) 0 1405 [some (.ref 0), some (.ref 17), some (.ref 109), some (.int (nI i))] [] (hp (sx_rom L xs) c' D') ∧ Inv c' D' ∧ c'.1 ≤ c.1 + 3 ∧ c'.2 ≤ c.2 + 300 := by
  obtain ⟨v, c', D', D'', r1, r2, hI', g1, g2⟩ := ap_speed (d := d) (L := L) (xs := xs) hI
  refine ⟨c', D'', ?_, hI', g1, g2⟩
  simp (disch := first | assumption | exact kd_17 _ _ _ | exact kd_109 _ _ _ | omega) only [iq_0_532, iq_0_532n, iq_0_533, iq_0_536, iq_0_536n, iq_0_537, iq_0_540, iq_0_543, iq_0_544, iq_0_544z, Option.bind_some, Option.toList, List.cons_append, List.nil_append, ↓reduceIte, nI_1, Int32.reduceLT, Int32.reduceLE, dv_1, dv_2, dv_3, dv_4, dv_6, dv_8, dv_10, dv_20, dv_100, dv_200, dv_500, la_2, la_3, la_4, la_5, ld_0, r1, r2]
theorem lw_c11 (hI : Inv c D) (hL : L ≤ 3072) (i : Nat) (hi : i + 6 ≤ L) : ∃ c' D', mx_run (d + 101) 0 545 [some (.ref 0), some (.ref 17), some (.ref 109), some (.int (nI i))] [] (hp (sx_rom L xs) c D) = mx_run (d + 101) 0 1405 [some (.ref 0), some (.ref 17), some (.ref 109), some (.int (nI i))] [] (hp (sx_rom L xs) c' D') ∧ Inv c' D' ∧ c'.1 ≤ c.1 + 3 ∧ c'.2 ≤ c.2 + 300 := by
  obtain ⟨v, c', D', D'', r1, r2, hI', g1, g2⟩ := ap_hours (d := d) (L := L) (xs := xs) hI (xs (i + 1))
  refine ⟨c', D'', ?_, hI', g1, g2⟩
  simp (disch := first | assumption | exact kd_17 _ _ _ | exact kd_109 _ _ _ | omega) only [iq_0_545, iq_0_545n, iq_0_546, iq_0_547, iq_0_548, iq_0_549, iq_0_550, iq_0_551, iq_0_554, iq_0_554n, iq_0_555, iq_0_556, iq_0_557, iq_0_558, iq_0_559, iq_0_560, iq_0_563, iq_0_566, iq_0_567, iq_0_567z, Option.bind_some, Option.toList, List.cons_append, List.nil_append, ↓reduceIte, nI_1, Int32.reduceLT, Int32.reduceLE, dv_1, dv_2, dv_3, dv_4, dv_6, dv_8, dv_10, dv_20, dv_100, dv_200, dv_500, la_2, la_3, la_4, la_5, ld_0, r1, r2]
theorem lw_c12 (hI : Inv c D) (hL : L ≤ 3072) (i : Nat) (hi : i + 6 ≤ L) : ∃ c' D', mx_run (d + 101) 0 568 [some (.ref 0), some (.ref 17), some (.ref 109), some (.int (nI i))] [] (hp (sx_rom L xs) c D) = mx_run (d + 101) 0 1405 [some (.ref 0), some (.ref 17), some (.ref 109), some (.int (nI i))] [] (hp (sx_rom L xs) c' D') ∧ Inv c' D' ∧ c'.1 ≤ c.1 + 3 ∧ c'.2 ≤ c.2 + 300 := by
  obtain ⟨v, c', D', D'', r1, r2, hI', g1, g2⟩ := ap_fleet (d := d) (L := L) (xs := xs) hI (xs (i + 1))
  refine ⟨c', D'', ?_, hI', g1, g2⟩
  simp (disch := first | assumption | exact kd_17 _ _ _ | exact kd_109 _ _ _ | omega) only [iq_0_568, iq_0_568n, iq_0_569, iq_0_570, iq_0_571, iq_0_572, iq_0_573, iq_0_574, iq_0_577, iq_0_577n, iq_0_578, iq_0_579, iq_0_580, iq_0_581, iq_0_582, iq_0_583, iq_0_586, iq_0_589, iq_0_590, iq_0_590z, Option.bind_some, Option.toList, List.cons_append, List.nil_append, ↓reduceIte, nI_1, Int32.reduceLT, Int32.reduceLE, dv_1, dv_2, dv_3, dv_4, dv_6, dv_8, dv_10, dv_20, dv_100, dv_200, dv_500, la_2, la_3, la_4, la_5, ld_0, r1, r2]
theorem lw_c13 (hI : Inv c D) (hL : L ≤ 3072) (i : Nat) (hi : i + 6 ≤ L) : ∃ c' D', mx_run (d + 101) 0 591 [some (.ref 0), some (.ref 17), some (.ref 109), some (.int (nI i))] [] (hp (sx_rom L xs) c D) = mx_run (d + 101) 0 1405 [some (.ref 0), some (.ref 17), some (.ref 109), some (.int (nI i))] [] (hp (sx_rom L xs) c' D') ∧ Inv c' D' ∧ c'.1 ≤ c.1 + 3 ∧ c'.2 ≤ c.2 + 300 := by
  obtain ⟨v, c', D', D'', r1, r2, hI', g1, g2⟩ := ap_behind (d := d) (L := L) (xs := xs) hI (xs (i + 1)) (xs (i + 2))
  refine ⟨c', D'', ?_, hI', g1, g2⟩
  simp (disch := first | assumption | exact kd_17 _ _ _ | exact kd_109 _ _ _ | omega) only [iq_0_591, iq_0_591n, iq_0_592, iq_0_593, iq_0_594, iq_0_595, iq_0_596, iq_0_597, iq_0_598, iq_0_599, iq_0_600, iq_0_601, iq_0_602, iq_0_605, iq_0_605n, iq_0_606, iq_0_607, iq_0_608, iq_0_609, iq_0_610, iq_0_611, iq_0_612, iq_0_613, iq_0_614, iq_0_615, iq_0_616, iq_0_619, iq_0_622, iq_0_623, iq_0_623z, Option.bind_some, Option.toList, List.cons_append, List.nil_append, ↓reduceIte, nI_1, Int32.reduceLT, Int32.reduceLE, dv_1, dv_2, dv_3, dv_4, dv_6, dv_8, dv_10, dv_20, dv_100, dv_200, dv_500, la_2, la_3, la_4, la_5, ld_0, r1, r2]
theorem lw_c14 (hI : Inv c D) (hL : L ≤ 3072) (i : Nat) (hi : i + 6 ≤ L) : ∃ c' D', mx_run (d + 101) 0 624 [some (.ref 0), some (.ref 17), some (.ref 109), some (.int (nI i))] [] (hp (sx_rom L xs) c D) = mx_run (d + 101) 0 1405 [some (.ref 0), some (.ref 17), some (.ref 109), some (.int (nI i))] [] (hp (sx_rom L xs) c' D') ∧ Inv c' D' ∧ c'.1 ≤ c.1 + 3 ∧ c'.2 ≤ c.2 + 300 := by
  obtain ⟨v, c', D', D'', r1, r2, hI', g1, g2⟩ := ap_home (d := d) (L := L) (xs := xs) hI
  refine ⟨c', D'', ?_, hI', g1, g2⟩
  simp (disch := first | assumption | exact kd_17 _ _ _ | exact kd_109 _ _ _ | omega) only [iq_0_624, iq_0_624n, iq_0_625, iq_0_628, iq_0_628n, iq_0_629, iq_0_632, iq_0_635, iq_0_636, iq_0_636z, Option.bind_some, Option.toList, List.cons_append, List.nil_append, ↓reduceIte, nI_1, Int32.reduceLT, Int32.reduceLE, dv_1, dv_2, dv_3, dv_4, dv_6, dv_8, dv_10, dv_20, dv_100, dv_200, dv_500, la_2, la_3, la_4, la_5, ld_0, r1, r2]
theorem lw_c15 (hI : Inv c D) (hL : L ≤ 3072) (i : Nat) (hi : i + 6 ≤ L) : ∃ c' D', mx_run (d + 101) 0 637 [some (.ref 0), some (.ref 17), some (.ref 109), some (.int (nI i))] [] (hp (sx_rom L xs) c D) = mx_run (d + 101) 0 1405 [some (.ref 0), some (.ref 17), some (.ref 109), some (.int (nI i))] [] (hp (sx_rom L xs) c' D') ∧ Inv c' D' ∧ c'.1 ≤ c.1 + 3 ∧ c'.2 ≤ c.2 + 300 := by
  obtain ⟨v, c', D', D'', r1, r2, hI', g1, g2⟩ := ap_bestLaw (d := d) (L := L) (xs := xs) hI (xs (i + 1)) (xs (i + 2))
  refine ⟨c', D'', ?_, hI', g1, g2⟩
  simp (disch := first | assumption | exact kd_17 _ _ _ | exact kd_109 _ _ _ | omega) only [iq_0_637, iq_0_637n, iq_0_638, iq_0_639, iq_0_640, iq_0_641, iq_0_642, iq_0_643, iq_0_644, iq_0_645, iq_0_646, iq_0_647, iq_0_648, iq_0_651, iq_0_651n, iq_0_652, iq_0_653, iq_0_654, iq_0_655, iq_0_656, iq_0_657, iq_0_658, iq_0_659, iq_0_660, iq_0_661, iq_0_662, iq_0_665, iq_0_668, iq_0_669, iq_0_669z, Option.bind_some, Option.toList, List.cons_append, List.nil_append, ↓reduceIte, nI_1, Int32.reduceLT, Int32.reduceLE, dv_1, dv_2, dv_3, dv_4, dv_6, dv_8, dv_10, dv_20, dv_100, dv_200, dv_500, la_2, la_3, la_4, la_5, ld_0, r1, r2]
theorem lw_c16 (hI : Inv c D) (hL : L ≤ 3072) (i : Nat) (hi : i + 6 ≤ L) : ∃ c' D', mx_run (d + 101) 0 670 [some (.ref 0), some (.ref 17), some (.ref 109), some (.int (nI i))] [] (hp (sx_rom L xs) c D) = mx_run (d + 101) 0 1405 [some (.ref 0), some (.ref 17), some (.ref 109), some (.int (nI i))] [] (hp (sx_rom L xs) c' D') ∧ Inv c' D' ∧ c'.1 ≤ c.1 + 3 ∧ c'.2 ≤ c.2 + 300 := by
  obtain ⟨v, c', D', D'', r1, r2, hI', g1, g2⟩ := ap_turned (d := d) (L := L) (xs := xs) hI (xs (i + 1)) (xs (i + 2))
  refine ⟨c', D'', ?_, hI', g1, g2⟩
  simp (disch := first | assumption | exact kd_17 _ _ _ | exact kd_109 _ _ _ | omega) only [iq_0_670, iq_0_670n, iq_0_671, iq_0_672, iq_0_673, iq_0_674, iq_0_675, iq_0_676, iq_0_677, iq_0_678, iq_0_679, iq_0_680, iq_0_681, iq_0_684, iq_0_684n, iq_0_685, iq_0_686, iq_0_687, iq_0_688, iq_0_689, iq_0_690, iq_0_691, iq_0_692, iq_0_693, iq_0_694, iq_0_695, iq_0_698, iq_0_701, iq_0_702, iq_0_702z, Option.bind_some, Option.toList, List.cons_append, List.nil_append, ↓reduceIte, nI_1, Int32.reduceLT, Int32.reduceLE, dv_1, dv_2, dv_3, dv_4, dv_6, dv_8, dv_10, dv_20, dv_100, dv_200, dv_500, la_2, la_3, la_4, la_5, ld_0, r1, r2]
theorem lw_c17 (hI : Inv c D) (hL : L ≤ 3072) (i : Nat) (hi : i + 6 ≤ L) : ∃ c' D', mx_run (d + 101) 0 703 [some (.ref 0), some (.ref 17), some (.ref 109), some (.int (nI i))] [] (hp (sx_rom L xs) c D) = mx_run (d + 101) 0 1405 [some (.ref 0), some (.ref 17), some (.ref 109), some (.int (nI i))] [] (hp (sx_rom L xs) c' D') ∧ Inv c' D' ∧ c'.1 ≤ c.1 + 3 ∧ c'.2 ≤ c.2 + 300 := by
  obtain ⟨v, c', D', D'', r1, r2, hI', g1, g2⟩ := ap_cutOff (d := d) (L := L) (xs := xs) hI (xs (i + 1))
  refine ⟨c', D'', ?_, hI', g1, g2⟩
  simp (disch := first | assumption | exact kd_17 _ _ _ | exact kd_109 _ _ _ | omega) only [iq_0_703, iq_0_703n, iq_0_704, iq_0_705, iq_0_706, iq_0_707, iq_0_708, iq_0_709, iq_0_712, iq_0_712n, iq_0_713, iq_0_714, iq_0_715, iq_0_716, iq_0_717, iq_0_718, iq_0_721, iq_0_724, iq_0_725, iq_0_725z, Option.bind_some, Option.toList, List.cons_append, List.nil_append, ↓reduceIte, nI_1, Int32.reduceLT, Int32.reduceLE, dv_1, dv_2, dv_3, dv_4, dv_6, dv_8, dv_10, dv_20, dv_100, dv_200, dv_500, la_2, la_3, la_4, la_5, ld_0, r1, r2]
theorem lw_c18 (hI : Inv c D) (hL : L ≤ 3072) (i : Nat) (hi : i + 6 ≤ L) : ∃ c' D', mx_run (d + 101) 0 726 [some (.ref 0), some (.ref 17), some (.ref 109), some (.int (nI i))] [] (hp (sx_rom L xs) c D) = mx_run (d + 101) 0 1405 [some (.ref 0), some (.ref 17), some (.ref 109), some (.int (nI i))] [] (hp (sx_rom L xs) c' D') ∧ Inv c' D' ∧ c'.1 ≤ c.1 + 3 ∧ c'.2 ≤ c.2 + 300 := by
  obtain ⟨v, c', D', D'', r1, r2, hI', g1, g2⟩ := ap_wishes (d := d) (L := L) (xs := xs) hI (xs (i + 1)) (xs (i + 2))
  refine ⟨c', D'', ?_, hI', g1, g2⟩
  simp (disch := first | assumption | exact kd_17 _ _ _ | exact kd_109 _ _ _ | omega) only [iq_0_726, iq_0_726n, iq_0_727, iq_0_728, iq_0_729, iq_0_730, iq_0_731, iq_0_732, iq_0_733, iq_0_734, iq_0_735, iq_0_736, iq_0_737, iq_0_740, iq_0_740n, iq_0_741, iq_0_742, iq_0_743, iq_0_744, iq_0_745, iq_0_746, iq_0_747, iq_0_748, iq_0_749, iq_0_750, iq_0_751, iq_0_754, iq_0_757, iq_0_758, iq_0_758z, Option.bind_some, Option.toList, List.cons_append, List.nil_append, ↓reduceIte, nI_1, Int32.reduceLT, Int32.reduceLE, dv_1, dv_2, dv_3, dv_4, dv_6, dv_8, dv_10, dv_20, dv_100, dv_200, dv_500, la_2, la_3, la_4, la_5, ld_0, r1, r2]
theorem lw_c19 (hI : Inv c D) (hL : L ≤ 3072) (i : Nat) (hi : i + 6 ≤ L) : ∃ c' D', mx_run (d + 101) 0 759 [some (.ref 0), some (.ref 17), some (.ref 109), some (.int (nI i))] [] (hp (sx_rom L xs) c D) = mx_run (d + 101) 0 1405 [some (.ref 0), some (.ref 17), some (.ref 109), some (.int (nI i))] [] (hp (sx_rom L xs) c' D') ∧ Inv c' D' ∧ c'.1 ≤ c.1 + 3 ∧ c'.2 ≤ c.2 + 300 := by
  obtain ⟨v, c', D', D'', r1, r2, hI', g1, g2⟩ := ap_whose (d := d) (L := L) (xs := xs) hI (xs (i + 1)) (xs (i + 2)) (xs (i + 3))
  refine ⟨c', D'', ?_, hI', g1, g2⟩
  simp (disch := first | assumption | exact kd_17 _ _ _ | exact kd_109 _ _ _ | omega) only [iq_0_759, iq_0_759n, iq_0_760, iq_0_761, iq_0_762, iq_0_763, iq_0_764, iq_0_765, iq_0_766, iq_0_767, iq_0_768, iq_0_769, iq_0_770, iq_0_771, iq_0_772, iq_0_773, iq_0_774, iq_0_775, iq_0_778, iq_0_778n, iq_0_779, iq_0_780, iq_0_781, iq_0_782, iq_0_783, iq_0_784, iq_0_785, iq_0_786, iq_0_787, iq_0_788, iq_0_789, iq_0_790, iq_0_791, iq_0_792, iq_0_793, iq_0_794, iq_0_797, iq_0_800, iq_0_801, iq_0_801z, Option.bind_some, Option.toList, List.cons_append, List.nil_append, ↓reduceIte, nI_1, Int32.reduceLT, Int32.reduceLE, dv_1, dv_2, dv_3, dv_4, dv_6, dv_8, dv_10, dv_20, dv_100, dv_200, dv_500, la_2, la_3, la_4, la_5, ld_0, r1, r2]
theorem lw_c20 (hI : Inv c D) (hL : L ≤ 3072) (i : Nat) (hi : i + 6 ≤ L) : ∃ c' D', mx_run (d + 101) 0 802 [some (.ref 0), some (.ref 17), some (.ref 109), some (.int (nI i))] [] (hp (sx_rom L xs) c D) = mx_run (d + 101) 0 1405 [some (.ref 0), some (.ref 17), some (.ref 109), some (.int (nI i))] [] (hp (sx_rom L xs) c' D') ∧ Inv c' D' ∧ c'.1 ≤ c.1 + 3 ∧ c'.2 ≤ c.2 + 300 := by
  obtain ⟨v, c', D', D'', r1, r2, hI', g1, g2⟩ := ap_fee (d := d) (L := L) (xs := xs) hI
  refine ⟨c', D'', ?_, hI', g1, g2⟩
  simp (disch := first | assumption | exact kd_17 _ _ _ | exact kd_109 _ _ _ | omega) only [iq_0_802, iq_0_802n, iq_0_803, iq_0_806, iq_0_806n, iq_0_807, iq_0_810, iq_0_813, iq_0_814, iq_0_814z, Option.bind_some, Option.toList, List.cons_append, List.nil_append, ↓reduceIte, nI_1, Int32.reduceLT, Int32.reduceLE, dv_1, dv_2, dv_3, dv_4, dv_6, dv_8, dv_10, dv_20, dv_100, dv_200, dv_500, la_2, la_3, la_4, la_5, ld_0, r1, r2]
theorem lw_c21 (hI : Inv c D) (hL : L ≤ 3072) (i : Nat) (hi : i + 6 ≤ L) : ∃ c' D', mx_run (d + 101) 0 815 [some (.ref 0), some (.ref 17), some (.ref 109), some (.int (nI i))] [] (hp (sx_rom L xs) c D) = mx_run (d + 101) 0 1405 [some (.ref 0), some (.ref 17), some (.ref 109), some (.int (nI i))] [] (hp (sx_rom L xs) c' D') ∧ Inv c' D' ∧ c'.1 ≤ c.1 + 3 ∧ c'.2 ≤ c.2 + 300 := by
  obtain ⟨v, c', D', D'', r1, r2, hI', g1, g2⟩ := ap_fine (d := d) (L := L) (xs := xs) hI (xs (i + 1))
  refine ⟨c', D'', ?_, hI', g1, g2⟩
  simp (disch := first | assumption | exact kd_17 _ _ _ | exact kd_109 _ _ _ | omega) only [iq_0_815, iq_0_815n, iq_0_816, iq_0_817, iq_0_818, iq_0_819, iq_0_820, iq_0_821, iq_0_824, iq_0_824n, iq_0_825, iq_0_826, iq_0_827, iq_0_828, iq_0_829, iq_0_830, iq_0_833, iq_0_836, iq_0_837, iq_0_837z, Option.bind_some, Option.toList, List.cons_append, List.nil_append, ↓reduceIte, nI_1, Int32.reduceLT, Int32.reduceLE, dv_1, dv_2, dv_3, dv_4, dv_6, dv_8, dv_10, dv_20, dv_100, dv_200, dv_500, la_2, la_3, la_4, la_5, ld_0, r1, r2]
theorem lw_c22 (hI : Inv c D) (hL : L ≤ 3072) (i : Nat) (hi : i + 6 ≤ L) : ∃ c' D', mx_run (d + 101) 0 838 [some (.ref 0), some (.ref 17), some (.ref 109), some (.int (nI i))] [] (hp (sx_rom L xs) c D) = mx_run (d + 101) 0 1405 [some (.ref 0), some (.ref 17), some (.ref 109), some (.int (nI i))] [] (hp (sx_rom L xs) c' D') ∧ Inv c' D' ∧ c'.1 ≤ c.1 + 3 ∧ c'.2 ≤ c.2 + 300 := by
  obtain ⟨v, c', D', D'', r1, r2, hI', g1, g2⟩ := ap_feed (d := d) (L := L) (xs := xs) hI (xs (i + 1)) (xs (i + 2)) (xs (i + 3))
  refine ⟨c', D'', ?_, hI', g1, g2⟩
  simp (disch := first | assumption | exact kd_17 _ _ _ | exact kd_109 _ _ _ | omega) only [iq_0_838, iq_0_838n, iq_0_839, iq_0_840, iq_0_841, iq_0_842, iq_0_843, iq_0_844, iq_0_845, iq_0_846, iq_0_847, iq_0_848, iq_0_849, iq_0_850, iq_0_851, iq_0_852, iq_0_853, iq_0_854, iq_0_857, iq_0_857n, iq_0_858, iq_0_859, iq_0_860, iq_0_861, iq_0_862, iq_0_863, iq_0_864, iq_0_865, iq_0_866, iq_0_867, iq_0_868, iq_0_869, iq_0_870, iq_0_871, iq_0_872, iq_0_873, iq_0_876, iq_0_879, iq_0_880, iq_0_880z, Option.bind_some, Option.toList, List.cons_append, List.nil_append, ↓reduceIte, nI_1, Int32.reduceLT, Int32.reduceLE, dv_1, dv_2, dv_3, dv_4, dv_6, dv_8, dv_10, dv_20, dv_100, dv_200, dv_500, la_2, la_3, la_4, la_5, ld_0, r1, r2]
theorem lw_c23 (hI : Inv c D) (hL : L ≤ 3072) (i : Nat) (hi : i + 6 ≤ L) : ∃ c' D', mx_run (d + 101) 0 881 [some (.ref 0), some (.ref 17), some (.ref 109), some (.int (nI i))] [] (hp (sx_rom L xs) c D) = mx_run (d + 101) 0 1405 [some (.ref 0), some (.ref 17), some (.ref 109), some (.int (nI i))] [] (hp (sx_rom L xs) c' D') ∧ Inv c' D' ∧ c'.1 ≤ c.1 + 3 ∧ c'.2 ≤ c.2 + 300 := by
  obtain ⟨v, c', D', D'', r1, r2, hI', g1, g2⟩ := ap_trim (d := d) (L := L) (xs := xs) hI (xs (i + 1))
  refine ⟨c', D'', ?_, hI', g1, g2⟩
  simp (disch := first | assumption | exact kd_17 _ _ _ | exact kd_109 _ _ _ | omega) only [iq_0_881, iq_0_881n, iq_0_882, iq_0_883, iq_0_884, iq_0_885, iq_0_886, iq_0_887, iq_0_890, iq_0_890n, iq_0_891, iq_0_892, iq_0_893, iq_0_894, iq_0_895, iq_0_896, iq_0_899, iq_0_902, iq_0_903, iq_0_903z, Option.bind_some, Option.toList, List.cons_append, List.nil_append, ↓reduceIte, nI_1, Int32.reduceLT, Int32.reduceLE, dv_1, dv_2, dv_3, dv_4, dv_6, dv_8, dv_10, dv_20, dv_100, dv_200, dv_500, la_2, la_3, la_4, la_5, ld_0, r1, r2]
theorem lw_c24 (hI : Inv c D) (hL : L ≤ 3072) (i : Nat) (hi : i + 6 ≤ L) (htx : ap d L xs c D 99 [some (.ref 17)] 228 [some (.ref 109), none, none]) : ∃ c' D', mx_run (d + 101) 0 904 [some (.ref 0), some (.ref 17), some (.ref 109), some (.int (nI i))] [] (hp (sx_rom L xs) c D) = mx_run (d + 101) 0 1405 [some (.ref 0), some (.ref 17), some (.ref 109), some (.int (nI i))] [] (hp (sx_rom L xs) c' D') ∧ Inv c' D' ∧ c'.1 ≤ c.1 + 3 ∧ c'.2 ≤ c.2 + 300 := by
  obtain ⟨v, c', D', D'', r1, r2, hI', g1, g2⟩ := htx
  refine ⟨c', D'', ?_, hI', g1, g2⟩
  simp (disch := first | assumption | exact kd_17 _ _ _ | exact kd_109 _ _ _ | omega) only [iq_0_904, iq_0_904n, iq_0_905, iq_0_908, iq_0_908n, iq_0_909, iq_0_912, iq_0_915, iq_0_916, iq_0_916z, Option.bind_some, Option.toList, List.cons_append, List.nil_append, ↓reduceIte, nI_1, Int32.reduceLT, Int32.reduceLE, dv_1, dv_2, dv_3, dv_4, dv_6, dv_8, dv_10, dv_20, dv_100, dv_200, dv_500, la_2, la_3, la_4, la_5, ld_0, r1, r2]
theorem lw_c25 (hI : Inv c D) (hL : L ≤ 3072) (i : Nat) (hi : i + 6 ≤ L) : ∃ c' D', mx_run (d + 101) 0 917 [some (.ref 0), some (.ref 17), some (.ref 109), some (.int (nI i))] [] (hp (sx_rom L xs) c D) = mx_run (d + 101) 0 1405 [some (.ref 0), some (.ref 17), some (.ref 109), some (.int (nI i))] [] (hp (sx_rom L xs) c' D') ∧ Inv c' D' ∧ c'.1 ≤ c.1 + 3 ∧ c'.2 ≤ c.2 + 300 := by
  obtain ⟨v, c', D', D'', r1, r2, hI', g1, g2⟩ := ap_textTold (d := d) (L := L) (xs := xs) hI (xs (i + 1)) (xs (i + 2))
  refine ⟨c', D'', ?_, hI', g1, g2⟩
  simp (disch := first | assumption | exact kd_17 _ _ _ | exact kd_109 _ _ _ | omega) only [iq_0_917, iq_0_917n, iq_0_918, iq_0_919, iq_0_920, iq_0_921, iq_0_922, iq_0_923, iq_0_924, iq_0_925, iq_0_926, iq_0_927, iq_0_928, iq_0_931, iq_0_931n, iq_0_932, iq_0_933, iq_0_934, iq_0_935, iq_0_936, iq_0_937, iq_0_938, iq_0_939, iq_0_940, iq_0_941, iq_0_942, iq_0_945, iq_0_948, iq_0_949, iq_0_949z, Option.bind_some, Option.toList, List.cons_append, List.nil_append, ↓reduceIte, nI_1, Int32.reduceLT, Int32.reduceLE, dv_1, dv_2, dv_3, dv_4, dv_6, dv_8, dv_10, dv_20, dv_100, dv_200, dv_500, la_2, la_3, la_4, la_5, ld_0, r1, r2]
theorem lw_c26 (hI : Inv c D) (hL : L ≤ 3072) (i : Nat) (hi : i + 6 ≤ L) : ∃ c' D', mx_run (d + 101) 0 950 [some (.ref 0), some (.ref 17), some (.ref 109), some (.int (nI i))] [] (hp (sx_rom L xs) c D) = mx_run (d + 101) 0 1405 [some (.ref 0), some (.ref 17), some (.ref 109), some (.int (nI i))] [] (hp (sx_rom L xs) c' D') ∧ Inv c' D' ∧ c'.1 ≤ c.1 + 3 ∧ c'.2 ≤ c.2 + 300 := by
  obtain ⟨v, c', D', D'', r1, r2, hI', g1, g2⟩ := ap_why (d := d) (L := L) (xs := xs) hI (xs (i + 1))
  refine ⟨c', D'', ?_, hI', g1, g2⟩
  simp (disch := first | assumption | exact kd_17 _ _ _ | exact kd_109 _ _ _ | omega) only [iq_0_950, iq_0_950n, iq_0_951, iq_0_952, iq_0_953, iq_0_954, iq_0_955, iq_0_956, iq_0_959, iq_0_959n, iq_0_960, iq_0_961, iq_0_962, iq_0_963, iq_0_964, iq_0_965, iq_0_968, iq_0_971, iq_0_972, iq_0_972z, Option.bind_some, Option.toList, List.cons_append, List.nil_append, ↓reduceIte, nI_1, Int32.reduceLT, Int32.reduceLE, dv_1, dv_2, dv_3, dv_4, dv_6, dv_8, dv_10, dv_20, dv_100, dv_200, dv_500, la_2, la_3, la_4, la_5, ld_0, r1, r2]
theorem lw_c27 (hI : Inv c D) (hL : L ≤ 3072) (i : Nat) (hi : i + 6 ≤ L) : ∃ c' D', mx_run (d + 101) 0 973 [some (.ref 0), some (.ref 17), some (.ref 109), some (.int (nI i))] [] (hp (sx_rom L xs) c D) = mx_run (d + 101) 0 1405 [some (.ref 0), some (.ref 17), some (.ref 109), some (.int (nI i))] [] (hp (sx_rom L xs) c' D') ∧ Inv c' D' ∧ c'.1 ≤ c.1 + 3 ∧ c'.2 ≤ c.2 + 300 := by
  obtain ⟨v, c', D', D'', r1, r2, hI', g1, g2⟩ := ap_sheet (d := d) (L := L) (xs := xs) hI (xs (i + 1)) (xs (i + 2)) (xs (i + 3))
  refine ⟨c', D'', ?_, hI', g1, g2⟩
  simp (disch := first | assumption | exact kd_17 _ _ _ | exact kd_109 _ _ _ | omega) only [iq_0_973, iq_0_973n, iq_0_974, iq_0_975, iq_0_976, iq_0_977, iq_0_978, iq_0_979, iq_0_980, iq_0_981, iq_0_982, iq_0_983, iq_0_984, iq_0_985, iq_0_986, iq_0_987, iq_0_988, iq_0_989, iq_0_992, iq_0_992n, iq_0_993, iq_0_994, iq_0_995, iq_0_996, iq_0_997, iq_0_998, iq_0_999, iq_0_1000, iq_0_1001, iq_0_1002, iq_0_1003, iq_0_1004, iq_0_1005, iq_0_1006, iq_0_1007, iq_0_1008, iq_0_1011, iq_0_1014, iq_0_1015, iq_0_1015z, Option.bind_some, Option.toList, List.cons_append, List.nil_append, ↓reduceIte, nI_1, Int32.reduceLT, Int32.reduceLE, dv_1, dv_2, dv_3, dv_4, dv_6, dv_8, dv_10, dv_20, dv_100, dv_200, dv_500, la_2, la_3, la_4, la_5, ld_0, r1, r2]
theorem lw_c28 (hI : Inv c D) (hL : L ≤ 3072) (i : Nat) (hi : i + 6 ≤ L) : ∃ c' D', mx_run (d + 101) 0 1016 [some (.ref 0), some (.ref 17), some (.ref 109), some (.int (nI i))] [] (hp (sx_rom L xs) c D) = mx_run (d + 101) 0 1405 [some (.ref 0), some (.ref 17), some (.ref 109), some (.int (nI i))] [] (hp (sx_rom L xs) c' D') ∧ Inv c' D' ∧ c'.1 ≤ c.1 + 3 ∧ c'.2 ≤ c.2 + 300 := by
  obtain ⟨v, c', D', D'', r1, r2, hI', g1, g2⟩ := ap_mark (d := d) (L := L) (xs := xs) hI (xs (i + 1)) (xs (i + 2)) (xs (i + 3))
  refine ⟨c', D'', ?_, hI', g1, g2⟩
  simp (disch := first | assumption | exact kd_17 _ _ _ | exact kd_109 _ _ _ | omega) only [iq_0_1016, iq_0_1016n, iq_0_1017, iq_0_1018, iq_0_1019, iq_0_1020, iq_0_1021, iq_0_1022, iq_0_1023, iq_0_1024, iq_0_1025, iq_0_1026, iq_0_1027, iq_0_1028, iq_0_1029, iq_0_1030, iq_0_1031, iq_0_1032, iq_0_1035, iq_0_1035n, iq_0_1036, iq_0_1037, iq_0_1038, iq_0_1039, iq_0_1040, iq_0_1041, iq_0_1042, iq_0_1043, iq_0_1044, iq_0_1045, iq_0_1046, iq_0_1047, iq_0_1048, iq_0_1049, iq_0_1050, iq_0_1051, iq_0_1054, iq_0_1057, iq_0_1058, iq_0_1058z, Option.bind_some, Option.toList, List.cons_append, List.nil_append, ↓reduceIte, nI_1, Int32.reduceLT, Int32.reduceLE, dv_1, dv_2, dv_3, dv_4, dv_6, dv_8, dv_10, dv_20, dv_100, dv_200, dv_500, la_2, la_3, la_4, la_5, ld_0, r1, r2]
theorem lw_c29 (hI : Inv c D) (hL : L ≤ 3072) (i : Nat) (hi : i + 6 ≤ L) : ∃ c' D', mx_run (d + 101) 0 1059 [some (.ref 0), some (.ref 17), some (.ref 109), some (.int (nI i))] [] (hp (sx_rom L xs) c D) = mx_run (d + 101) 0 1405 [some (.ref 0), some (.ref 17), some (.ref 109), some (.int (nI i))] [] (hp (sx_rom L xs) c' D') ∧ Inv c' D' ∧ c'.1 ≤ c.1 + 3 ∧ c'.2 ≤ c.2 + 300 := by
  obtain ⟨v, c', D', D'', r1, r2, hI', g1, g2⟩ := ap_pour (d := d) (L := L) (xs := xs) hI (xs (i + 1))
  refine ⟨c', D'', ?_, hI', g1, g2⟩
  simp (disch := first | assumption | exact kd_17 _ _ _ | exact kd_109 _ _ _ | omega) only [iq_0_1059, iq_0_1059n, iq_0_1060, iq_0_1061, iq_0_1062, iq_0_1063, iq_0_1064, iq_0_1065, iq_0_1068, iq_0_1068n, iq_0_1069, iq_0_1070, iq_0_1071, iq_0_1072, iq_0_1073, iq_0_1074, iq_0_1077, iq_0_1080, iq_0_1081, iq_0_1081z, Option.bind_some, Option.toList, List.cons_append, List.nil_append, ↓reduceIte, nI_1, Int32.reduceLT, Int32.reduceLE, dv_1, dv_2, dv_3, dv_4, dv_6, dv_8, dv_10, dv_20, dv_100, dv_200, dv_500, la_2, la_3, la_4, la_5, ld_0, r1, r2]
theorem lw_c30 (hI : Inv c D) (hL : L ≤ 3072) (i : Nat) (hi : i + 6 ≤ L) : ∃ c' D', mx_run (d + 101) 0 1082 [some (.ref 0), some (.ref 17), some (.ref 109), some (.int (nI i))] [] (hp (sx_rom L xs) c D) = mx_run (d + 101) 0 1405 [some (.ref 0), some (.ref 17), some (.ref 109), some (.int (nI i))] [] (hp (sx_rom L xs) c' D') ∧ Inv c' D' ∧ c'.1 ≤ c.1 + 3 ∧ c'.2 ≤ c.2 + 300 := by
  obtain ⟨v, c', D', D'', r1, r2, hI', g1, g2⟩ := ap_reads (d := d) (L := L) (xs := xs) hI (xs (i + 1))
  refine ⟨c', D'', ?_, hI', g1, g2⟩
  simp (disch := first | assumption | exact kd_17 _ _ _ | exact kd_109 _ _ _ | omega) only [iq_0_1082, iq_0_1082n, iq_0_1083, iq_0_1084, iq_0_1085, iq_0_1086, iq_0_1087, iq_0_1088, iq_0_1091, iq_0_1091n, iq_0_1092, iq_0_1093, iq_0_1094, iq_0_1095, iq_0_1096, iq_0_1097, iq_0_1100, iq_0_1103, iq_0_1104, iq_0_1104z, Option.bind_some, Option.toList, List.cons_append, List.nil_append, ↓reduceIte, nI_1, Int32.reduceLT, Int32.reduceLE, dv_1, dv_2, dv_3, dv_4, dv_6, dv_8, dv_10, dv_20, dv_100, dv_200, dv_500, la_2, la_3, la_4, la_5, ld_0, r1, r2]
theorem lw_c31 (hI : Inv c D) (hL : L ≤ 3072) (i : Nat) (hi : i + 6 ≤ L) : ∃ c' D', mx_run (d + 101) 0 1105 [some (.ref 0), some (.ref 17), some (.ref 109), some (.int (nI i))] [] (hp (sx_rom L xs) c D) = mx_run (d + 101) 0 1405 [some (.ref 0), some (.ref 17), some (.ref 109), some (.int (nI i))] [] (hp (sx_rom L xs) c' D') ∧ Inv c' D' ∧ c'.1 ≤ c.1 + 3 ∧ c'.2 ≤ c.2 + 300 := by
  obtain ⟨v, c', D', D'', r1, r2, hI', g1, g2⟩ := ap_copy (d := d) (L := L) (xs := xs) hI (xs (i + 1)) (xs (i + 2)) (xs (i + 3)) (xs (i + 4)) (xs (i + 5))
  refine ⟨c', D'', ?_, hI', g1, g2⟩
  simp (disch := first | assumption | exact kd_17 _ _ _ | exact kd_109 _ _ _ | omega) only [iq_0_1105, iq_0_1105n, iq_0_1106, iq_0_1107, iq_0_1108, iq_0_1109, iq_0_1110, iq_0_1111, iq_0_1112, iq_0_1113, iq_0_1114, iq_0_1115, iq_0_1116, iq_0_1117, iq_0_1118, iq_0_1119, iq_0_1120, iq_0_1121, iq_0_1122, iq_0_1123, iq_0_1124, iq_0_1125, iq_0_1126, iq_0_1127, iq_0_1128, iq_0_1129, iq_0_1130, iq_0_1131, iq_0_1134, iq_0_1134n, iq_0_1135, iq_0_1136, iq_0_1137, iq_0_1138, iq_0_1139, iq_0_1140, iq_0_1141, iq_0_1142, iq_0_1143, iq_0_1144, iq_0_1145, iq_0_1146, iq_0_1147, iq_0_1148, iq_0_1149, iq_0_1150, iq_0_1151, iq_0_1152, iq_0_1153, iq_0_1154, iq_0_1155, iq_0_1156, iq_0_1157, iq_0_1158, iq_0_1159, iq_0_1160, iq_0_1163, iq_0_1166, iq_0_1167, iq_0_1167z, Option.bind_some, Option.toList, List.cons_append, List.nil_append, ↓reduceIte, nI_1, Int32.reduceLT, Int32.reduceLE, dv_1, dv_2, dv_3, dv_4, dv_6, dv_8, dv_10, dv_20, dv_100, dv_200, dv_500, la_2, la_3, la_4, la_5, ld_0, r1, r2]
theorem lw_c32 (hI : Inv c D) (hL : L ≤ 3072) (i : Nat) (hi : i + 6 ≤ L) : ∃ c' D', mx_run (d + 101) 0 1168 [some (.ref 0), some (.ref 17), some (.ref 109), some (.int (nI i))] [] (hp (sx_rom L xs) c D) = mx_run (d + 101) 0 1405 [some (.ref 0), some (.ref 17), some (.ref 109), some (.int (nI i))] [] (hp (sx_rom L xs) c' D') ∧ Inv c' D' ∧ c'.1 ≤ c.1 + 3 ∧ c'.2 ≤ c.2 + 300 := by
  obtain ⟨v, c', D', D'', r1, r2, hI', g1, g2⟩ := ap_lay (d := d) (L := L) (xs := xs) hI (xs (i + 1)) (xs (i + 2)) (xs (i + 3))
  refine ⟨c', D'', ?_, hI', g1, g2⟩
  simp (disch := first | assumption | exact kd_17 _ _ _ | exact kd_109 _ _ _ | omega) only [iq_0_1168, iq_0_1168n, iq_0_1169, iq_0_1170, iq_0_1171, iq_0_1172, iq_0_1173, iq_0_1174, iq_0_1175, iq_0_1176, iq_0_1177, iq_0_1178, iq_0_1179, iq_0_1180, iq_0_1181, iq_0_1182, iq_0_1183, iq_0_1184, iq_0_1187, iq_0_1187n, iq_0_1188, iq_0_1189, iq_0_1190, iq_0_1191, iq_0_1192, iq_0_1193, iq_0_1194, iq_0_1195, iq_0_1196, iq_0_1197, iq_0_1198, iq_0_1199, iq_0_1200, iq_0_1201, iq_0_1202, iq_0_1203, iq_0_1206, iq_0_1209, iq_0_1210, iq_0_1210z, Option.bind_some, Option.toList, List.cons_append, List.nil_append, ↓reduceIte, nI_1, Int32.reduceLT, Int32.reduceLE, dv_1, dv_2, dv_3, dv_4, dv_6, dv_8, dv_10, dv_20, dv_100, dv_200, dv_500, la_2, la_3, la_4, la_5, ld_0, r1, r2]
theorem lw_c33 (hI : Inv c D) (hL : L ≤ 3072) (i : Nat) (hi : i + 6 ≤ L) : ∃ c' D', mx_run (d + 101) 0 1211 [some (.ref 0), some (.ref 17), some (.ref 109), some (.int (nI i))] [] (hp (sx_rom L xs) c D) = mx_run (d + 101) 0 1405 [some (.ref 0), some (.ref 17), some (.ref 109), some (.int (nI i))] [] (hp (sx_rom L xs) c' D') ∧ Inv c' D' ∧ c'.1 ≤ c.1 + 3 ∧ c'.2 ≤ c.2 + 300 := by
  obtain ⟨v, c', D', D'', r1, r2, hI', g1, g2⟩ := ap_ask (d := d) (L := L) (xs := xs) hI (xs (i + 1)) (xs (i + 2))
  refine ⟨c', D'', ?_, hI', g1, g2⟩
  simp (disch := first | assumption | exact kd_17 _ _ _ | exact kd_109 _ _ _ | omega) only [iq_0_1211, iq_0_1211n, iq_0_1212, iq_0_1213, iq_0_1214, iq_0_1215, iq_0_1216, iq_0_1217, iq_0_1218, iq_0_1219, iq_0_1220, iq_0_1221, iq_0_1222, iq_0_1225, iq_0_1225n, iq_0_1226, iq_0_1227, iq_0_1228, iq_0_1229, iq_0_1230, iq_0_1231, iq_0_1232, iq_0_1233, iq_0_1234, iq_0_1235, iq_0_1236, iq_0_1239, iq_0_1242, iq_0_1243, iq_0_1243z, Option.bind_some, Option.toList, List.cons_append, List.nil_append, ↓reduceIte, nI_1, Int32.reduceLT, Int32.reduceLE, dv_1, dv_2, dv_3, dv_4, dv_6, dv_8, dv_10, dv_20, dv_100, dv_200, dv_500, la_2, la_3, la_4, la_5, ld_0, r1, r2]
theorem lw_c34 (hI : Inv c D) (hL : L ≤ 3072) (i : Nat) (hi : i + 6 ≤ L) : ∃ c' D', mx_run (d + 101) 0 1244 [some (.ref 0), some (.ref 17), some (.ref 109), some (.int (nI i))] [] (hp (sx_rom L xs) c D) = mx_run (d + 101) 0 1405 [some (.ref 0), some (.ref 17), some (.ref 109), some (.int (nI i))] [] (hp (sx_rom L xs) c' D') ∧ Inv c' D' ∧ c'.1 ≤ c.1 + 3 ∧ c'.2 ≤ c.2 + 300 := by
  obtain ⟨v, c', D', D'', r1, r2, hI', g1, g2⟩ := ap_item (d := d) (L := L) (xs := xs) hI (xs (i + 1)) (xs (i + 2))
  refine ⟨c', D'', ?_, hI', g1, g2⟩
  simp (disch := first | assumption | exact kd_17 _ _ _ | exact kd_109 _ _ _ | omega) only [iq_0_1244, iq_0_1244n, iq_0_1245, iq_0_1246, iq_0_1247, iq_0_1248, iq_0_1249, iq_0_1250, iq_0_1251, iq_0_1252, iq_0_1253, iq_0_1254, iq_0_1255, iq_0_1258, iq_0_1258n, iq_0_1259, iq_0_1260, iq_0_1261, iq_0_1262, iq_0_1263, iq_0_1264, iq_0_1265, iq_0_1266, iq_0_1267, iq_0_1268, iq_0_1269, iq_0_1272, iq_0_1275, iq_0_1276, iq_0_1276z, Option.bind_some, Option.toList, List.cons_append, List.nil_append, ↓reduceIte, nI_1, Int32.reduceLT, Int32.reduceLE, dv_1, dv_2, dv_3, dv_4, dv_6, dv_8, dv_10, dv_20, dv_100, dv_200, dv_500, la_2, la_3, la_4, la_5, ld_0, r1, r2]
theorem lw_c35 (hI : Inv c D) (hL : L ≤ 3072) (i : Nat) (hi : i + 6 ≤ L) : ∃ c' D', mx_run (d + 101) 0 1277 [some (.ref 0), some (.ref 17), some (.ref 109), some (.int (nI i))] [] (hp (sx_rom L xs) c D) = mx_run (d + 101) 0 1405 [some (.ref 0), some (.ref 17), some (.ref 109), some (.int (nI i))] [] (hp (sx_rom L xs) c' D') ∧ Inv c' D' ∧ c'.1 ≤ c.1 + 3 ∧ c'.2 ≤ c.2 + 300 := by
  obtain ⟨v, c', D', D'', r1, r2, hI', g1, g2⟩ := ap_rest (d := d) (L := L) (xs := xs) hI (xs (i + 1)) (xs (i + 2))
  refine ⟨c', D'', ?_, hI', g1, g2⟩
  simp (disch := first | assumption | exact kd_17 _ _ _ | exact kd_109 _ _ _ | omega) only [iq_0_1277, iq_0_1277n, iq_0_1278, iq_0_1279, iq_0_1280, iq_0_1281, iq_0_1282, iq_0_1283, iq_0_1284, iq_0_1285, iq_0_1286, iq_0_1287, iq_0_1288, iq_0_1291, iq_0_1291n, iq_0_1292, iq_0_1293, iq_0_1294, iq_0_1295, iq_0_1296, iq_0_1297, iq_0_1298, iq_0_1299, iq_0_1300, iq_0_1301, iq_0_1302, iq_0_1305, iq_0_1308, iq_0_1309, iq_0_1309z, Option.bind_some, Option.toList, List.cons_append, List.nil_append, ↓reduceIte, nI_1, Int32.reduceLT, Int32.reduceLE, dv_1, dv_2, dv_3, dv_4, dv_6, dv_8, dv_10, dv_20, dv_100, dv_200, dv_500, la_2, la_3, la_4, la_5, ld_0, r1, r2]
theorem lw_c36 (hI : Inv c D) (hL : L ≤ 3072) (i : Nat) (hi : i + 6 ≤ L) : ∃ c' D', mx_run (d + 101) 0 1310 [some (.ref 0), some (.ref 17), some (.ref 109), some (.int (nI i))] [] (hp (sx_rom L xs) c D) = mx_run (d + 101) 0 1405 [some (.ref 0), some (.ref 17), some (.ref 109), some (.int (nI i))] [] (hp (sx_rom L xs) c' D') ∧ Inv c' D' ∧ c'.1 ≤ c.1 + 3 ∧ c'.2 ≤ c.2 + 300 := by
  obtain ⟨v, c', D', D'', r1, r2, hI', g1, g2⟩ := ap_tell (d := d) (L := L) (xs := xs) hI (xs (i + 1))
  refine ⟨c', D'', ?_, hI', g1, g2⟩
  simp (disch := first | assumption | exact kd_17 _ _ _ | exact kd_109 _ _ _ | omega) only [iq_0_1310, iq_0_1310n, iq_0_1311, iq_0_1312, iq_0_1313, iq_0_1314, iq_0_1315, iq_0_1316, iq_0_1319, iq_0_1319n, iq_0_1320, iq_0_1321, iq_0_1322, iq_0_1323, iq_0_1324, iq_0_1325, iq_0_1328, iq_0_1331, iq_0_1332, iq_0_1332z, Option.bind_some, Option.toList, List.cons_append, List.nil_append, ↓reduceIte, nI_1, Int32.reduceLT, Int32.reduceLE, dv_1, dv_2, dv_3, dv_4, dv_6, dv_8, dv_10, dv_20, dv_100, dv_200, dv_500, la_2, la_3, la_4, la_5, ld_0, r1, r2]
theorem lw_c37 (hI : Inv c D) (hL : L ≤ 3072) (i : Nat) (hi : i + 6 ≤ L) : ∃ c' D', mx_run (d + 101) 0 1333 [some (.ref 0), some (.ref 17), some (.ref 109), some (.int (nI i))] [] (hp (sx_rom L xs) c D) = mx_run (d + 101) 0 1405 [some (.ref 0), some (.ref 17), some (.ref 109), some (.int (nI i))] [] (hp (sx_rom L xs) c' D') ∧ Inv c' D' ∧ c'.1 ≤ c.1 + 3 ∧ c'.2 ≤ c.2 + 300 := by
  obtain ⟨v, c', D', D'', r1, r2, hI', g1, g2⟩ := ap_check (d := d) (L := L) (xs := xs) hI (xs (i + 1))
  refine ⟨c', D'', ?_, hI', g1, g2⟩
  simp (disch := first | assumption | exact kd_17 _ _ _ | exact kd_109 _ _ _ | omega) only [iq_0_1333, iq_0_1333n, iq_0_1334, iq_0_1335, iq_0_1336, iq_0_1337, iq_0_1338, iq_0_1339, iq_0_1342, iq_0_1342n, iq_0_1343, iq_0_1344, iq_0_1345, iq_0_1346, iq_0_1347, iq_0_1348, iq_0_1351, iq_0_1354, iq_0_1355, iq_0_1355z, Option.bind_some, Option.toList, List.cons_append, List.nil_append, ↓reduceIte, nI_1, Int32.reduceLT, Int32.reduceLE, dv_1, dv_2, dv_3, dv_4, dv_6, dv_8, dv_10, dv_20, dv_100, dv_200, dv_500, la_2, la_3, la_4, la_5, ld_0, r1, r2]
theorem lw_c38 (hI : Inv c D) (hL : L ≤ 3072) (i : Nat) (hi : i + 6 ≤ L) : ∃ c' D', mx_run (d + 101) 0 1356 [some (.ref 0), some (.ref 17), some (.ref 109), some (.int (nI i))] [] (hp (sx_rom L xs) c D) = mx_run (d + 101) 0 1405 [some (.ref 0), some (.ref 17), some (.ref 109), some (.int (nI i))] [] (hp (sx_rom L xs) c' D') ∧ Inv c' D' ∧ c'.1 ≤ c.1 + 3 ∧ c'.2 ≤ c.2 + 300 := by
  obtain ⟨v, c', D', D'', r1, r2, hI', g1, g2⟩ := ap_keep (d := d) (L := L) (xs := xs) hI
  refine ⟨c', D'', ?_, hI', g1, g2⟩
  simp (disch := first | assumption | exact kd_17 _ _ _ | exact kd_109 _ _ _ | omega) only [iq_0_1356, iq_0_1356n, iq_0_1357, iq_0_1360, iq_0_1360n, iq_0_1361, iq_0_1364, iq_0_1367, iq_0_1368, iq_0_1368z, Option.bind_some, Option.toList, List.cons_append, List.nil_append, ↓reduceIte, nI_1, Int32.reduceLT, Int32.reduceLE, dv_1, dv_2, dv_3, dv_4, dv_6, dv_8, dv_10, dv_20, dv_100, dv_200, dv_500, la_2, la_3, la_4, la_5, ld_0, r1, r2]
theorem lw_c39 (hI : Inv c D) (hL : L ≤ 3072) (i : Nat) (hi : i + 6 ≤ L) : ∃ c' D', mx_run (d + 101) 0 1369 [some (.ref 0), some (.ref 17), some (.ref 109), some (.int (nI i))] [] (hp (sx_rom L xs) c D) = mx_run (d + 101) 0 1405 [some (.ref 0), some (.ref 17), some (.ref 109), some (.int (nI i))] [] (hp (sx_rom L xs) c' D') ∧ Inv c' D' ∧ c'.1 ≤ c.1 + 3 ∧ c'.2 ≤ c.2 + 300 := by
  obtain ⟨v, c', D', D'', r1, r2, hI', g1, g2⟩ := ap_back (d := d) (L := L) (xs := xs) hI
  refine ⟨c', D'', ?_, hI', g1, g2⟩
  simp (disch := first | assumption | exact kd_17 _ _ _ | exact kd_109 _ _ _ | omega) only [iq_0_1369, iq_0_1369n, iq_0_1370, iq_0_1373, iq_0_1373n, iq_0_1374, iq_0_1377, iq_0_1380, iq_0_1381, iq_0_1381z, Option.bind_some, Option.toList, List.cons_append, List.nil_append, ↓reduceIte, nI_1, Int32.reduceLT, Int32.reduceLE, dv_1, dv_2, dv_3, dv_4, dv_6, dv_8, dv_10, dv_20, dv_100, dv_200, dv_500, la_2, la_3, la_4, la_5, ld_0, r1, r2]
theorem lw_c40 (hI : Inv c D) (hL : L ≤ 3072) (i : Nat) (hi : i + 6 ≤ L) : ∃ c' D', mx_run (d + 101) 0 1382 [some (.ref 0), some (.ref 17), some (.ref 109), some (.int (nI i))] [] (hp (sx_rom L xs) c D) = mx_run (d + 101) 0 1405 [some (.ref 0), some (.ref 17), some (.ref 109), some (.int (nI i))] [] (hp (sx_rom L xs) c' D') ∧ Inv c' D' ∧ c'.1 ≤ c.1 + 3 ∧ c'.2 ≤ c.2 + 300 := by
  obtain ⟨v, c', D', D'', r1, r2, hI', g1, g2⟩ := ap_count (d := d) (L := L) (xs := xs) hI (xs (i + 1))
  refine ⟨c', D'', ?_, hI', g1, g2⟩
  simp (disch := first | assumption | exact kd_17 _ _ _ | exact kd_109 _ _ _ | omega) only [iq_0_1382, iq_0_1382n, iq_0_1383, iq_0_1384, iq_0_1385, iq_0_1386, iq_0_1387, iq_0_1388, iq_0_1391, iq_0_1391n, iq_0_1392, iq_0_1393, iq_0_1394, iq_0_1395, iq_0_1396, iq_0_1397, iq_0_1400, iq_0_1403, iq_0_1404, iq_0_1404z, Option.bind_some, Option.toList, List.cons_append, List.nil_append, ↓reduceIte, nI_1, Int32.reduceLT, Int32.reduceLE, dv_1, dv_2, dv_3, dv_4, dv_6, dv_8, dv_10, dv_20, dv_100, dv_200, dv_500, la_2, la_3, la_4, la_5, ld_0, r1, r2]
theorem lw_loop (hT : ∀ (d : Nat) (c : Nat × Nat) (D : hz_D), Inv c D → c.1 + 3 < 600000 → ap d L xs c D 99 [some (.ref 17)] 228 [some (.ref 109), none, none]) (hL : L ≤ 3072) : ∀ r i : Nat, L + 6 ≤ i + 6 * r + 6 → i ≤ 3072 → ∀ (c : Nat × Nat) (D : hz_D), Inv c D → c.1 + 3 * r < 600000 → ∃ h', mx_run (d + 101) 0 18 [some (.ref 0), some (.ref 17), some (.ref 109), some (.int (nI i))] [] (hp (sx_rom L xs) c D) = some (some (.int 1), h') ∧ h'.1.1 ≤ c.1 + 3 * r ∧ h'.1.2 ≤ c.2 + 300 * r := by
  have fin : ∀ (i : Nat) (c : Nat × Nat) (D : hz_D), L < i + 6 → i ≤ 3072 → mx_run (d + 101) 0 18 [some (.ref 0), some (.ref 17), some (.ref 109), some (.int (nI i))] [] (hp (sx_rom L xs) c D) = some (some (.int 1), hp (sx_rom L xs) c D) := by
    intro i c D hi h3
    have hc : (nI L - 6 < nI i) = True := eq_true (by
      rw [Int32.lt_iff_toInt_lt, nI_toInt (by omega), show (6 : Int32) = nI 6 from rfl, pk_sub_toInt (by omega) (by omega)]
      omega)
    rw [iq_0_18]
    simp (disch := first | assumption | exact kd_109 _ _ _ | omega) only [iq_0_19, iq_0_20, iq_0_21, iq_0_23, iq_0_24, iq_0_1411, iq_0_1412, Option.bind_some, Option.toList, List.cons_append, List.nil_append, ↓reduceIte, nI_1, Int32.reduceLT, Int32.reduceLE, dv_1, dv_2, dv_3, dv_4, dv_6, dv_8, dv_10, dv_20, dv_100, dv_200, dv_500, ln_0, hc]
  intro r
  induction r with
  | zero =>
    intro i h1 h2 c D hI hb
    exact ⟨_, fin i c D (by omega) h2, by show c.1 ≤ _; omega, by show c.2 ≤ _; omega⟩
  | succ r ih =>
    intro i h1 h2 c D hI hb
    by_cases hi : i + 6 ≤ L
    · have hc : (nI L - 6 < nI i) = False := eq_false (by
        rw [Int32.lt_iff_toInt_lt, nI_toInt (by omega), show (6 : Int32) = nI 6 from rfl, pk_sub_toInt (by omega) (by omega)]
        omega)
      have step : ∀ (c' : Nat × Nat) (D' : hz_D), Inv c' D' → c'.1 ≤ c.1 + 3 → c'.2 ≤ c.2 + 300 → ∃ h', mx_run (d + 101) 0 1405 [some (.ref 0), some (.ref 17), some (.ref 109), some (.int (nI i))] [] (hp (sx_rom L xs) c' D') = some (some (.int 1), h') ∧ h'.1.1 ≤ c.1 + 3 * (r + 1) ∧ h'.1.2 ≤ c.2 + 300 * (r + 1) := by
        intro c' D' hI' g1 g2
        obtain ⟨h', e1, e2, e3⟩ := ih (i + 6) (by omega) (by omega) c' D' hI' (by omega)
        refine ⟨h', ?_, by omega, by omega⟩
        rw [← e1]
        simp (disch := first | assumption | exact kd_109 _ _ _ | omega) only [iq_0_1405, iq_0_1408, la_6]
      rw [iq_0_18]
      simp (disch := first | assumption | exact kd_109 _ _ _ | omega) only [iq_0_19, iq_0_20, iq_0_21, iq_0_23, iq_0_24, iq_0_27, iq_0_28, iq_0_29, iq_0_30, iq_0_32, Option.bind_some, Option.toList, List.cons_append, List.nil_append, ↓reduceIte, nI_1, Int32.reduceLT, Int32.reduceLE, dv_1, dv_2, dv_3, dv_4, dv_6, dv_8, dv_10, dv_20, dv_100, dv_200, dv_500, ln_0, hc, ld_0 L xs c D hL i (by omega)]
      rw [iq_0_33]
      by_cases q0 : xs i &&& 63 = 0
      · rw [if_pos q0]
        obtain ⟨c', D', e1, e2, e3, e4⟩ := lw_c0 (d := d) (L := L) (xs := xs) hI hL i hi
        rw [e1]
        exact step c' D' e2 e3 e4
      rw [if_neg q0]
      by_cases q1 : xs i &&& 63 = 1
      · rw [if_pos q1]
        obtain ⟨c', D', e1, e2, e3, e4⟩ := lw_c1 (d := d) (L := L) (xs := xs) hI hL i hi
        rw [e1]
        exact step c' D' e2 e3 e4
      rw [if_neg q1]
      by_cases q2 : xs i &&& 63 = 2
      · rw [if_pos q2]
        obtain ⟨c', D', e1, e2, e3, e4⟩ := lw_c2 (d := d) (L := L) (xs := xs) hI hL i hi
        rw [e1]
        exact step c' D' e2 e3 e4
      rw [if_neg q2]
      by_cases q3 : xs i &&& 63 = 3
      · rw [if_pos q3]
        obtain ⟨c', D', e1, e2, e3, e4⟩ := lw_c3 (d := d) (L := L) (xs := xs) hI hL i hi
        rw [e1]
        exact step c' D' e2 e3 e4
      rw [if_neg q3]
      by_cases q4 : xs i &&& 63 = 4
      · rw [if_pos q4]
        obtain ⟨c', D', e1, e2, e3, e4⟩ := lw_c4 (d := d) (L := L) (xs := xs) hI hL i hi
        rw [e1]
        exact step c' D' e2 e3 e4
      rw [if_neg q4]
      by_cases q5 : xs i &&& 63 = 5
      · rw [if_pos q5]
        obtain ⟨c', D', e1, e2, e3, e4⟩ := lw_c5 (d := d) (L := L) (xs := xs) hI hL i hi
        rw [e1]
        exact step c' D' e2 e3 e4
      rw [if_neg q5]
      by_cases q6 : xs i &&& 63 = 6
      · rw [if_pos q6]
        obtain ⟨c', D', e1, e2, e3, e4⟩ := lw_c6 (d := d) (L := L) (xs := xs) hI hL i hi
        rw [e1]
        exact step c' D' e2 e3 e4
      rw [if_neg q6]
      by_cases q7 : xs i &&& 63 = 7
      · rw [if_pos q7]
        obtain ⟨c', D', e1, e2, e3, e4⟩ := lw_c7 (d := d) (L := L) (xs := xs) hI hL i hi
        rw [e1]
        exact step c' D' e2 e3 e4
      rw [if_neg q7]
      by_cases q8 : xs i &&& 63 = 8
      · rw [if_pos q8]
        obtain ⟨c', D', e1, e2, e3, e4⟩ := lw_c8 (d := d) (L := L) (xs := xs) hI hL i hi
        rw [e1]
        exact step c' D' e2 e3 e4
      rw [if_neg q8]
      by_cases q9 : xs i &&& 63 = 9
      · rw [if_pos q9]
        obtain ⟨c', D', e1, e2, e3, e4⟩ := lw_c9 (d := d) (L := L) (xs := xs) hI hL i hi
        rw [e1]
        exact step c' D' e2 e3 e4
      rw [if_neg q9]
      by_cases q10 : xs i &&& 63 = 10
      · rw [if_pos q10]
        obtain ⟨c', D', e1, e2, e3, e4⟩ := lw_c10 (d := d) (L := L) (xs := xs) hI hL i hi
        rw [e1]
        exact step c' D' e2 e3 e4
      rw [if_neg q10]
      by_cases q11 : xs i &&& 63 = 11
      · rw [if_pos q11]
        obtain ⟨c', D', e1, e2, e3, e4⟩ := lw_c11 (d := d) (L := L) (xs := xs) hI hL i hi
        rw [e1]
        exact step c' D' e2 e3 e4
      rw [if_neg q11]
      by_cases q12 : xs i &&& 63 = 12
      · rw [if_pos q12]
        obtain ⟨c', D', e1, e2, e3, e4⟩ := lw_c12 (d := d) (L := L) (xs := xs) hI hL i hi
        rw [e1]
        exact step c' D' e2 e3 e4
      rw [if_neg q12]
      by_cases q13 : xs i &&& 63 = 13
      · rw [if_pos q13]
        obtain ⟨c', D', e1, e2, e3, e4⟩ := lw_c13 (d := d) (L := L) (xs := xs) hI hL i hi
        rw [e1]
        exact step c' D' e2 e3 e4
      rw [if_neg q13]
      by_cases q14 : xs i &&& 63 = 14
      · rw [if_pos q14]
        obtain ⟨c', D', e1, e2, e3, e4⟩ := lw_c14 (d := d) (L := L) (xs := xs) hI hL i hi
        rw [e1]
        exact step c' D' e2 e3 e4
      rw [if_neg q14]
      by_cases q15 : xs i &&& 63 = 15
      · rw [if_pos q15]
        obtain ⟨c', D', e1, e2, e3, e4⟩ := lw_c15 (d := d) (L := L) (xs := xs) hI hL i hi
        rw [e1]
        exact step c' D' e2 e3 e4
      rw [if_neg q15]
      by_cases q16 : xs i &&& 63 = 16
      · rw [if_pos q16]
        obtain ⟨c', D', e1, e2, e3, e4⟩ := lw_c16 (d := d) (L := L) (xs := xs) hI hL i hi
        rw [e1]
        exact step c' D' e2 e3 e4
      rw [if_neg q16]
      by_cases q17 : xs i &&& 63 = 17
      · rw [if_pos q17]
        obtain ⟨c', D', e1, e2, e3, e4⟩ := lw_c17 (d := d) (L := L) (xs := xs) hI hL i hi
        rw [e1]
        exact step c' D' e2 e3 e4
      rw [if_neg q17]
      by_cases q18 : xs i &&& 63 = 18
      · rw [if_pos q18]
        obtain ⟨c', D', e1, e2, e3, e4⟩ := lw_c18 (d := d) (L := L) (xs := xs) hI hL i hi
        rw [e1]
        exact step c' D' e2 e3 e4
      rw [if_neg q18]
      by_cases q19 : xs i &&& 63 = 19
      · rw [if_pos q19]
        obtain ⟨c', D', e1, e2, e3, e4⟩ := lw_c19 (d := d) (L := L) (xs := xs) hI hL i hi
        rw [e1]
        exact step c' D' e2 e3 e4
      rw [if_neg q19]
      by_cases q20 : xs i &&& 63 = 20
      · rw [if_pos q20]
        obtain ⟨c', D', e1, e2, e3, e4⟩ := lw_c20 (d := d) (L := L) (xs := xs) hI hL i hi
        rw [e1]
        exact step c' D' e2 e3 e4
      rw [if_neg q20]
      by_cases q21 : xs i &&& 63 = 21
      · rw [if_pos q21]
        obtain ⟨c', D', e1, e2, e3, e4⟩ := lw_c21 (d := d) (L := L) (xs := xs) hI hL i hi
        rw [e1]
        exact step c' D' e2 e3 e4
      rw [if_neg q21]
      by_cases q22 : xs i &&& 63 = 22
      · rw [if_pos q22]
        obtain ⟨c', D', e1, e2, e3, e4⟩ := lw_c22 (d := d) (L := L) (xs := xs) hI hL i hi
        rw [e1]
        exact step c' D' e2 e3 e4
      rw [if_neg q22]
      by_cases q23 : xs i &&& 63 = 23
      · rw [if_pos q23]
        obtain ⟨c', D', e1, e2, e3, e4⟩ := lw_c23 (d := d) (L := L) (xs := xs) hI hL i hi
        rw [e1]
        exact step c' D' e2 e3 e4
      rw [if_neg q23]
      by_cases q24 : xs i &&& 63 = 24
      · rw [if_pos q24]
        obtain ⟨c', D', e1, e2, e3, e4⟩ := lw_c24 (d := d) (L := L) (xs := xs) hI hL i hi (hT d c D hI (by omega))
        rw [e1]
        exact step c' D' e2 e3 e4
      rw [if_neg q24]
      by_cases q25 : xs i &&& 63 = 25
      · rw [if_pos q25]
        obtain ⟨c', D', e1, e2, e3, e4⟩ := lw_c25 (d := d) (L := L) (xs := xs) hI hL i hi
        rw [e1]
        exact step c' D' e2 e3 e4
      rw [if_neg q25]
      by_cases q26 : xs i &&& 63 = 26
      · rw [if_pos q26]
        obtain ⟨c', D', e1, e2, e3, e4⟩ := lw_c26 (d := d) (L := L) (xs := xs) hI hL i hi
        rw [e1]
        exact step c' D' e2 e3 e4
      rw [if_neg q26]
      by_cases q27 : xs i &&& 63 = 27
      · rw [if_pos q27]
        obtain ⟨c', D', e1, e2, e3, e4⟩ := lw_c27 (d := d) (L := L) (xs := xs) hI hL i hi
        rw [e1]
        exact step c' D' e2 e3 e4
      rw [if_neg q27]
      by_cases q28 : xs i &&& 63 = 28
      · rw [if_pos q28]
        obtain ⟨c', D', e1, e2, e3, e4⟩ := lw_c28 (d := d) (L := L) (xs := xs) hI hL i hi
        rw [e1]
        exact step c' D' e2 e3 e4
      rw [if_neg q28]
      by_cases q29 : xs i &&& 63 = 29
      · rw [if_pos q29]
        obtain ⟨c', D', e1, e2, e3, e4⟩ := lw_c29 (d := d) (L := L) (xs := xs) hI hL i hi
        rw [e1]
        exact step c' D' e2 e3 e4
      rw [if_neg q29]
      by_cases q30 : xs i &&& 63 = 30
      · rw [if_pos q30]
        obtain ⟨c', D', e1, e2, e3, e4⟩ := lw_c30 (d := d) (L := L) (xs := xs) hI hL i hi
        rw [e1]
        exact step c' D' e2 e3 e4
      rw [if_neg q30]
      by_cases q31 : xs i &&& 63 = 31
      · rw [if_pos q31]
        obtain ⟨c', D', e1, e2, e3, e4⟩ := lw_c31 (d := d) (L := L) (xs := xs) hI hL i hi
        rw [e1]
        exact step c' D' e2 e3 e4
      rw [if_neg q31]
      by_cases q32 : xs i &&& 63 = 32
      · rw [if_pos q32]
        obtain ⟨c', D', e1, e2, e3, e4⟩ := lw_c32 (d := d) (L := L) (xs := xs) hI hL i hi
        rw [e1]
        exact step c' D' e2 e3 e4
      rw [if_neg q32]
      by_cases q33 : xs i &&& 63 = 33
      · rw [if_pos q33]
        obtain ⟨c', D', e1, e2, e3, e4⟩ := lw_c33 (d := d) (L := L) (xs := xs) hI hL i hi
        rw [e1]
        exact step c' D' e2 e3 e4
      rw [if_neg q33]
      by_cases q34 : xs i &&& 63 = 34
      · rw [if_pos q34]
        obtain ⟨c', D', e1, e2, e3, e4⟩ := lw_c34 (d := d) (L := L) (xs := xs) hI hL i hi
        rw [e1]
        exact step c' D' e2 e3 e4
      rw [if_neg q34]
      by_cases q35 : xs i &&& 63 = 35
      · rw [if_pos q35]
        obtain ⟨c', D', e1, e2, e3, e4⟩ := lw_c35 (d := d) (L := L) (xs := xs) hI hL i hi
        rw [e1]
        exact step c' D' e2 e3 e4
      rw [if_neg q35]
      by_cases q36 : xs i &&& 63 = 36
      · rw [if_pos q36]
        obtain ⟨c', D', e1, e2, e3, e4⟩ := lw_c36 (d := d) (L := L) (xs := xs) hI hL i hi
        rw [e1]
        exact step c' D' e2 e3 e4
      rw [if_neg q36]
      by_cases q37 : xs i &&& 63 = 37
      · rw [if_pos q37]
        obtain ⟨c', D', e1, e2, e3, e4⟩ := lw_c37 (d := d) (L := L) (xs := xs) hI hL i hi
        rw [e1]
        exact step c' D' e2 e3 e4
      rw [if_neg q37]
      by_cases q38 : xs i &&& 63 = 38
      · rw [if_pos q38]
        obtain ⟨c', D', e1, e2, e3, e4⟩ := lw_c38 (d := d) (L := L) (xs := xs) hI hL i hi
        rw [e1]
        exact step c' D' e2 e3 e4
      rw [if_neg q38]
      by_cases q39 : xs i &&& 63 = 39
      · rw [if_pos q39]
        obtain ⟨c', D', e1, e2, e3, e4⟩ := lw_c39 (d := d) (L := L) (xs := xs) hI hL i hi
        rw [e1]
        exact step c' D' e2 e3 e4
      rw [if_neg q39]
      by_cases q40 : xs i &&& 63 = 40
      · rw [if_pos q40]
        obtain ⟨c', D', e1, e2, e3, e4⟩ := lw_c40 (d := d) (L := L) (xs := xs) hI hL i hi
        rw [e1]
        exact step c' D' e2 e3 e4
      rw [if_neg q40]
      exact step c D hI (by omega) (by omega)
    · exact ⟨_, fin i c D (by omega) h2, by show c.1 ≤ _; omega, by show c.2 ≤ _; omega⟩
