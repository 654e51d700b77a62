/-! the law's loop -/
section LW
variable {A F : Nat → Nat → Int} {E : zE} {Ln i : Nat} {sc : Nat → Int}
theorem HP_sc : (HP A F E).2 1000000000 = E.2.2.2 := rfl
def lwp (A F : Nat → Nat → Int) (E : zE) (i t u : Nat) (k : Int) : Prop := ∃ A2 F2 E2, rn mL_law t [vr 1000000000, vr 1, vr 103, vi (i : Int)] [] (HP A F E) = rn mL_law u [vr 1000000000, vr 1, vr 103, vi ((i : Int) + k)] [] (HP A2 F2 E2) ∧ inv A2 F2 E2 ∧ E2.2.2.2 = E.2.2.2
theorem L_0 (h : inv A F E) (hE : E.2.2.2 = .inr (99, Ln, sc)) (hi : i + 6 ≤ Ln) (hL : Ln ≤ 3072) (hs : ∀ j, sc j ≤ 2147483647) : lwp A F E i 192 1260 0 := by
  obtain ⟨v, A1, F1, E1, A2, F2, E2, e1, e2, iv, eE⟩ := k_feed (x1 := sc (i + 1)) (x2 := sc (i + 2)) (x3 := sc (i + 3)) (x4 := sc (i + 4)) (x5 := sc (i + 5)) h
  have g0 : (HP A F E).2 1000000000 = .inr (99, Ln, sc) := HP_sc.trans hE
  have g1 : (HP A1 F1 E1).2 1000000000 = .inr (99, Ln, sc) := cl_kp e1 _ _ g0
  have t1 : ((i : Int) + 1).toNat = i + 1 := by omega
  have t2 : ((i : Int) + 2).toNat = i + 2 := by omega
  have t3 : ((i : Int) + 3).toNat = i + 3 := by omega
  have t4 : ((i : Int) + 4).toNat = i + 4 := by omega
  have t5 : ((i : Int) + 5).toNat = i + 5 := by omega
  refine ⟨A2, F2, E2, ?_, iv, eE⟩
  rw [Int.add_zero]
  simp (disch := omega) only [sL_law_192, sL_law_193, sL_law_194, sL_law_195, sL_law_196, sL_law_197, sL_law_198, sL_law_199, sL_law_200, sL_law_201, sL_law_202, sL_law_203, sL_law_204, sL_law_205, sL_law_206, sL_law_207, sL_law_208, sL_law_209, sL_law_210, sL_law_211, sL_law_212, sL_law_213, sL_law_214, sL_law_215, sL_law_216, sL_law_217, sL_law_218, sL_law_221, sL_law_222, sL_law_223, sL_law_224, sL_law_225, sL_law_226, sL_law_227, sL_law_228, sL_law_229, sL_law_230, sL_law_231, sL_law_232, sL_law_233, sL_law_234, sL_law_235, sL_law_236, sL_law_237, sL_law_238, sL_law_239, sL_law_240, sL_law_241, sL_law_242, sL_law_243, sL_law_244, sL_law_245, sL_law_246, sL_law_247, sL_law_250, sL_law_253, sL_law_254, ↓hk1, ↓hk103, ↓bndi_at e1, ↓bndi_at e2, ↓if_pos, ↓gel_at g0, ↓gel_at g1, i32_of, t1, t2, t3, t4, t5]
theorem L_1 (h : inv A F E) (hE : E.2.2.2 = .inr (99, Ln, sc)) (hi : i + 6 ≤ Ln) (hL : Ln ≤ 3072) (hs : ∀ j, sc j ≤ 2147483647) : lwp A F E i 255 1260 0 := by
  obtain ⟨v, A1, F1, E1, A2, F2, E2, e1, e2, iv, eE⟩ := k_end (n := sc (i + 1)) h
  have g0 : (HP A F E).2 1000000000 = .inr (99, Ln, sc) := HP_sc.trans hE
  have g1 : (HP A1 F1 E1).2 1000000000 = .inr (99, Ln, sc) := cl_kp e1 _ _ g0
  have t1 : ((i : Int) + 1).toNat = i + 1 := by omega
  refine ⟨A2, F2, E2, ?_, iv, eE⟩
  rw [Int.add_zero]
  simp (disch := omega) only [sL_law_255, sL_law_256, sL_law_257, sL_law_258, sL_law_259, sL_law_260, sL_law_261, sL_law_264, sL_law_265, sL_law_266, sL_law_267, sL_law_268, sL_law_269, sL_law_270, sL_law_273, sL_law_276, sL_law_277, ↓hk1, ↓hk103, ↓bndi_at e1, ↓bndi_at e2, ↓if_pos, ↓gel_at g0, ↓gel_at g1, i32_of, t1]
theorem L_2 (h : inv A F E) (hE : E.2.2.2 = .inr (99, Ln, sc)) (hi : i + 6 ≤ Ln) (hL : Ln ≤ 3072) (hs : ∀ j, sc j ≤ 2147483647) : lwp A F E i 278 1260 0 := by
  obtain ⟨v, A1, F1, E1, A2, F2, E2, e1, e2, iv, eE⟩ := k_sheet  h
  refine ⟨A2, F2, E2, ?_, iv, eE⟩
  rw [Int.add_zero]
  simp (disch := omega) only [sL_law_278, sL_law_279, sL_law_282, sL_law_283, sL_law_286, sL_law_289, sL_law_290, ↓hk1, ↓hk103, ↓bndi_at e1, ↓bndi_at e2, ↓if_pos]
theorem L_3 (h : inv A F E) (hE : E.2.2.2 = .inr (99, Ln, sc)) (hi : i + 6 ≤ Ln) (hL : Ln ≤ 3072) (hs : ∀ j, sc j ≤ 2147483647) : lwp A F E i 291 1260 0 := by
  obtain ⟨v, A1, F1, E1, A2, F2, E2, e1, e2, iv, eE⟩ := k_rule  h
  refine ⟨A2, F2, E2, ?_, iv, eE⟩
  rw [Int.add_zero]
  simp (disch := omega) only [sL_law_291, sL_law_292, sL_law_295, sL_law_296, sL_law_299, sL_law_302, sL_law_303, ↓hk1, ↓hk103, ↓bndi_at e1, ↓bndi_at e2, ↓if_pos]
theorem L_4 (h : inv A F E) (hE : E.2.2.2 = .inr (99, Ln, sc)) (hi : i + 6 ≤ Ln) (hL : Ln ≤ 3072) (hs : ∀ j, sc j ≤ 2147483647) : lwp A F E i 304 1260 0 := by
  obtain ⟨v, A1, F1, E1, A2, F2, E2, e1, e2, iv, eE⟩ := k_force (k := sc (i + 1)) h
  have g0 : (HP A F E).2 1000000000 = .inr (99, Ln, sc) := HP_sc.trans hE
  have g1 : (HP A1 F1 E1).2 1000000000 = .inr (99, Ln, sc) := cl_kp e1 _ _ g0
  have t1 : ((i : Int) + 1).toNat = i + 1 := by omega
  refine ⟨A2, F2, E2, ?_, iv, eE⟩
  rw [Int.add_zero]
  simp (disch := omega) only [sL_law_304, sL_law_305, sL_law_306, sL_law_307, sL_law_308, sL_law_309, sL_law_310, sL_law_313, sL_law_314, sL_law_315, sL_law_316, sL_law_317, sL_law_318, sL_law_319, sL_law_322, sL_law_325, sL_law_326, ↓hk1, ↓hk103, ↓bndi_at e1, ↓bndi_at e2, ↓if_pos, ↓gel_at g0, ↓gel_at g1, i32_of, t1]
theorem L_5 (h : inv A F E) (hE : E.2.2.2 = .inr (99, Ln, sc)) (hi : i + 6 ≤ Ln) (hL : Ln ≤ 3072) (hs : ∀ j, sc j ≤ 2147483647) : lwp A F E i 327 1260 0 := by
  obtain ⟨v, A1, F1, E1, A2, F2, E2, e1, e2, iv, eE⟩ := k_goer (g := sc (i + 1)) (w := sc (i + 2)) h
  have g0 : (HP A F E).2 1000000000 = .inr (99, Ln, sc) := HP_sc.trans hE
  have g1 : (HP A1 F1 E1).2 1000000000 = .inr (99, Ln, sc) := cl_kp e1 _ _ g0
  have t1 : ((i : Int) + 1).toNat = i + 1 := by omega
  have t2 : ((i : Int) + 2).toNat = i + 2 := by omega
  refine ⟨A2, F2, E2, ?_, iv, eE⟩
  rw [Int.add_zero]
  simp (disch := omega) only [sL_law_327, sL_law_328, sL_law_329, sL_law_330, sL_law_331, sL_law_332, sL_law_333, sL_law_334, sL_law_335, sL_law_336, sL_law_337, sL_law_338, sL_law_341, sL_law_342, sL_law_343, sL_law_344, sL_law_345, sL_law_346, sL_law_347, sL_law_348, sL_law_349, sL_law_350, sL_law_351, sL_law_352, sL_law_355, sL_law_358, sL_law_359, ↓hk1, ↓hk103, ↓bndi_at e1, ↓bndi_at e2, ↓if_pos, ↓gel_at g0, ↓gel_at g1, i32_of, t1, t2]
theorem L_6 (h : inv A F E) (hE : E.2.2.2 = .inr (99, Ln, sc)) (hi : i + 6 ≤ Ln) (hL : Ln ≤ 3072) (hs : ∀ j, sc j ≤ 2147483647) : lwp A F E i 360 1260 0 := by
  obtain ⟨v, A1, F1, E1, A2, F2, E2, e1, e2, iv, eE⟩ := k_join (e := sc (i + 1)) (w := sc (i + 2)) h
  have g0 : (HP A F E).2 1000000000 = .inr (99, Ln, sc) := HP_sc.trans hE
  have g1 : (HP A1 F1 E1).2 1000000000 = .inr (99, Ln, sc) := cl_kp e1 _ _ g0
  have t1 : ((i : Int) + 1).toNat = i + 1 := by omega
  have t2 : ((i : Int) + 2).toNat = i + 2 := by omega
  refine ⟨A2, F2, E2, ?_, iv, eE⟩
  rw [Int.add_zero]
  simp (disch := omega) only [sL_law_360, sL_law_361, sL_law_362, sL_law_363, sL_law_364, sL_law_365, sL_law_366, sL_law_367, sL_law_368, sL_law_369, sL_law_370, sL_law_371, sL_law_374, sL_law_375, sL_law_376, sL_law_377, sL_law_378, sL_law_379, sL_law_380, sL_law_381, sL_law_382, sL_law_383, sL_law_384, sL_law_385, sL_law_388, sL_law_391, sL_law_392, ↓hk1, ↓hk103, ↓bndi_at e1, ↓bndi_at e2, ↓if_pos, ↓gel_at g0, ↓gel_at g1, i32_of, t1, t2]
theorem L_7 (h : inv A F E) (hE : E.2.2.2 = .inr (99, Ln, sc)) (hi : i + 6 ≤ Ln) (hL : Ln ≤ 3072) (hs : ∀ j, sc j ≤ 2147483647) : lwp A F E i 393 1260 0 := by
  obtain ⟨v, A1, F1, E1, A2, F2, E2, e1, e2, iv, eE⟩ := k_stoneIn (c := sc (i + 1)) h
  have g0 : (HP A F E).2 1000000000 = .inr (99, Ln, sc) := HP_sc.trans hE
  have g1 : (HP A1 F1 E1).2 1000000000 = .inr (99, Ln, sc) := cl_kp e1 _ _ g0
  have t1 : ((i : Int) + 1).toNat = i + 1 := by omega
  refine ⟨A2, F2, E2, ?_, iv, eE⟩
  rw [Int.add_zero]
  simp (disch := omega) only [sL_law_393, sL_law_394, sL_law_395, sL_law_396, sL_law_397, sL_law_398, sL_law_399, sL_law_402, sL_law_403, sL_law_404, sL_law_405, sL_law_406, sL_law_407, sL_law_408, sL_law_411, sL_law_414, sL_law_415, ↓hk1, ↓hk103, ↓bndi_at e1, ↓bndi_at e2, ↓if_pos, ↓gel_at g0, ↓gel_at g1, i32_of, t1]
theorem L_8 (h : inv A F E) (hE : E.2.2.2 = .inr (99, Ln, sc)) (hi : i + 6 ≤ Ln) (hL : Ln ≤ 3072) (hs : ∀ j, sc j ≤ 2147483647) : lwp A F E i 416 1260 0 := by
  obtain ⟨v, A1, F1, E1, A2, F2, E2, e1, e2, iv, eE⟩ := k_step  h
  refine ⟨A2, F2, E2, ?_, iv, eE⟩
  rw [Int.add_zero]
  simp (disch := omega) only [sL_law_416, sL_law_417, sL_law_420, sL_law_421, sL_law_424, sL_law_427, sL_law_428, ↓hk1, ↓hk103, ↓bndi_at e1, ↓bndi_at e2, ↓if_pos]
theorem L_9 (h : inv A F E) (hE : E.2.2.2 = .inr (99, Ln, sc)) (hi : i + 6 ≤ Ln) (hL : Ln ≤ 3072) (hs : ∀ j, sc j ≤ 2147483647) : lwp A F E i 429 1260 0 := by
  obtain ⟨v, A1, F1, E1, A2, F2, E2, e1, e2, iv, eE⟩ := k_give (g := sc (i + 1)) (m := sc (i + 2)) h
  have g0 : (HP A F E).2 1000000000 = .inr (99, Ln, sc) := HP_sc.trans hE
  have g1 : (HP A1 F1 E1).2 1000000000 = .inr (99, Ln, sc) := cl_kp e1 _ _ g0
  have t1 : ((i : Int) + 1).toNat = i + 1 := by omega
  have t2 : ((i : Int) + 2).toNat = i + 2 := by omega
  refine ⟨A2, F2, E2, ?_, iv, eE⟩
  rw [Int.add_zero]
  simp (disch := omega) only [sL_law_429, sL_law_430, sL_law_431, sL_law_432, sL_law_433, sL_law_434, sL_law_435, sL_law_436, sL_law_437, sL_law_438, sL_law_439, sL_law_440, sL_law_443, sL_law_444, sL_law_445, sL_law_446, sL_law_447, sL_law_448, sL_law_449, sL_law_450, sL_law_451, sL_law_452, sL_law_453, sL_law_454, sL_law_457, sL_law_460, sL_law_461, ↓hk1, ↓hk103, ↓bndi_at e1, ↓bndi_at e2, ↓if_pos, ↓gel_at g0, ↓gel_at g1, i32_of, t1, t2]
theorem L_10 (h : inv A F E) (hE : E.2.2.2 = .inr (99, Ln, sc)) (hi : i + 6 ≤ Ln) (hL : Ln ≤ 3072) (hs : ∀ j, sc j ≤ 2147483647) : lwp A F E i 462 1260 0 := by
  obtain ⟨v, A1, F1, E1, A2, F2, E2, e1, e2, iv, eE⟩ := k_way (g := sc (i + 1)) (m := sc (i + 2)) h
  have g0 : (HP A F E).2 1000000000 = .inr (99, Ln, sc) := HP_sc.trans hE
  have g1 : (HP A1 F1 E1).2 1000000000 = .inr (99, Ln, sc) := cl_kp e1 _ _ g0
  have t1 : ((i : Int) + 1).toNat = i + 1 := by omega
  have t2 : ((i : Int) + 2).toNat = i + 2 := by omega
  refine ⟨A2, F2, E2, ?_, iv, eE⟩
  rw [Int.add_zero]
  simp (disch := omega) only [sL_law_462, sL_law_463, sL_law_464, sL_law_465, sL_law_466, sL_law_467, sL_law_468, sL_law_469, sL_law_470, sL_law_471, sL_law_472, sL_law_473, sL_law_476, sL_law_477, sL_law_478, sL_law_479, sL_law_480, sL_law_481, sL_law_482, sL_law_483, sL_law_484, sL_law_485, sL_law_486, sL_law_487, sL_law_490, sL_law_493, sL_law_494, ↓hk1, ↓hk103, ↓bndi_at e1, ↓bndi_at e2, ↓if_pos, ↓gel_at g0, ↓gel_at g1, i32_of, t1, t2]
theorem L_11 (h : inv A F E) (hE : E.2.2.2 = .inr (99, Ln, sc)) (hi : i + 6 ≤ Ln) (hL : Ln ≤ 3072) (hs : ∀ j, sc j ≤ 2147483647) : lwp A F E i 495 1260 0 := by
  obtain ⟨v, A1, F1, E1, A2, F2, E2, e1, e2, iv, eE⟩ := k_stone (c := sc (i + 1)) h
  have g0 : (HP A F E).2 1000000000 = .inr (99, Ln, sc) := HP_sc.trans hE
  have g1 : (HP A1 F1 E1).2 1000000000 = .inr (99, Ln, sc) := cl_kp e1 _ _ g0
  have t1 : ((i : Int) + 1).toNat = i + 1 := by omega
  refine ⟨A2, F2, E2, ?_, iv, eE⟩
  rw [Int.add_zero]
  simp (disch := omega) only [sL_law_495, sL_law_496, sL_law_497, sL_law_498, sL_law_499, sL_law_500, sL_law_501, sL_law_504, sL_law_505, sL_law_506, sL_law_507, sL_law_508, sL_law_509, sL_law_510, sL_law_513, sL_law_516, sL_law_517, ↓hk1, ↓hk103, ↓bndi_at e1, ↓bndi_at e2, ↓if_pos, ↓gel_at g0, ↓gel_at g1, i32_of, t1]
theorem L_12 (h : inv A F E) (hE : E.2.2.2 = .inr (99, Ln, sc)) (hi : i + 6 ≤ Ln) (hL : Ln ≤ 3072) (hs : ∀ j, sc j ≤ 2147483647) : lwp A F E i 518 1260 0 := by
  obtain ⟨v, A1, F1, E1, A2, F2, E2, e1, e2, iv, eE⟩ := k_fold (e := sc (i + 1)) (m := sc (i + 2)) h
  have g0 : (HP A F E).2 1000000000 = .inr (99, Ln, sc) := HP_sc.trans hE
  have g1 : (HP A1 F1 E1).2 1000000000 = .inr (99, Ln, sc) := cl_kp e1 _ _ g0
  have t1 : ((i : Int) + 1).toNat = i + 1 := by omega
  have t2 : ((i : Int) + 2).toNat = i + 2 := by omega
  refine ⟨A2, F2, E2, ?_, iv, eE⟩
  rw [Int.add_zero]
  simp (disch := omega) only [sL_law_518, sL_law_519, sL_law_520, sL_law_521, sL_law_522, sL_law_523, sL_law_524, sL_law_525, sL_law_526, sL_law_527, sL_law_528, sL_law_529, sL_law_532, sL_law_533, sL_law_534, sL_law_535, sL_law_536, sL_law_537, sL_law_538, sL_law_539, sL_law_540, sL_law_541, sL_law_542, sL_law_543, sL_law_546, sL_law_549, sL_law_550, ↓hk1, ↓hk103, ↓bndi_at e1, ↓bndi_at e2, ↓if_pos, ↓gel_at g0, ↓gel_at g1, i32_of, t1, t2]
theorem L_13 (h : inv A F E) (hE : E.2.2.2 = .inr (99, Ln, sc)) (hi : i + 6 ≤ Ln) (hL : Ln ≤ 3072) (hs : ∀ j, sc j ≤ 2147483647) : lwp A F E i 551 1260 0 := by
  obtain ⟨v, A1, F1, E1, A2, F2, E2, e1, e2, iv, eE⟩ := k_undo  h
  refine ⟨A2, F2, E2, ?_, iv, eE⟩
  rw [Int.add_zero]
  simp (disch := omega) only [sL_law_551, sL_law_552, sL_law_555, sL_law_556, sL_law_559, sL_law_562, sL_law_563, ↓hk1, ↓hk103, ↓bndi_at e1, ↓bndi_at e2, ↓if_pos]
theorem L_14 (h : inv A F E) (hE : E.2.2.2 = .inr (99, Ln, sc)) (hi : i + 6 ≤ Ln) (hL : Ln ≤ 3072) (hs : ∀ j, sc j ≤ 2147483647) : lwp A F E i 564 1260 0 := by
  obtain ⟨v, A1, F1, E1, A2, F2, E2, e1, e2, iv, eE⟩ := k_ahead (g := sc (i + 1)) (n := sc (i + 2)) (w := sc (i + 3)) h
  have g0 : (HP A F E).2 1000000000 = .inr (99, Ln, sc) := HP_sc.trans hE
  have g1 : (HP A1 F1 E1).2 1000000000 = .inr (99, Ln, sc) := cl_kp e1 _ _ g0
  have t1 : ((i : Int) + 1).toNat = i + 1 := by omega
  have t2 : ((i : Int) + 2).toNat = i + 2 := by omega
  have t3 : ((i : Int) + 3).toNat = i + 3 := by omega
  refine ⟨A2, F2, E2, ?_, iv, eE⟩
  rw [Int.add_zero]
  simp (disch := omega) only [sL_law_564, sL_law_565, sL_law_566, sL_law_567, sL_law_568, sL_law_569, sL_law_570, sL_law_571, sL_law_572, sL_law_573, sL_law_574, sL_law_575, sL_law_576, sL_law_577, sL_law_578, sL_law_579, sL_law_580, sL_law_583, sL_law_584, sL_law_585, sL_law_586, sL_law_587, sL_law_588, sL_law_589, sL_law_590, sL_law_591, sL_law_592, sL_law_593, sL_law_594, sL_law_595, sL_law_596, sL_law_597, sL_law_598, sL_law_599, sL_law_602, sL_law_605, sL_law_606, ↓hk1, ↓hk103, ↓bndi_at e1, ↓bndi_at e2, ↓if_pos, ↓gel_at g0, ↓gel_at g1, i32_of, t1, t2, t3]
theorem L_15 (h : inv A F E) (hE : E.2.2.2 = .inr (99, Ln, sc)) (hi : i + 6 ≤ Ln) (hL : Ln ≤ 3072) (hs : ∀ j, sc j ≤ 2147483647) : lwp A F E i 607 1260 0 := by
  obtain ⟨v, A1, F1, E1, A2, F2, E2, e1, e2, iv, eE⟩ := k_home (g := sc (i + 1)) h
  have g0 : (HP A F E).2 1000000000 = .inr (99, Ln, sc) := HP_sc.trans hE
  have g1 : (HP A1 F1 E1).2 1000000000 = .inr (99, Ln, sc) := cl_kp e1 _ _ g0
  have t1 : ((i : Int) + 1).toNat = i + 1 := by omega
  refine ⟨A2, F2, E2, ?_, iv, eE⟩
  rw [Int.add_zero]
  simp (disch := omega) only [sL_law_607, sL_law_608, sL_law_609, sL_law_610, sL_law_611, sL_law_612, sL_law_613, sL_law_616, sL_law_617, sL_law_618, sL_law_619, sL_law_620, sL_law_621, sL_law_622, sL_law_625, sL_law_628, sL_law_629, ↓hk1, ↓hk103, ↓bndi_at e1, ↓bndi_at e2, ↓if_pos, ↓gel_at g0, ↓gel_at g1, i32_of, t1]
theorem L_16 (h : inv A F E) (hE : E.2.2.2 = .inr (99, Ln, sc)) (hi : i + 6 ≤ Ln) (hL : Ln ≤ 3072) (hs : ∀ j, sc j ≤ 2147483647) : lwp A F E i 630 1260 0 := by
  obtain ⟨v, A1, F1, E1, A2, F2, E2, e1, e2, iv, eE⟩ := k_gone (n := sc (i + 1)) h
  have g0 : (HP A F E).2 1000000000 = .inr (99, Ln, sc) := HP_sc.trans hE
  have g1 : (HP A1 F1 E1).2 1000000000 = .inr (99, Ln, sc) := cl_kp e1 _ _ g0
  have t1 : ((i : Int) + 1).toNat = i + 1 := by omega
  refine ⟨A2, F2, E2, ?_, iv, eE⟩
  rw [Int.add_zero]
  simp (disch := omega) only [sL_law_630, sL_law_631, sL_law_632, sL_law_633, sL_law_634, sL_law_635, sL_law_636, sL_law_639, sL_law_640, sL_law_641, sL_law_642, sL_law_643, sL_law_644, sL_law_645, sL_law_648, sL_law_651, sL_law_652, ↓hk1, ↓hk103, ↓bndi_at e1, ↓bndi_at e2, ↓if_pos, ↓gel_at g0, ↓gel_at g1, i32_of, t1]
theorem L_17 (h : inv A F E) (hE : E.2.2.2 = .inr (99, Ln, sc)) (hi : i + 6 ≤ Ln) (hL : Ln ≤ 3072) (hs : ∀ j, sc j ≤ 2147483647) : lwp A F E i 653 1260 0 := by
  obtain ⟨v, A1, F1, E1, A2, F2, E2, e1, e2, iv, eE⟩ := k_leastFood (g := sc (i + 1)) (n := sc (i + 2)) h
  have g0 : (HP A F E).2 1000000000 = .inr (99, Ln, sc) := HP_sc.trans hE
  have g1 : (HP A1 F1 E1).2 1000000000 = .inr (99, Ln, sc) := cl_kp e1 _ _ g0
  have t1 : ((i : Int) + 1).toNat = i + 1 := by omega
  have t2 : ((i : Int) + 2).toNat = i + 2 := by omega
  refine ⟨A2, F2, E2, ?_, iv, eE⟩
  rw [Int.add_zero]
  simp (disch := omega) only [sL_law_653, sL_law_654, sL_law_655, sL_law_656, sL_law_657, sL_law_658, sL_law_659, sL_law_660, sL_law_661, sL_law_662, sL_law_663, sL_law_664, sL_law_667, sL_law_668, sL_law_669, sL_law_670, sL_law_671, sL_law_672, sL_law_673, sL_law_674, sL_law_675, sL_law_676, sL_law_677, sL_law_678, sL_law_681, sL_law_684, sL_law_685, ↓hk1, ↓hk103, ↓bndi_at e1, ↓bndi_at e2, ↓if_pos, ↓gel_at g0, ↓gel_at g1, i32_of, t1, t2]
theorem L_18 (h : inv A F E) (hE : E.2.2.2 = .inr (99, Ln, sc)) (hi : i + 6 ≤ Ln) (hL : Ln ≤ 3072) (hs : ∀ j, sc j ≤ 2147483647) : lwp A F E i 686 1260 0 := by
  obtain ⟨v, A1, F1, E1, A2, F2, E2, e1, e2, iv, eE⟩ := k_meet (g1 := sc (i + 1)) (g2 := sc (i + 2)) h
  have g0 : (HP A F E).2 1000000000 = .inr (99, Ln, sc) := HP_sc.trans hE
  have g1 : (HP A1 F1 E1).2 1000000000 = .inr (99, Ln, sc) := cl_kp e1 _ _ g0
  have t1 : ((i : Int) + 1).toNat = i + 1 := by omega
  have t2 : ((i : Int) + 2).toNat = i + 2 := by omega
  refine ⟨A2, F2, E2, ?_, iv, eE⟩
  rw [Int.add_zero]
  simp (disch := omega) only [sL_law_686, sL_law_687, sL_law_688, sL_law_689, sL_law_690, sL_law_691, sL_law_692, sL_law_693, sL_law_694, sL_law_695, sL_law_696, sL_law_697, sL_law_700, sL_law_701, sL_law_702, sL_law_703, sL_law_704, sL_law_705, sL_law_706, sL_law_707, sL_law_708, sL_law_709, sL_law_710, sL_law_711, sL_law_714, sL_law_717, sL_law_718, ↓hk1, ↓hk103, ↓bndi_at e1, ↓bndi_at e2, ↓if_pos, ↓gel_at g0, ↓gel_at g1, i32_of, t1, t2]
theorem L_19 (h : inv A F E) (hE : E.2.2.2 = .inr (99, Ln, sc)) (hi : i + 6 ≤ Ln) (hL : Ln ≤ 3072) (hs : ∀ j, sc j ≤ 2147483647) : lwp A F E i 719 1260 0 := by
  obtain ⟨v, A1, F1, E1, A2, F2, E2, e1, e2, iv, eE⟩ := k_shortest (g := sc (i + 1)) (w := sc (i + 2)) h
  have g0 : (HP A F E).2 1000000000 = .inr (99, Ln, sc) := HP_sc.trans hE
  have g1 : (HP A1 F1 E1).2 1000000000 = .inr (99, Ln, sc) := cl_kp e1 _ _ g0
  have t1 : ((i : Int) + 1).toNat = i + 1 := by omega
  have t2 : ((i : Int) + 2).toNat = i + 2 := by omega
  refine ⟨A2, F2, E2, ?_, iv, eE⟩
  rw [Int.add_zero]
  simp (disch := omega) only [sL_law_719, sL_law_720, sL_law_721, sL_law_722, sL_law_723, sL_law_724, sL_law_725, sL_law_726, sL_law_727, sL_law_728, sL_law_729, sL_law_730, sL_law_733, sL_law_734, sL_law_735, sL_law_736, sL_law_737, sL_law_738, sL_law_739, sL_law_740, sL_law_741, sL_law_742, sL_law_743, sL_law_744, sL_law_747, sL_law_750, sL_law_751, ↓hk1, ↓hk103, ↓bndi_at e1, ↓bndi_at e2, ↓if_pos, ↓gel_at g0, ↓gel_at g1, i32_of, t1, t2]
theorem L_20 (h : inv A F E) (hE : E.2.2.2 = .inr (99, Ln, sc)) (hi : i + 6 ≤ Ln) (hL : Ln ≤ 3072) (hs : ∀ j, sc j ≤ 2147483647) : lwp A F E i 752 1260 0 := by
  obtain ⟨v, A1, F1, E1, A2, F2, E2, e1, e2, iv, eE⟩ := k_seen (g := sc (i + 1)) (n := sc (i + 2)) h
  have g0 : (HP A F E).2 1000000000 = .inr (99, Ln, sc) := HP_sc.trans hE
  have g1 : (HP A1 F1 E1).2 1000000000 = .inr (99, Ln, sc) := cl_kp e1 _ _ g0
  have t1 : ((i : Int) + 1).toNat = i + 1 := by omega
  have t2 : ((i : Int) + 2).toNat = i + 2 := by omega
  refine ⟨A2, F2, E2, ?_, iv, eE⟩
  rw [Int.add_zero]
  simp (disch := omega) only [sL_law_752, sL_law_753, sL_law_754, sL_law_755, sL_law_756, sL_law_757, sL_law_758, sL_law_759, sL_law_760, sL_law_761, sL_law_762, sL_law_763, sL_law_766, sL_law_767, sL_law_768, sL_law_769, sL_law_770, sL_law_771, sL_law_772, sL_law_773, sL_law_774, sL_law_775, sL_law_776, sL_law_777, sL_law_780, sL_law_783, sL_law_784, ↓hk1, ↓hk103, ↓bndi_at e1, ↓bndi_at e2, ↓if_pos, ↓gel_at g0, ↓gel_at g1, i32_of, t1, t2]
theorem L_21 (h : inv A F E) (hE : E.2.2.2 = .inr (99, Ln, sc)) (hi : i + 6 ≤ Ln) (hL : Ln ≤ 3072) (hs : ∀ j, sc j ≤ 2147483647) : lwp A F E i 785 1260 0 := by
  obtain ⟨v, A1, F1, E1, A2, F2, E2, e1, e2, iv, eE⟩ := k_longest (n := sc (i + 1)) (w := sc (i + 2)) h
  have g0 : (HP A F E).2 1000000000 = .inr (99, Ln, sc) := HP_sc.trans hE
  have g1 : (HP A1 F1 E1).2 1000000000 = .inr (99, Ln, sc) := cl_kp e1 _ _ g0
  have t1 : ((i : Int) + 1).toNat = i + 1 := by omega
  have t2 : ((i : Int) + 2).toNat = i + 2 := by omega
  refine ⟨A2, F2, E2, ?_, iv, eE⟩
  rw [Int.add_zero]
  simp (disch := omega) only [sL_law_785, sL_law_786, sL_law_787, sL_law_788, sL_law_789, sL_law_790, sL_law_791, sL_law_792, sL_law_793, sL_law_794, sL_law_795, sL_law_796, sL_law_799, sL_law_800, sL_law_801, sL_law_802, sL_law_803, sL_law_804, sL_law_805, sL_law_806, sL_law_807, sL_law_808, sL_law_809, sL_law_810, sL_law_813, sL_law_816, sL_law_817, ↓hk1, ↓hk103, ↓bndi_at e1, ↓bndi_at e2, ↓if_pos, ↓gel_at g0, ↓gel_at g1, i32_of, t1, t2]
theorem L_22 (h : inv A F E) (hE : E.2.2.2 = .inr (99, Ln, sc)) (hi : i + 6 ≤ Ln) (hL : Ln ≤ 3072) (hs : ∀ j, sc j ≤ 2147483647) : lwp A F E i 818 1260 0 := by
  obtain ⟨v, A1, F1, E1, A2, F2, E2, e1, e2, iv, eE⟩ := k_bestFold (n := sc (i + 1)) (w := sc (i + 2)) h
  have g0 : (HP A F E).2 1000000000 = .inr (99, Ln, sc) := HP_sc.trans hE
  have g1 : (HP A1 F1 E1).2 1000000000 = .inr (99, Ln, sc) := cl_kp e1 _ _ g0
  have t1 : ((i : Int) + 1).toNat = i + 1 := by omega
  have t2 : ((i : Int) + 2).toNat = i + 2 := by omega
  refine ⟨A2, F2, E2, ?_, iv, eE⟩
  rw [Int.add_zero]
  simp (disch := omega) only [sL_law_818, sL_law_819, sL_law_820, sL_law_821, sL_law_822, sL_law_823, sL_law_824, sL_law_825, sL_law_826, sL_law_827, sL_law_828, sL_law_829, sL_law_832, sL_law_833, sL_law_834, sL_law_835, sL_law_836, sL_law_837, sL_law_838, sL_law_839, sL_law_840, sL_law_841, sL_law_842, sL_law_843, sL_law_846, sL_law_849, sL_law_850, ↓hk1, ↓hk103, ↓bndi_at e1, ↓bndi_at e2, ↓if_pos, ↓gel_at g0, ↓gel_at g1, i32_of, t1, t2]
theorem L_23 (h : inv A F E) (hE : E.2.2.2 = .inr (99, Ln, sc)) (hi : i + 6 ≤ Ln) (hL : Ln ≤ 3072) (hs : ∀ j, sc j ≤ 2147483647) : lwp A F E i 851 1260 0 := by
  obtain ⟨v, A1, F1, E1, A2, F2, E2, e1, e2, iv, eE⟩ := k_bestStone (n := sc (i + 1)) (w := sc (i + 2)) h
  have g0 : (HP A F E).2 1000000000 = .inr (99, Ln, sc) := HP_sc.trans hE
  have g1 : (HP A1 F1 E1).2 1000000000 = .inr (99, Ln, sc) := cl_kp e1 _ _ g0
  have t1 : ((i : Int) + 1).toNat = i + 1 := by omega
  have t2 : ((i : Int) + 2).toNat = i + 2 := by omega
  refine ⟨A2, F2, E2, ?_, iv, eE⟩
  rw [Int.add_zero]
  simp (disch := omega) only [sL_law_851, sL_law_852, sL_law_853, sL_law_854, sL_law_855, sL_law_856, sL_law_857, sL_law_858, sL_law_859, sL_law_860, sL_law_861, sL_law_862, sL_law_865, sL_law_866, sL_law_867, sL_law_868, sL_law_869, sL_law_870, sL_law_871, sL_law_872, sL_law_873, sL_law_874, sL_law_875, sL_law_876, sL_law_879, sL_law_882, sL_law_883, ↓hk1, ↓hk103, ↓bndi_at e1, ↓bndi_at e2, ↓if_pos, ↓gel_at g0, ↓gel_at g1, i32_of, t1, t2]
theorem L_24 (h : inv A F E) (hE : E.2.2.2 = .inr (99, Ln, sc)) (hi : i + 6 ≤ Ln) (hL : Ln ≤ 3072) (hs : ∀ j, sc j ≤ 2147483647) : lwp A F E i 884 1260 0 := by
  obtain ⟨v, A1, F1, E1, A2, F2, E2, e1, e2, iv, eE⟩ := k_rests (g1 := sc (i + 1)) (g2 := sc (i + 2)) (n := sc (i + 3)) (w := sc (i + 4)) h
  have g0 : (HP A F E).2 1000000000 = .inr (99, Ln, sc) := HP_sc.trans hE
  have g1 : (HP A1 F1 E1).2 1000000000 = .inr (99, Ln, sc) := cl_kp e1 _ _ g0
  have t1 : ((i : Int) + 1).toNat = i + 1 := by omega
  have t2 : ((i : Int) + 2).toNat = i + 2 := by omega
  have t3 : ((i : Int) + 3).toNat = i + 3 := by omega
  have t4 : ((i : Int) + 4).toNat = i + 4 := by omega
  refine ⟨A2, F2, E2, ?_, iv, eE⟩
  rw [Int.add_zero]
  simp (disch := omega) only [sL_law_884, sL_law_885, sL_law_886, sL_law_887, sL_law_888, sL_law_889, sL_law_890, sL_law_891, sL_law_892, sL_law_893, sL_law_894, sL_law_895, sL_law_896, sL_law_897, sL_law_898, sL_law_899, sL_law_900, sL_law_901, sL_law_902, sL_law_903, sL_law_904, sL_law_905, sL_law_908, sL_law_909, sL_law_910, sL_law_911, sL_law_912, sL_law_913, sL_law_914, sL_law_915, sL_law_916, sL_law_917, sL_law_918, sL_law_919, sL_law_920, sL_law_921, sL_law_922, sL_law_923, sL_law_924, sL_law_925, sL_law_926, sL_law_927, sL_law_928, sL_law_929, sL_law_932, sL_law_935, sL_law_936, ↓hk1, ↓hk103, ↓bndi_at e1, ↓bndi_at e2, ↓if_pos, ↓gel_at g0, ↓gel_at g1, i32_of, t1, t2, t3, t4]
theorem L_25 (h : inv A F E) (hE : E.2.2.2 = .inr (99, Ln, sc)) (hi : i + 6 ≤ Ln) (hL : Ln ≤ 3072) (hs : ∀ j, sc j ≤ 2147483647) : lwp A F E i 937 1260 0 := by
  obtain ⟨v, A1, F1, E1, A2, F2, E2, e1, e2, iv, eE⟩ := k_ring (w := sc (i + 1)) h
  have g0 : (HP A F E).2 1000000000 = .inr (99, Ln, sc) := HP_sc.trans hE
  have g1 : (HP A1 F1 E1).2 1000000000 = .inr (99, Ln, sc) := cl_kp e1 _ _ g0
  have t1 : ((i : Int) + 1).toNat = i + 1 := by omega
  refine ⟨A2, F2, E2, ?_, iv, eE⟩
  rw [Int.add_zero]
  simp (disch := omega) only [sL_law_937, sL_law_938, sL_law_939, sL_law_940, sL_law_941, sL_law_942, sL_law_943, sL_law_946, sL_law_947, sL_law_948, sL_law_949, sL_law_950, sL_law_951, sL_law_952, sL_law_955, sL_law_958, sL_law_959, ↓hk1, ↓hk103, ↓bndi_at e1, ↓bndi_at e2, ↓if_pos, ↓gel_at g0, ↓gel_at g1, i32_of, t1]
theorem L_26 (h : inv A F E) (hE : E.2.2.2 = .inr (99, Ln, sc)) (hi : i + 6 ≤ Ln) (hL : Ln ≤ 3072) (hs : ∀ j, sc j ≤ 2147483647) : lwp A F E i 960 1260 0 := by
  obtain ⟨v, A1, F1, E1, A2, F2, E2, e1, e2, iv, eE⟩ := k_bread (m := sc (i + 1)) (g := sc (i + 2)) h
  have g0 : (HP A F E).2 1000000000 = .inr (99, Ln, sc) := HP_sc.trans hE
  have g1 : (HP A1 F1 E1).2 1000000000 = .inr (99, Ln, sc) := cl_kp e1 _ _ g0
  have t1 : ((i : Int) + 1).toNat = i + 1 := by omega
  have t2 : ((i : Int) + 2).toNat = i + 2 := by omega
  refine ⟨A2, F2, E2, ?_, iv, eE⟩
  rw [Int.add_zero]
  simp (disch := omega) only [sL_law_960, sL_law_961, sL_law_962, sL_law_963, sL_law_964, sL_law_965, sL_law_966, sL_law_967, sL_law_968, sL_law_969, sL_law_970, sL_law_971, sL_law_974, sL_law_975, sL_law_976, sL_law_977, sL_law_978, sL_law_979, sL_law_980, sL_law_981, sL_law_982, sL_law_983, sL_law_984, sL_law_985, sL_law_988, sL_law_991, sL_law_992, ↓hk1, ↓hk103, ↓bndi_at e1, ↓bndi_at e2, ↓if_pos, ↓gel_at g0, ↓gel_at g1, i32_of, t1, t2]
theorem L_27 (h : inv A F E) (hE : E.2.2.2 = .inr (99, Ln, sc)) (hi : i + 6 ≤ Ln) (hL : Ln ≤ 3072) (hs : ∀ j, sc j ≤ 2147483647) : lwp A F E i 993 1260 0 := by
  obtain ⟨v, A1, F1, E1, A2, F2, E2, e1, e2, iv, eE⟩ := k_note (n := sc (i + 1)) (g := sc (i + 2)) (c := sc (i + 3)) h
  have g0 : (HP A F E).2 1000000000 = .inr (99, Ln, sc) := HP_sc.trans hE
  have g1 : (HP A1 F1 E1).2 1000000000 = .inr (99, Ln, sc) := cl_kp e1 _ _ g0
  have t1 : ((i : Int) + 1).toNat = i + 1 := by omega
  have t2 : ((i : Int) + 2).toNat = i + 2 := by omega
  have t3 : ((i : Int) + 3).toNat = i + 3 := by omega
  refine ⟨A2, F2, E2, ?_, iv, eE⟩
  rw [Int.add_zero]
  simp (disch := omega) only [sL_law_993, sL_law_994, sL_law_995, sL_law_996, sL_law_997, sL_law_998, sL_law_999, sL_law_1000, sL_law_1001, sL_law_1002, sL_law_1003, sL_law_1004, sL_law_1005, sL_law_1006, sL_law_1007, sL_law_1008, sL_law_1009, sL_law_1012, sL_law_1013, sL_law_1014, sL_law_1015, sL_law_1016, sL_law_1017, sL_law_1018, sL_law_1019, sL_law_1020, sL_law_1021, sL_law_1022, sL_law_1023, sL_law_1024, sL_law_1025, sL_law_1026, sL_law_1027, sL_law_1028, sL_law_1031, sL_law_1034, sL_law_1035, ↓hk1, ↓hk103, ↓bndi_at e1, ↓bndi_at e2, ↓if_pos, ↓gel_at g0, ↓gel_at g1, i32_of, t1, t2, t3]
theorem L_28 (h : inv A F E) (hE : E.2.2.2 = .inr (99, Ln, sc)) (hi : i + 6 ≤ Ln) (hL : Ln ≤ 3072) (hs : ∀ j, sc j ≤ 2147483647) : lwp A F E i 1036 1260 0 := by
  obtain ⟨v, A1, F1, E1, A2, F2, E2, e1, e2, iv, eE⟩ := k_ruled (w := sc (i + 1)) h
  have g0 : (HP A F E).2 1000000000 = .inr (99, Ln, sc) := HP_sc.trans hE
  have g1 : (HP A1 F1 E1).2 1000000000 = .inr (99, Ln, sc) := cl_kp e1 _ _ g0
  have t1 : ((i : Int) + 1).toNat = i + 1 := by omega
  refine ⟨A2, F2, E2, ?_, iv, eE⟩
  rw [Int.add_zero]
  simp (disch := omega) only [sL_law_1036, sL_law_1037, sL_law_1038, sL_law_1039, sL_law_1040, sL_law_1041, sL_law_1042, sL_law_1045, sL_law_1046, sL_law_1047, sL_law_1048, sL_law_1049, sL_law_1050, sL_law_1051, sL_law_1054, sL_law_1057, sL_law_1058, ↓hk1, ↓hk103, ↓bndi_at e1, ↓bndi_at e2, ↓if_pos, ↓gel_at g0, ↓gel_at g1, i32_of, t1]
theorem L_29 (h : inv A F E) (hE : E.2.2.2 = .inr (99, Ln, sc)) (hi : i + 6 ≤ Ln) (hL : Ln ≤ 3072) (hs : ∀ j, sc j ≤ 2147483647) : lwp A F E i 1059 1260 0 := by
  obtain ⟨v, A1, F1, E1, A2, F2, E2, e1, e2, iv, eE⟩ := k_look (n := sc (i + 1)) (w := sc (i + 2)) h
  have g0 : (HP A F E).2 1000000000 = .inr (99, Ln, sc) := HP_sc.trans hE
  have g1 : (HP A1 F1 E1).2 1000000000 = .inr (99, Ln, sc) := cl_kp e1 _ _ g0
  have t1 : ((i : Int) + 1).toNat = i + 1 := by omega
  have t2 : ((i : Int) + 2).toNat = i + 2 := by omega
  refine ⟨A2, F2, E2, ?_, iv, eE⟩
  rw [Int.add_zero]
  simp (disch := omega) only [sL_law_1059, sL_law_1060, sL_law_1061, sL_law_1062, sL_law_1063, sL_law_1064, sL_law_1065, sL_law_1066, sL_law_1067, sL_law_1068, sL_law_1069, sL_law_1070, sL_law_1073, sL_law_1074, sL_law_1075, sL_law_1076, sL_law_1077, sL_law_1078, sL_law_1079, sL_law_1080, sL_law_1081, sL_law_1082, sL_law_1083, sL_law_1084, sL_law_1087, sL_law_1090, sL_law_1091, ↓hk1, ↓hk103, ↓bndi_at e1, ↓bndi_at e2, ↓if_pos, ↓gel_at g0, ↓gel_at g1, i32_of, t1, t2]
theorem L_30 (h : inv A F E) (hE : E.2.2.2 = .inr (99, Ln, sc)) (hi : i + 6 ≤ Ln) (hL : Ln ≤ 3072) (hs : ∀ j, sc j ≤ 2147483647) : lwp A F E i 1092 1260 0 := by
  obtain ⟨v, A1, F1, E1, A2, F2, E2, e1, e2, iv, eE⟩ := k_folds (w := sc (i + 1)) h
  have g0 : (HP A F E).2 1000000000 = .inr (99, Ln, sc) := HP_sc.trans hE
  have g1 : (HP A1 F1 E1).2 1000000000 = .inr (99, Ln, sc) := cl_kp e1 _ _ g0
  have t1 : ((i : Int) + 1).toNat = i + 1 := by omega
  refine ⟨A2, F2, E2, ?_, iv, eE⟩
  rw [Int.add_zero]
  simp (disch := omega) only [sL_law_1092, sL_law_1093, sL_law_1094, sL_law_1095, sL_law_1096, sL_law_1097, sL_law_1098, sL_law_1101, sL_law_1102, sL_law_1103, sL_law_1104, sL_law_1105, sL_law_1106, sL_law_1107, sL_law_1110, sL_law_1113, sL_law_1114, ↓hk1, ↓hk103, ↓bndi_at e1, ↓bndi_at e2, ↓if_pos, ↓gel_at g0, ↓gel_at g1, i32_of, t1]
theorem L_31 (h : inv A F E) (hE : E.2.2.2 = .inr (99, Ln, sc)) (hi : i + 6 ≤ Ln) (hL : Ln ≤ 3072) (hs : ∀ j, sc j ≤ 2147483647) : lwp A F E i 1115 1260 0 := by
  obtain ⟨v, A1, F1, E1, A2, F2, E2, e1, e2, iv, eE⟩ := k_seed (k := sc (i + 1)) (hs _) h
  have g0 : (HP A F E).2 1000000000 = .inr (99, Ln, sc) := HP_sc.trans hE
  have g1 : (HP A1 F1 E1).2 1000000000 = .inr (99, Ln, sc) := cl_kp e1 _ _ g0
  have t1 : ((i : Int) + 1).toNat = i + 1 := by omega
  refine ⟨A2, F2, E2, ?_, iv, eE⟩
  rw [Int.add_zero]
  simp (disch := omega) only [sL_law_1115, sL_law_1116, sL_law_1117, sL_law_1118, sL_law_1119, sL_law_1120, sL_law_1121, sL_law_1124, sL_law_1125, sL_law_1126, sL_law_1127, sL_law_1128, sL_law_1129, sL_law_1130, sL_law_1133, sL_law_1136, sL_law_1137, ↓hk1, ↓hk103, ↓bndi_at e1, ↓bndi_at e2, ↓if_pos, ↓gel_at g0, ↓gel_at g1, i32_of, t1]
theorem L_32 (h : inv A F E) (hE : E.2.2.2 = .inr (99, Ln, sc)) (hi : i + 6 ≤ Ln) (hL : Ln ≤ 3072) (hs : ∀ j, sc j ≤ 2147483647) : lwp A F E i 1138 1260 0 := by
  obtain ⟨v, A1, F1, E1, A2, F2, E2, e1, e2, iv, eE⟩ := k_gusts (m := sc (i + 1)) (n := sc (i + 2)) (p := sc (i + 3)) (w := sc (i + 4)) h
  have g0 : (HP A F E).2 1000000000 = .inr (99, Ln, sc) := HP_sc.trans hE
  have g1 : (HP A1 F1 E1).2 1000000000 = .inr (99, Ln, sc) := cl_kp e1 _ _ g0
  have t1 : ((i : Int) + 1).toNat = i + 1 := by omega
  have t2 : ((i : Int) + 2).toNat = i + 2 := by omega
  have t3 : ((i : Int) + 3).toNat = i + 3 := by omega
  have t4 : ((i : Int) + 4).toNat = i + 4 := by omega
  refine ⟨A2, F2, E2, ?_, iv, eE⟩
  rw [Int.add_zero]
  simp (disch := omega) only [sL_law_1138, sL_law_1139, sL_law_1140, sL_law_1141, sL_law_1142, sL_law_1143, sL_law_1144, sL_law_1145, sL_law_1146, sL_law_1147, sL_law_1148, sL_law_1149, sL_law_1150, sL_law_1151, sL_law_1152, sL_law_1153, sL_law_1154, sL_law_1155, sL_law_1156, sL_law_1157, sL_law_1158, sL_law_1159, sL_law_1162, sL_law_1163, sL_law_1164, sL_law_1165, sL_law_1166, sL_law_1167, sL_law_1168, sL_law_1169, sL_law_1170, sL_law_1171, sL_law_1172, sL_law_1173, sL_law_1174, sL_law_1175, sL_law_1176, sL_law_1177, sL_law_1178, sL_law_1179, sL_law_1180, sL_law_1181, sL_law_1182, sL_law_1183, sL_law_1186, sL_law_1189, sL_law_1190, ↓hk1, ↓hk103, ↓bndi_at e1, ↓bndi_at e2, ↓if_pos, ↓gel_at g0, ↓gel_at g1, i32_of, t1, t2, t3, t4]
theorem L_33 (h : inv A F E) (hE : E.2.2.2 = .inr (99, Ln, sc)) (hi : i + 6 ≤ Ln) (hL : Ln ≤ 3072) (hs : ∀ j, sc j ≤ 2147483647) : lwp A F E i 1191 1260 0 := by
  obtain ⟨v, A1, F1, E1, A2, F2, E2, e1, e2, iv, eE⟩ := k_count (w := sc (i + 1)) h
  have g0 : (HP A F E).2 1000000000 = .inr (99, Ln, sc) := HP_sc.trans hE
  have g1 : (HP A1 F1 E1).2 1000000000 = .inr (99, Ln, sc) := cl_kp e1 _ _ g0
  have t1 : ((i : Int) + 1).toNat = i + 1 := by omega
  refine ⟨A2, F2, E2, ?_, iv, eE⟩
  rw [Int.add_zero]
  simp (disch := omega) only [sL_law_1191, sL_law_1192, sL_law_1193, sL_law_1194, sL_law_1195, sL_law_1196, sL_law_1197, sL_law_1200, sL_law_1201, sL_law_1202, sL_law_1203, sL_law_1204, sL_law_1205, sL_law_1206, sL_law_1209, sL_law_1212, sL_law_1213, ↓hk1, ↓hk103, ↓bndi_at e1, ↓bndi_at e2, ↓if_pos, ↓gel_at g0, ↓gel_at g1, i32_of, t1]
theorem L_34 (h : inv A F E) (hE : E.2.2.2 = .inr (99, Ln, sc)) (hi : i + 6 ≤ Ln) (hL : Ln ≤ 3072) (hs : ∀ j, sc j ≤ 2147483647) : lwp A F E i 1214 1260 0 := by
  obtain ⟨v, A1, F1, E1, A2, F2, E2, e1, e2, iv, eE⟩ := k_image (k := sc (i + 1)) h
  have g0 : (HP A F E).2 1000000000 = .inr (99, Ln, sc) := HP_sc.trans hE
  have g1 : (HP A1 F1 E1).2 1000000000 = .inr (99, Ln, sc) := cl_kp e1 _ _ g0
  have t1 : ((i : Int) + 1).toNat = i + 1 := by omega
  refine ⟨A2, F2, E2, ?_, iv, eE⟩
  rw [Int.add_zero]
  simp (disch := omega) only [sL_law_1214, sL_law_1215, sL_law_1216, sL_law_1217, sL_law_1218, sL_law_1219, sL_law_1220, sL_law_1223, sL_law_1224, sL_law_1225, sL_law_1226, sL_law_1227, sL_law_1228, sL_law_1229, sL_law_1232, sL_law_1235, sL_law_1236, ↓hk1, ↓hk103, ↓bndi_at e1, ↓bndi_at e2, ↓if_pos, ↓gel_at g0, ↓gel_at g1, i32_of, t1]
theorem L_35 (h : inv A F E) (hE : E.2.2.2 = .inr (99, Ln, sc)) (hi : i + 6 ≤ Ln) (hL : Ln ≤ 3072) (hs : ∀ j, sc j ≤ 2147483647) : lwp A F E i 1237 1260 0 := by
  obtain ⟨v, A1, F1, E1, A2, F2, E2, e1, e2, iv, eE⟩ := k_back (k := sc (i + 1)) h
  have g0 : (HP A F E).2 1000000000 = .inr (99, Ln, sc) := HP_sc.trans hE
  have g1 : (HP A1 F1 E1).2 1000000000 = .inr (99, Ln, sc) := cl_kp e1 _ _ g0
  have t1 : ((i : Int) + 1).toNat = i + 1 := by omega
  refine ⟨A2, F2, E2, ?_, iv, eE⟩
  rw [Int.add_zero]
  simp (disch := omega) only [sL_law_1237, sL_law_1238, sL_law_1239, sL_law_1240, sL_law_1241, sL_law_1242, sL_law_1243, sL_law_1246, sL_law_1247, sL_law_1248, sL_law_1249, sL_law_1250, sL_law_1251, sL_law_1252, sL_law_1255, sL_law_1258, sL_law_1259, ↓hk1, ↓hk103, ↓bndi_at e1, ↓bndi_at e2, ↓if_pos, ↓gel_at g0, ↓gel_at g1, i32_of, t1]
theorem law_c (h : inv A F E) (hE : E.2.2.2 = .inr (99, Ln, sc)) (hi : i + 6 ≤ Ln) (hL : Ln ≤ 3072) (hs0 : ∀ j, -2147483648 ≤ sc j) (hs : ∀ j, sc j ≤ 2147483647) : lwp A F E i 18 18 6 := by
  have g0 : (HP A F E).2 1000000000 = .inr (99, Ln, sc) := HP_sc.trans hE
  have q : q2 (· &&& ·) (sc i) 63 = sc i % 64 := q_and63 (i32_of (hs0 i) (hs i))
  have ti : ((i : Int)).toNat = i := by omega
  have pre : rn mL_law 18 [vr 1000000000, vr 1, vr 103, vi (i : Int)] [] (HP A F E) = rn mL_law 33 [vr 1000000000, vr 1, vr 103, vi (i : Int)] [vi (sc i % 64)] (HP A F E) := by
    simp (disch := omega) only [sL_law_18, sL_law_19, sL_law_20, sL_law_21, sL_law_23, sL_law_24, sL_law_27, sL_law_28, sL_law_29, sL_law_30, sL_law_32, ↓gle_at g0, ↓gel_at g0, i32_of, q, ti, ↓if_neg]
  have post : ∀ A F E, rn mL_law 1260 [vr 1000000000, vr 1, vr 103, vi (i : Int)] [] (HP A F E) = rn mL_law 18 [vr 1000000000, vr 1, vr 103, vi ((i : Int) + 6)] [] (HP A F E) := fun A F E => by
    simp (disch := omega) only [sL_law_1260, sL_law_1263, i32_of]
  have fin : ∀ t, rn mL_law 33 [vr 1000000000, vr 1, vr 103, vi (i : Int)] [vi (sc i % 64)] (HP A F E) = rn mL_law t [vr 1000000000, vr 1, vr 103, vi (i : Int)] [] (HP A F E) → lwp A F E i t 1260 0 → lwp A F E i 18 18 6 := by
    intro t e1 ⟨A2, F2, E2, l1, l2, l3⟩
    rw [Int.add_zero] at l1
    exact ⟨A2, F2, E2, by rw [pre, e1, l1, post], l2, l3⟩
  have b0 : 0 ≤ sc i % 64 ∧ sc i % 64 < 64 := by omega
  rw [sL_law_33] at fin
  generalize sc i % 64 = x at *
  by_cases z : 36 ≤ x
  · exact fin 1260 (swc_out _ _ (Or.inr z)) ⟨A, F, E, by rw [Int.add_zero], h, rfl⟩
  · have hx : x = 0 ∨ x = 1 ∨ x = 2 ∨ x = 3 ∨ x = 4 ∨ x = 5 ∨ x = 6 ∨ x = 7 ∨ x = 8 ∨ x = 9 ∨ x = 10 ∨ x = 11 ∨ x = 12 ∨ x = 13 ∨ x = 14 ∨ x = 15 ∨ x = 16 ∨ x = 17 ∨ x = 18 ∨ x = 19 ∨ x = 20 ∨ x = 21 ∨ x = 22 ∨ x = 23 ∨ x = 24 ∨ x = 25 ∨ x = 26 ∨ x = 27 ∨ x = 28 ∨ x = 29 ∨ x = 30 ∨ x = 31 ∨ x = 32 ∨ x = 33 ∨ x = 34 ∨ x = 35 := by omega
    rcases hx with rfl | rfl | rfl | rfl | rfl | rfl | rfl | rfl | rfl | rfl | rfl | rfl | rfl | rfl | rfl | rfl | rfl | rfl | rfl | rfl | rfl | rfl | rfl | rfl | rfl | rfl | rfl | rfl | rfl | rfl | rfl | rfl | rfl | rfl | rfl | rfl
    · exact fin 192 rfl (L_0 h hE hi hL hs)
    · exact fin 255 rfl (L_1 h hE hi hL hs)
    · exact fin 278 rfl (L_2 h hE hi hL hs)
    · exact fin 291 rfl (L_3 h hE hi hL hs)
    · exact fin 304 rfl (L_4 h hE hi hL hs)
    · exact fin 327 rfl (L_5 h hE hi hL hs)
    · exact fin 360 rfl (L_6 h hE hi hL hs)
    · exact fin 393 rfl (L_7 h hE hi hL hs)
    · exact fin 416 rfl (L_8 h hE hi hL hs)
    · exact fin 429 rfl (L_9 h hE hi hL hs)
    · exact fin 462 rfl (L_10 h hE hi hL hs)
    · exact fin 495 rfl (L_11 h hE hi hL hs)
    · exact fin 518 rfl (L_12 h hE hi hL hs)
    · exact fin 551 rfl (L_13 h hE hi hL hs)
    · exact fin 564 rfl (L_14 h hE hi hL hs)
    · exact fin 607 rfl (L_15 h hE hi hL hs)
    · exact fin 630 rfl (L_16 h hE hi hL hs)
    · exact fin 653 rfl (L_17 h hE hi hL hs)
    · exact fin 686 rfl (L_18 h hE hi hL hs)
    · exact fin 719 rfl (L_19 h hE hi hL hs)
    · exact fin 752 rfl (L_20 h hE hi hL hs)
    · exact fin 785 rfl (L_21 h hE hi hL hs)
    · exact fin 818 rfl (L_22 h hE hi hL hs)
    · exact fin 851 rfl (L_23 h hE hi hL hs)
    · exact fin 884 rfl (L_24 h hE hi hL hs)
    · exact fin 937 rfl (L_25 h hE hi hL hs)
    · exact fin 960 rfl (L_26 h hE hi hL hs)
    · exact fin 993 rfl (L_27 h hE hi hL hs)
    · exact fin 1036 rfl (L_28 h hE hi hL hs)
    · exact fin 1059 rfl (L_29 h hE hi hL hs)
    · exact fin 1092 rfl (L_30 h hE hi hL hs)
    · exact fin 1115 rfl (L_31 h hE hi hL hs)
    · exact fin 1138 rfl (L_32 h hE hi hL hs)
    · exact fin 1191 rfl (L_33 h hE hi hL hs)
    · exact fin 1214 rfl (L_34 h hE hi hL hs)
    · exact fin 1237 rfl (L_35 h hE hi hL hs)
theorem law_l (hL : Ln ≤ 3072) (hs0 : ∀ j, -2147483648 ≤ sc j) (hs : ∀ j, sc j ≤ 2147483647) : ∀ (m i : Nat) (A F : Nat → Nat → Int) (E : zE), inv A F E → E.2.2.2 = .inr (99, Ln, sc) → Ln < i + 6 + 6 * m → i ≤ Ln → ∃ A' F' E', rn mL_law 18 [vr 1000000000, vr 1, vr 103, vi (i : Int)] [] (HP A F E) = some (vi 1, HP A' F' E') ∧ inv A' F' E' := by
  intro m
  induction m with
  | zero =>
    intro i A F E h hE h1 h2
    have g0 : (HP A F E).2 1000000000 = .inr (99, Ln, sc) := HP_sc.trans hE
    refine ⟨A, F, E, ?_, h⟩
    simp (disch := omega) only [sL_law_18, sL_law_19, sL_law_20, sL_law_21, sL_law_23, sL_law_24, sL_law_1266, sL_law_1267, ↓gle_at g0, i32_of, ↓if_pos, or_true]
  | succ m ih =>
    intro i A F E h hE h1 h2
    by_cases y : i + 6 ≤ Ln
    · obtain ⟨A2, F2, E2, l1, l2, l3⟩ := law_c h hE y hL hs0 hs
      obtain ⟨A', F', E', r1, r2⟩ := ih (i + 6) A2 F2 E2 l2 (l3.trans hE) (by omega) (by omega)
      exact ⟨A', F', E', by rw [l1]; exact r1, r2⟩
    · have g0 : (HP A F E).2 1000000000 = .inr (99, Ln, sc) := HP_sc.trans hE
      refine ⟨A, F, E, ?_, h⟩
      simp (disch := omega) only [sL_law_18, sL_law_19, sL_law_20, sL_law_21, sL_law_23, sL_law_24, sL_law_1266, sL_law_1267, ↓gle_at g0, i32_of, ↓if_pos, or_true]
theorem inv_0 {c0 : zC} : inv (fun _ _ => 0) f0 (e0 c0) := by
  have f2 : ∀ k, k ≠ 4 → f0 2 k = 0 := fun k a => by unfold f0; rw [if_neg (by omega)]
  have f103 : ∀ k, k ≠ 21 → f0 103 k = 0 := fun k a => by unfold f0; rw [if_neg (by omega)]
  have f1 : ∀ k, k ≠ 5 → f0 1 k = 0 := fun k a => by unfold f0; rw [if_neg (by omega)]
  have f16 : f0 16 3 = 0 := by unfold f0; rw [if_neg (by omega)]
  have f20 : ∀ k, f0 20 k = 0 := fun k => by unfold f0; rw [if_neg (by omega)]
  have f15 : f0 1 5 = -1 := rfl
  have fo : f0 103 21 = -1 := rfl
  have e1 : (e0 c0).2.1 = 0 := rfl
  have e2 : (e0 c0).2.2.1 = 11133 := rfl
  refine ⟨⟨?_, ?_, ?_, ?_, ?_, ?_⟩, ⟨?_, ?_, ?_, ?_, ?_, ?_, ?_, ?_, ?_⟩, ⟨fun a _ j _ => rfl, fun j _ k _ => rfl⟩, Or.inl ⟨fun _ => rfl, fun _ => rfl, f16, fun _ _ => rfl⟩, ⟨?_, ?_, ?_, ?_⟩, fun k hk => ?_⟩
  · rw [f2 1 (by omega)]; omega
  · rw [f2 1 (by omega), f103 1 (by omega)]
  · intro j; exact ⟨Int.le_refl 0, (by decide : (0 : Int) ≤ 255)⟩
  · intro j hj; rfl
  · rw [f2 3 (by omega)]; omega
  · rw [f2 5 (by omega)]; omega
  · omega
  · omega
  · rw [f1 4 (by omega), e1]; rfl
  · rw [f103 2 (by omega), e1]; rfl
  · rw [f15, e1]; omega
  · rw [fo, f15]
  · rw [f103 22 (by omega), f1 6 (by omega)]
  · rw [f1 6 (by omega)]; omega
  · intro i hi; omega
  · rw [f20]; omega
  · rw [f20]; omega
  · rw [f103 24 (by omega), f20]
  · intro u hu; rw [f20] at hu; omega
  · have fk : f0 (67 + 9 * k) 3 = 0 := by unfold f0; rw [if_neg (by omega)]
    rw [fk]
    exact ⟨rfl, Or.inl rfl, fun q => by omega⟩
theorem law_all {L : Nat} {xs : Nat → Int32} (hL : L ≤ 3072) : ∃ h', cl mL_law [vr 1000000000] (zh0 L xs) = some (vi 1, h') ∧ h'.1.1 ≤ 600000 ∧ h'.1.2 ≤ 7302250 := by
  have z : zh0 L xs = HQ 0 0 (.inr (99, L, fun j => (xs j).toInt)) := zh0_HQ
  have b := fun j : Nat => And.intro (Int32.le_toInt (xs j)) (Int32.toInt_lt (xs j))
  generalize hc0 : (Sum.inr (99, L, fun j => (xs j).toInt) : zC) = c0 at z
  obtain ⟨A', F', E', r1, r2⟩ := law_l (Ln := L) (sc := fun j => (xs j).toInt) hL (fun j => by have := (b j).1; omega) (fun j => by have := (b j).2; omega) L 0 (fun _ _ => 0) f0 (e0 c0) inv_0 hc0.symm (by omega) (by omega)
  obtain ⟨-, R, -⟩ := r2
  have R1 := R.1
  have R2 := R.2.1
  refine ⟨HP A' F' E', ?_, ?_, ?_⟩
  · have n0 : (HQ 0 0 c0).1.1 = 0 := rfl
    have n1 : (HQ 102 4427 c0).1.1 = 102 := rfl
    have ei := EW_init (c0 := c0)
    have em := EM_init (c0 := c0)
    rw [HQ_HP (A := fun _ _ => 0) (F := f0) rfl rfl] at em
    rw [z, ← r1]
    simp (disch := omega) only [eL_law, sL_law_0, sL_law_3, sL_law_4, sL_law_7, sL_law_8, sL_law_11, sL_law_12, sL_law_15, sL_law_16, sL_law_17, n0, n1, Nat.reduceAdd, ↓if_pos, if_pos, if_neg, ↓if_neg, ↓bndv_at ei, ↓bndv_at em]
    rfl
  · show 126 + 3 * E'.2.1 ≤ 600000; omega
  · show E'.2.2.1 ≤ 7302250; omega
end LW
