theorem cs_2 {X : List Int32} {r : Nat} {M : am_Mem} : am_mt X 2 [.ref r] M = am_go X 2 0 [some (.ref r)] [] M := as_mt (n := 1) (by decide +kernel)
theorem cs_3 {X : List Int32} {r : Nat} {M : am_Mem} : am_mt X 3 [.ref r] M = am_go X 3 0 [some (.ref r), none] [] M := as_mt (n := 2) (by decide +kernel)
theorem cs_4 {X : List Int32} {r : Nat} {M : am_Mem} : am_mt X 4 [.ref r] M = am_go X 4 0 [some (.ref r)] [] M := as_mt (n := 1) (by decide +kernel)
theorem cs_5 {X : List Int32} {r t : Nat} {M : am_Mem} : am_mt X 5 [.ref r, .ref t] M = am_go X 5 0 [some (.ref r), some (.ref t)] [] M := as_mt (n := 2) (by decide +kernel)
def cs_M1 : am_Mem := [
  .inr (.inr (.inr (11, [.ref 1, .ref 2, .ref 19, .ref 20, .ref 23, .ref 26, .ref 29, .ref 33, .ref 34, .int 0, .int (-1)]))),
  .inr (.inr (.inl (2, [.ref 3, .ref 5, .ref 7, .ref 9, .ref 11, .ref 13, .ref 15, .ref 17]))),
  .inl [-1, -1, -1, -1, -1, -1, -1, -1],
  .inr (.inr (.inr (5, [.ref 4, .int 0, .int 0]))),
  .inr (.inl (List.replicate 160 0)),
  .inr (.inr (.inr (5, [.ref 6, .int 0, .int 0]))),
  .inr (.inl (List.replicate 160 0)),
  .inr (.inr (.inr (5, [.ref 8, .int 0, .int 0]))),
  .inr (.inl (List.replicate 160 0)),
  .inr (.inr (.inr (5, [.ref 10, .int 0, .int 0]))),
  .inr (.inl (List.replicate 160 0)),
  .inr (.inr (.inr (5, [.ref 12, .int 0, .int 0]))),
  .inr (.inl (List.replicate 160 0)),
  .inr (.inr (.inr (5, [.ref 14, .int 0, .int 0]))),
  .inr (.inl (List.replicate 160 0)),
  .inr (.inr (.inr (5, [.ref 16, .int 0, .int 0]))),
  .inr (.inl (List.replicate 160 0)),
  .inr (.inr (.inr (5, [.ref 18, .int 0, .int 0]))),
  .inr (.inl (List.replicate 160 0)),
  .inl (List.replicate 7 0),
  .inr (.inr (.inr (9, [.ref 21, .ref 22, .int 0, .int 30, .int 5, .int 3, .int 400, .int 15, .int 0, .int 0, .int 1, .int 0, .int 0, .int 0, .int 1]))),
  .inr (.inr (.inl (3, List.replicate 12 .null))),
  .inl [-1, -1, -1, -1, -1, -1],
  .inr (.inr (.inr (9, [.ref 24, .ref 25, .int 0, .int 30, .int 5, .int 3, .int 400, .int 15, .int 0, .int 0, .int 1, .int 0, .int 0, .int 0, .int 1]))),
  .inr (.inr (.inl (3, List.replicate 12 .null))),
  .inl [-1, -1, -1, -1, -1, -1],
  .inr (.inr (.inr (9, [.ref 27, .ref 28, .int 0, .int 30, .int 5, .int 3, .int 400, .int 15, .int 0, .int 0, .int 1, .int 0, .int 0, .int 0, .int 1]))),
  .inr (.inr (.inl (3, List.replicate 12 .null))),
  .inl [-1, -1, -1, -1, -1, -1],
  .inr (.inr (.inr (0, [.ref 30, .ref 31, .ref 32]))),
  .inl (List.replicate 6 0),
  .inl (List.replicate 156 0),
  .inl (List.replicate 156 0),
  .inr (.inr (.inr (10, [.ref 26, .null, .int 0, .int (-1), .int 2, .int 0, .int 0]))),
  .inr (.inr (.inr (5, [.ref 35, .int 0, .int 0]))),
  .inr (.inl (List.replicate 160 0))]
theorem rp8 : (List.replicate 8 0 : List Int32) = [0, 0, 0, 0, 0, 0, 0, 0] := rfl
theorem rp8n : (List.replicate 8 .null : List Value) = [.null, .null, .null, .null, .null, .null, .null, .null] := rfl
set_option maxRecDepth 100000 in
set_option maxHeartbeats 8000000 in
theorem cs_1 {X : List Int32} : am_mt X 1 [.ref 0] [.inr (.inr (.inr (11, [.null, .null, .null, .null, .null, .null, .null, .null, .null, .int 0, .int 0])))] = some (none, cs_M1) := by
  rw [as_mt (n := 2) (by decide +kernel), show am_ent 2 [.ref 0] = [some (.ref 0), none] from rfl]
  simp only [q1_0, q1_1, q1_4, q1_5, q1_7, q1_10, q1_13, q1_14, q1_16, q1_18, q1_21, q1_22, q1_23, q1_24, q1_25, q1_28, q1_29, q1_32, q1_33, q1_34, q1_37, q1_38, q1_41, q1_42, q1_45, q1_46, q1_49, q1_50, q1_53, q1_54, q1_55, q1_58, q1_59, q1_60, q1_61, q1_64, q1_67, q1_68, q1_70, q1_72, q1_75, q1_76, q1_79, q1_80, q1_83, q1_86, q1_87, q1_90, q1_91, q1_94, q1_97, q1_98, q1_101, q1_102, q1_105, q1_108, q1_109, q1_112, q1_113, q1_116, q1_119, q1_120, q1_123, q1_124, q1_125, q1_128, q1_128n, q1_131, q1_134, q1_135, q1_138, q1_139, q1_142, q1_145, q1_146, q1_147, q1_150, q1_151, q1_152, q1_155, q2_0, q2_1, q2_4, q2_5, q2_8, q2_10, q2_13, q3_0, q3_1, q3_4, q3_5, q3_7, q3_10, q3_13, q3_14, q3_16, q3_18, q3_21, q3_22, q3_23, q3_26, q3_27, q3_29, q3_32, q3_33, q3_34, q3_37, q3_38, q3_39, q3_42, q3_43, q3_46, q3_49, q3_50, q3_52, q3_55, q3_56, q3_57, q3_60, q3_61, q3_62, q3_65, q3_66, q3_67, q3_70, q3_71, q3_72, q3_75, q3_76, q3_77, q3_80, q3_81, q3_82, q3_85, q3_86, q3_87, q3_90, q3_91, q3_92, q3_93, q3_94, q3_97, q3_98, q3_101, q3_102, q3_105, q3_106, q3_107, q3_108, q3_111, q3_114, q4_0, q4_1, q4_4, q4_5, q4_7, q4_9, q4_12, q4_13, q4_16, q4_18, q4_21, q4_22, q4_25, q4_27, q4_30, q5_0, q5_1, q5_4, q5_5, q5_6, q5_9, q5_10, q5_11, q5_14, q5_15, q5_16, q5_19, q5_20, q5_21, q5_24, q5_25, q5_26, q5_29, q5_30, q5_31, q5_34, q5_35, q5_35n, q5_36, q5_39, cs_2, cs_3, cs_4, cs_5, ↓rp8, ↓rp6, rp8n, am_cls, am_gf, am_pf, am_okT, am_len, am_iset, am_aset, am_takes, Option.any_some, List.length_append, List.length_replicate, List.cons_append, List.nil_append, Nat.zero_add, Int32.reduceOfNat, Int32.reduceToNatClampNeg, Nat.not_lt_zero, Nat.lt_add_one, decide_true, decide_false, Bool.or_true, Bool.or_false, Bool.true_or, Bool.false_or, Nat.reduceEqDiff, and_self, or_self, Nat.reduceLT, List.replicate_zero, as_10, as_01, Nat.reduceBEq, Nat.reduceEqDiff, ↓reduceIte, Option.bind_some, Option.getD_some, Option.isSome_some, Option.isSome_none, Bool.false_eq_true, Option.toList, List.nil_append, List.cons_append, List.lookup, Option.isSome, List.getElem?_cons_zero, List.getElem?_cons_succ, beq_self_eq_true, if_true, true_or, or_true, or_false, false_or, am_kl, true_and, and_true, and_false, false_and, if_false, not_true_eq_false, not_false_eq_true, as_b0, as_b1, as_em, as_ne, List.length_cons, List.length_nil, Nat.reduceAdd, Int32.reduceLT, Int32.reduceLE, Int32.reduceAdd, Int32.reduceSub, Int32.neg_neg, Int32.reduceMul, Int32.reduceToNatClampNeg, Nat.reduceLeDiff, Nat.reduceLT, List.set_cons_zero, List.set_cons_succ, List.length_set, en_at, en_uu, en_gd]
  rfl
def cs_M2 : am_Mem := [
  .inr (.inr (.inr (12, [.int 0, .int 30, .int 5, .int 3, .int 400, .int 15, .int 0, .int 0, .int 1, .int 0, .int 0, .int 0, .int 1, .int (-1), .ref 37, .ref 38, .ref 39, .ref 40, .ref 41, .ref 42, .ref 43, .ref 44, .ref 45, .ref 46, .ref 47, .ref 48, .ref 49, .ref 50, .ref 51, .int 0, .int 0, .int 0, .int 0, .int 0, .ref 52, .ref 53, .ref 54, .ref 55, .int 0, .ref 56, .int 0, .int 0]))),
  .inl (List.replicate 8 0),
  .inl (List.replicate 12 0),
  .inl (List.replicate 12 0),
  .inl [-1, -1, -1, -1, -1, -1],
  .inl (List.replicate 8 0),
  .inl (List.replicate 8 0),
  .inl (List.replicate 8 0),
  .inl (List.replicate 8 0),
  .inr (.inl (List.replicate 1280 0)),
  .inr (.inl (List.replicate 160 0)),
  .inl [0, 0, 0, 0, 1],
  .inl [60, 5, 9, 1000, 25],
  .inl md_words,
  .inl [2, 2, 0, 1, 2, 1, 1, 1],
  .inl (List.replicate 2 0),
  .inl (List.replicate 60 0),
  .inl (List.replicate 60 0),
  .inl (List.replicate 6 0),
  .inl (List.replicate 8112 0),
  .inl (List.replicate 20 0)]
theorem cs_rp5 : (List.replicate 5 0 : List Int32) = [0, 0, 0, 0, 0] := rfl
theorem cs_rp51 : (List.replicate 51 0 : List Int32) = [0, 0, 0, 0, 0, 0, 0, 0, 0, 0, 0, 0, 0, 0, 0, 0, 0, 0, 0, 0, 0, 0, 0, 0, 0, 0, 0, 0, 0, 0, 0, 0, 0, 0, 0, 0, 0, 0, 0, 0, 0, 0, 0, 0, 0, 0, 0, 0, 0, 0, 0] := rfl
set_option maxRecDepth 100000 in
set_option maxHeartbeats 8000000 in
theorem cs_164 {X : List Int32} : am_mt X 164 [.ref 36] (cs_M1 ++ [.inr (.inr (.inr (12, [.int 0, .int 0, .int 0, .int 0, .int 0, .int 0, .int 0, .int 0, .int 0, .int 0, .int 0, .int 0, .int 0, .int 0, .null, .null, .null, .null, .null, .null, .null, .null, .null, .null, .null, .null, .null, .null, .null, .int 0, .int 0, .int 0, .int 0, .int 0, .null, .null, .null, .null, .int 0, .null, .int 0, .int 0])))]) = some (none, cs_M1 ++ cs_M2) := by
  rw [as_mt (n := 1) (by decide +kernel), show am_ent 1 [.ref 36] = [some (.ref 36)] from rfl]
  simp only [cs_M1, List.cons_append, List.nil_append]
  simp only [q164_0, q164_1, q164_4, q164_5, q164_7, q164_10, q164_11, q164_12, q164_15, q164_16, q164_17, q164_20, q164_21, q164_24, q164_27, q164_28, q164_30, q164_33, q164_34, q164_35, q164_38, q164_39, q164_40, q164_43, q164_44, q164_45, q164_48, q164_49, q164_51, q164_53, q164_56, q164_57, q164_59, q164_61, q164_64, q164_65, q164_67, q164_69, q164_72, q164_73, q164_75, q164_77, q164_78, q164_79, q164_80, q164_81, q164_82, q164_83, q164_84, q164_85, q164_86, q164_87, q164_88, q164_89, q164_90, q164_91, q164_92, q164_93, q164_94, q164_95, q164_96, q164_97, q164_98, q164_99, q164_100, q164_101, q164_104, q164_105, q164_107, q164_109, q164_112, q164_113, q164_115, q164_117, q164_120, q164_121, q164_123, q164_125, q164_128, q164_129, q164_131, q164_133, q164_136, q164_137, q164_140, q164_142, q164_145, q164_146, q164_149, q164_151, q164_154, q164_155, q164_156, q164_158, q164_159, q164_160, q164_161, q164_162, q164_163, q164_164, q164_165, q164_166, q164_167, q164_168, q164_169, q164_170, q164_171, q164_172, q164_173, q164_174, q164_175, q164_176, q164_177, q164_178, q164_181, q164_182, q164_183, q164_185, q164_186, q164_187, q164_189, q164_190, q164_191, q164_192, q164_193, q164_194, q164_195, q164_196, q164_198, q164_199, q164_200, q164_201, q164_204, q164_205, q164_206, q164_207, q164_209, q164_210, q164_213, q164_214, q164_216, q164_218, q164_219, q164_220, q164_222, q164_223, q164_224, q164_225, q164_227, q164_228, q164_229, q164_230, q164_232, q164_233, q164_234, q164_235, q164_237, q164_238, q164_239, q164_240, q164_242, q164_243, q164_244, q164_245, q164_247, q164_248, q164_249, q164_251, q164_253, q164_254, q164_255, q164_257, q164_258, q164_259, q164_260, q164_262, q164_264, q164_265, q164_266, q164_268, q164_270, q164_271, q164_272, q164_274, q164_276, q164_277, q164_278, q164_280, q164_281, q164_282, q164_283, q164_285, q164_287, q164_288, q164_289, q164_291, q164_293, q164_294, q164_295, q164_297, q164_299, q164_300, q164_301, q164_303, q164_305, q164_306, q164_307, q164_309, q164_310, q164_311, q164_312, q164_314, q164_316, q164_317, q164_318, q164_320, q164_322, q164_323, q164_324, q164_326, q164_328, q164_329, q164_330, q164_332, q164_334, q164_335, q164_336, q164_338, q164_340, q164_341, q164_342, q164_344, q164_346, q164_347, q164_348, q164_350, q164_351, q164_352, q164_353, q164_355, q164_357, q164_358, q164_359, q164_361, q164_363, q164_364, q164_365, q164_367, q164_369, q164_370, q164_371, q164_373, q164_375, q164_376, q164_377, q164_379, q164_381, q164_382, q164_383, q164_385, q164_387, q164_388, q164_389, q164_391, q164_392, q164_393, q164_394, q164_396, q164_398, q164_399, q164_400, q164_402, q164_404, q164_405, q164_406, q164_408, q164_410, q164_411, q164_412, q164_414, q164_416, q164_417, q164_418, q164_420, q164_422, q164_423, q164_424, q164_426, q164_428, q164_429, q164_430, q164_432, q164_433, q164_434, q164_435, q164_437, q164_439, q164_440, q164_441, q164_443, q164_445, q164_446, q164_447, q164_449, q164_451, q164_452, q164_453, q164_455, q164_457, q164_458, q164_459, q164_461, q164_463, q164_464, q164_465, q164_467, q164_468, q164_469, q164_470, q164_472, q164_474, q164_475, q164_476, q164_478, q164_480, q164_481, q164_482, q164_484, q164_486, q164_487, q164_488, q164_490, q164_492, q164_493, q164_494, q164_496, q164_498, q164_499, q164_500, q164_502, q164_504, q164_505, q164_506, q164_508, q164_509, q164_510, q164_513, q164_514, q164_516, q164_518, q164_519, q164_520, q164_521, q164_522, q164_523, q164_524, q164_525, q164_526, q164_527, q164_528, q164_529, q164_530, q164_531, q164_532, q164_533, q164_534, q164_535, q164_536, q164_537, q164_538, q164_539, q164_540, q164_541, q164_542, q164_543, q164_545, q164_546, q164_547, q164_548, q164_550, q164_551, q164_552, q164_555, q164_556, q164_557, q164_559, q164_562, q164_563, q164_565, q164_567, q164_570, q164_571, q164_573, q164_575, q164_578, q164_579, q164_581, q164_583, q164_586, q164_587, q164_590, q164_592, q164_595, q164_596, q164_598, q164_600, q164_603, ↓cs_rp5, ↓cs_rp51, ↓rp6, am_cls, am_gf, am_pf, am_okT, am_len, am_iset, am_aset, am_takes, Option.any_some, List.length_append, List.length_replicate, List.cons_append, List.nil_append, Nat.zero_add, Int32.reduceOfNat, Int32.reduceToNatClampNeg, Nat.not_lt_zero, Nat.lt_add_one, decide_true, decide_false, Bool.or_true, Bool.or_false, Bool.true_or, Bool.false_or, Nat.reduceEqDiff, and_self, or_self, Nat.reduceLT, List.replicate_zero, as_10, as_01, Nat.reduceBEq, Nat.reduceEqDiff, ↓reduceIte, Option.bind_some, Option.getD_some, Option.isSome_some, Option.isSome_none, Bool.false_eq_true, Option.toList, List.nil_append, List.cons_append, List.lookup, Option.isSome, List.getElem?_cons_zero, List.getElem?_cons_succ, beq_self_eq_true, if_true, true_or, or_true, or_false, false_or, am_kl, true_and, and_true, and_false, false_and, if_false, not_true_eq_false, not_false_eq_true, as_b0, as_b1, as_em, as_ne, List.length_cons, List.length_nil, Nat.reduceAdd, Int32.reduceLT, Int32.reduceLE, Int32.reduceAdd, Int32.reduceSub, Int32.neg_neg, Int32.reduceMul, Int32.reduceToNatClampNeg, Nat.reduceLeDiff, Nat.reduceLT, List.set_cons_zero, List.set_cons_succ, List.length_set, en_at, en_uu, en_gd]
  rfl
def cs_I (k j : Nat) : Int32 := match (cs_M1 ++ cs_M2)[k]? with
  | some (.inr (.inr (.inr (_, fs)))) => match fs[j]? with
    | some (.int x) => x
    | _ => 0
  | _ => 0
def cs_A (k : Nat) : List Int32 := match (cs_M1 ++ cs_M2)[k]? with
  | some (.inl xs) => xs
  | _ => []
def cs_L (k : Nat) : List Int64 := match (cs_M1 ++ cs_M2)[k]? with
  | some (.inr (.inl xs)) => xs
  | _ => []
def cs_V (k : Nat) : List Value := match (cs_M1 ++ cs_M2)[k]? with
  | some (.inr (.inr (.inl (_, xs)))) => xs
  | _ => []
theorem cs_E : cs_M1 ++ cs_M2 = en_E cs_I cs_A cs_L cs_V .null [] := rfl
theorem cs_R : md_RX cs_I cs_A cs_L cs_V [] := by
  refine ⟨[], [], [], [], ?_⟩
  unfold md_R
  have n0 : md_psQ [] [] [] := ⟨rfl, fun k r c a h => by simp at h⟩
  refine ⟨⟨?_, ?_, rfl, ⟨rfl, ?_, ?_⟩, ⟨rfl, rfl, by decide, fun k hk => absurd hk (by simp), fun q hq => by simp at hq⟩, rfl, rfl, n0⟩, ⟨rfl, Or.inl rfl, rfl, rfl, by decide, List.length_replicate, n0, fun h => absurd h (by decide +kernel)⟩, ⟨⟨rfl, rfl, rfl, rfl, rfl, List.length_replicate⟩, ?_⟩, ⟨rfl, rfl, by decide +kernel⟩, rfl, ⟨List.length_replicate, rfl, 0, by decide, rfl, rfl, fun i hi => absurd hi (by omega)⟩, ⟨rfl, List.length_replicate, List.length_replicate, rfl, List.length_replicate, rfl, List.length_replicate, rfl, List.length_replicate, [], rfl, by decide⟩, fun x hx => by simp at hx⟩
  · unfold md_EQ; decide +kernel
  · exact ⟨⟨30, by decide, rfl⟩, ⟨5, by decide, rfl⟩, ⟨3, by decide, rfl⟩, ⟨400, by decide, rfl⟩, ⟨15, 0, 0, by decide, by decide, by decide, by decide, rfl, rfl, rfl⟩, Or.inr rfl⟩
  · have h : ∀ i, i < 6 → (cs_A 22).getD i (-1) = -1 := by decide +kernel
    exact fun i hi => Or.inl (h i hi)
  · have h : ∀ i, i < 6 → (cs_A 22).getD i (-1) = -1 := by decide +kernel
    exact fun i j hi hj _ => Or.inl (h i hi)
  · intro s hs
    have h : s = 0 ∨ s = 1 ∨ s = 2 ∨ s = 3 ∨ s = 4 ∨ s = 5 ∨ s = 6 ∨ s = 7 := by omega
    rcases h with h | h | h | h | h | h | h | h <;> subst h <;> exact ⟨List.length_replicate, ⟨0, by decide, rfl⟩, Or.inl ⟨rfl, rfl⟩⟩
