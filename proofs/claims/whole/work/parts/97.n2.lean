def lp_i : Instr → Bool
  | .ireturn => true
  | _ => false
def lp_l : Instr → Bool
  | .lreturn => true
  | _ => false
theorem lp_mem {α : Type} {k : Nat} {v : α} : ∀ {l : List (Nat × α)}, l.lookup k = some v → (k, v) ∈ l
  | [], h => by simp at h
  | (a, b) :: t, h => by
    rw [List.lookup_cons] at h
    split at h
    · next h1 =>
      cases h
      have : k = a := by simpa using h1
      subst this
      exact List.mem_cons_self ..
    · exact List.mem_cons_of_mem _ (lp_mem h)
theorem lp_exi {X : List Int32} {pc n : Nat} {i : Instr} {d : am_Dt} {ls : am_Lc} {st : List Value} {M : am_Mem} {rv : Option Value} (h : am_ex X pc i n d ls st M = some (.inr (.inl rv))) (hi : lp_i i = true) : ∃ x, rv = some (.int x) := by
  cases i <;> first
    | (cases hi; done)
    | (simp only [am_ex] at h
       split at h
       · split at h
         · cases h
         · cases h; exact ⟨_, rfl⟩
       · cases h)
theorem lp_exl {X : List Int32} {pc n : Nat} {i : Instr} {d : am_Dt} {ls : am_Lc} {st : List Value} {M : am_Mem} {rv : Option Value} (h : am_ex X pc i n d ls st M = some (.inr (.inl rv))) (hi : lp_l i = true) : ∃ x, rv = some (.long x) := by
  cases i <;> first
    | (cases hi; done)
    | (simp only [am_ex] at h
       split at h
       · cases h; exact ⟨_, rfl⟩
       · cases h)
theorem lp_run {X : List Int32} {m : Nat} {P : Option Value → Prop} (hm : ∀ (pc : Nat) (q : Instr × Nat × am_Dt) (ls : am_Lc) (st : List Value) (M : am_Mem) (rv : Option Value), am_at m pc = some q → am_ex X pc q.1 q.2.1 q.2.2 ls st M = some (.inr (.inl rv)) → P rv) : ∀ (n pc : Nat) (ls : am_Lc) (st : List Value) (M : am_Mem) (r : am_V), am_run X n m pc ls st M = some r → P r.1 := by
  intro n
  induction n with
  | zero => intro pc ls st M r h; simp [am_run] at h
  | succ n ih =>
    intro pc ls st M r h
    simp only [am_run] at h
    cases hq : am_at m pc with
    | none => rw [hq] at h; cases h
    | some q =>
      rw [hq] at h
      dsimp only at h
      cases hx : am_ex X pc q.1 q.2.1 q.2.2 ls st M with
      | none => rw [hx] at h; cases h
      | some z =>
        rw [hx] at h
        rcases z with ⟨pc', ls', st', M'⟩ | rv | ⟨f, As, pc', st'⟩
        · exact ih _ _ _ _ _ h
        · cases h; exact hm pc q ls st M rv hq hx
        · dsimp only at h
          split at h
          · split at h
            · cases h
            · exact ih _ _ _ _ _ h
          · cases h
theorem lp_int {X : List Int32} {m : Nat} {as : List Value} {M M1 : am_Mem} {v : Value} (hm : (am_KK.getD m []).all (fun e => !am_isRet e.2.1 || lp_i e.2.1) = true) (h : am_mt X m as M = some (some v, M1)) : ∃ x, v = .int x := by
  obtain ⟨n, hn⟩ := am_go_iff.mp h
  obtain ⟨x, hx⟩ := lp_run (P := fun r => ∃ x, r = some (.int x)) (fun pc q ls st M rv hq hx => by
    have h1 := List.all_eq_true.mp hm _ (lp_mem hq)
    dsimp only at h1
    rw [am_ex_ret hx] at h1
    exact lp_exi hx (by simpa using h1)) n _ _ _ _ _ hn
  cases hx
  exact ⟨x, rfl⟩
theorem lp_long {X : List Int32} {m : Nat} {as : List Value} {M M1 : am_Mem} {v : Value} (hm : (am_KK.getD m []).all (fun e => !am_isRet e.2.1 || lp_l e.2.1) = true) (h : am_mt X m as M = some (some v, M1)) : ∃ x, v = .long x := by
  obtain ⟨n, hn⟩ := am_go_iff.mp h
  obtain ⟨x, hx⟩ := lp_run (P := fun r => ∃ x, r = some (.long x)) (fun pc q ls st M rv hq hx => by
    have h1 := List.all_eq_true.mp hm _ (lp_mem hq)
    dsimp only at h1
    rw [am_ex_ret hx] at h1
    exact lp_exl hx (by simpa using h1)) n _ _ _ _ _ hn
  cases hx
  exact ⟨x, rfl⟩
def lp_L (i : Nat) : am_Lc := [some (.retAddr 0), some (.ref 0), some (.ref 36), some (.int (Int32.ofNat i))]
def lp_N (X : List Int32) (i pc : Nat) (I : Nat → Nat → Int32) (A : Nat → List Int32) (L : Nat → List Int64) (V : Nat → List Value) (W : Value) (Q : am_Mem) : Prop := ∃ (I2 : Nat → Nat → Int32) (A2 : Nat → List Int32) (L2 : Nat → List Int64) (V2 : Nat → List Value) (W2 : Value) (Q2 : am_Mem), am_go X 0 pc (lp_L i) [] (en_E I A L V W Q) = am_go X 0 18 (lp_L (i + 6)) [] (en_E I2 A2 L2 V2 W2 Q2) ∧ md_RX I2 A2 L2 V2 Q2 ∧ Q2.length ≤ Q.length + 200
theorem lp_x {X : List Int32} {i : Nat} (h : i < X.length) : X[i]? = some (X.getD i 0) := by
  rw [List.getElem?_eq_getElem h, List.getD_eq_getElem?_getD, List.getElem?_eq_getElem h]; rfl
theorem lp_lc {x : Int64} : am_lc x x = 0 := by
  unfold am_lc
  rw [if_neg (Int64.lt_irrefl), if_pos rfl]
theorem lp_0 {X : List Int32} {i : Nat} {I : Nat → Nat → Int32} {A : Nat → List Int32} {L : Nat → List Int64} {V : Nat → List Value} {W : Value} {Q : am_Mem} (hi : i + 6 ≤ X.length) (hX : X.length ≤ 3072) (S : md_Stp X 6 165 [.int (X.getD (i + 1) 0), .int (X.getD (i + 2) 0), .int (X.getD (i + 3) 0)] I A L V W Q) : lp_N X i 216 I A L V W Q := by
  obtain ⟨v, I1, A1, L1, V1, W1, Q1, I2, A2, L2, V2, W2, Q2, h1, h2, h3, h4⟩ := S
  obtain ⟨x, rfl⟩ := lp_int (by decide +kernel) h1
  refine ⟨I2, A2, L2, V2, W2, Q2, ?_, h3, h4⟩
  have g1 : Int32.ofNat i + 1 = Int32.ofNat (i + 1) := as_add
  have n1 := as_nat (show i + 1 < 2147483648 by omega)
  have p1 := as_pos (show i + 1 < 2147483648 by omega)
  have x1 := lp_x (show i + 1 < X.length by omega)
  have g2 : Int32.ofNat i + 2 = Int32.ofNat (i + 2) := as_add
  have n2 := as_nat (show i + 2 < 2147483648 by omega)
  have p2 := as_pos (show i + 2 < 2147483648 by omega)
  have x2 := lp_x (show i + 2 < X.length by omega)
  have g3 : Int32.ofNat i + 3 = Int32.ofNat (i + 3) := as_add
  have n3 := as_nat (show i + 3 < 2147483648 by omega)
  have p3 := as_pos (show i + 3 < 2147483648 by omega)
  have x3 := lp_x (show i + 3 < X.length by omega)
  have g6 : Int32.ofNat i + 6 = Int32.ofNat (i + 6) := as_add
  unfold lp_L
  simp only [q0_216, q0_216n, q0_217, q0_218, q0_219, q0_220, q0_221, q0_222, q0_223, q0_224, q0_225, q0_226, q0_227, q0_228, q0_229, q0_230, q0_231, q0_232, q0_235, q0_235n, q0_236, q0_237, q0_238, q0_239, q0_240, q0_241, q0_242, q0_243, q0_244, q0_245, q0_246, q0_247, q0_248, q0_249, q0_250, q0_251, q0_254, q0_257, q0_258, q0_1463, q0_1466, g1, n1, p1, x1, g2, n2, p2, x2, g3, n3, p3, x3, g6, h1, h2, en_c0, en_c36, lp_lc, as_10, as_01, Nat.reduceBEq, Nat.reduceEqDiff, ↓reduceIte, Option.bind_some, Option.getD_some, Option.isSome_some, Option.isSome_none, Bool.false_eq_true, Option.toList, List.nil_append, List.cons_append, List.lookup, Option.isSome, List.getElem?_cons_zero, List.getElem?_cons_succ, beq_self_eq_true, if_true, true_or, or_true, or_false, false_or, am_kl, true_and, and_true, and_false, false_and, if_false, not_true_eq_false, not_false_eq_true, as_b0, as_b1, as_em, as_ne, List.length_cons, List.length_nil, Nat.reduceAdd, Int32.reduceLT, Int32.reduceLE, Int32.reduceAdd, Int32.reduceSub, Int32.neg_neg, Int32.reduceMul, Int32.reduceToNatClampNeg, Nat.reduceLeDiff, Nat.reduceLT, List.set_cons_zero, List.set_cons_succ, List.length_set, en_at, en_uu, en_gd]

theorem lp_1 {X : List Int32} {i : Nat} {I : Nat → Nat → Int32} {A : Nat → List Int32} {L : Nat → List Int64} {V : Nat → List Value} {W : Value} {Q : am_Mem} (hi : i + 6 ≤ X.length) (hX : X.length ≤ 3072) (S : md_Stp X 13 168 [.int (X.getD (i + 1) 0), .int (X.getD (i + 2) 0), .long ((X.getD (i + 3) 0).toInt64 <<< (Int32.toInt64 32 &&& 63) ||| (X.getD (i + 4) 0).toInt64 &&& 4294967295)] I A L V W Q) : lp_N X i 259 I A L V W Q := by
  obtain ⟨v, I1, A1, L1, V1, W1, Q1, I2, A2, L2, V2, W2, Q2, h1, h2, h3, h4⟩ := S
  obtain ⟨x, rfl⟩ := lp_int (by decide +kernel) h1
  refine ⟨I2, A2, L2, V2, W2, Q2, ?_, h3, h4⟩
  have g1 : Int32.ofNat i + 1 = Int32.ofNat (i + 1) := as_add
  have n1 := as_nat (show i + 1 < 2147483648 by omega)
  have p1 := as_pos (show i + 1 < 2147483648 by omega)
  have x1 := lp_x (show i + 1 < X.length by omega)
  have g2 : Int32.ofNat i + 2 = Int32.ofNat (i + 2) := as_add
  have n2 := as_nat (show i + 2 < 2147483648 by omega)
  have p2 := as_pos (show i + 2 < 2147483648 by omega)
  have x2 := lp_x (show i + 2 < X.length by omega)
  have g3 : Int32.ofNat i + 3 = Int32.ofNat (i + 3) := as_add
  have n3 := as_nat (show i + 3 < 2147483648 by omega)
  have p3 := as_pos (show i + 3 < 2147483648 by omega)
  have x3 := lp_x (show i + 3 < X.length by omega)
  have g4 : Int32.ofNat i + 4 = Int32.ofNat (i + 4) := as_add
  have n4 := as_nat (show i + 4 < 2147483648 by omega)
  have p4 := as_pos (show i + 4 < 2147483648 by omega)
  have x4 := lp_x (show i + 4 < X.length by omega)
  have g6 : Int32.ofNat i + 6 = Int32.ofNat (i + 6) := as_add
  unfold lp_L
  simp only [q0_259, q0_259n, q0_260, q0_261, q0_262, q0_263, q0_264, q0_265, q0_266, q0_267, q0_268, q0_269, q0_270, q0_271, q0_272, q0_273, q0_274, q0_275, q0_276, q0_278, q0_279, q0_280, q0_281, q0_282, q0_283, q0_284, q0_285, q0_288, q0_289, q0_290, q0_293, q0_293n, q0_294, q0_295, q0_296, q0_297, q0_298, q0_299, q0_300, q0_301, q0_302, q0_303, q0_304, q0_305, q0_306, q0_307, q0_308, q0_309, q0_310, q0_312, q0_313, q0_314, q0_315, q0_316, q0_317, q0_318, q0_319, q0_322, q0_323, q0_324, q0_327, q0_330, q0_331, q0_1463, q0_1466, g1, n1, p1, x1, g2, n2, p2, x2, g3, n3, p3, x3, g4, n4, p4, x4, g6, h1, h2, en_c0, en_c36, lp_lc, as_10, as_01, Nat.reduceBEq, Nat.reduceEqDiff, ↓reduceIte, Option.bind_some, Option.getD_some, Option.isSome_some, Option.isSome_none, Bool.false_eq_true, Option.toList, List.nil_append, List.cons_append, List.lookup, Option.isSome, List.getElem?_cons_zero, List.getElem?_cons_succ, beq_self_eq_true, if_true, true_or, or_true, or_false, false_or, am_kl, true_and, and_true, and_false, false_and, if_false, not_true_eq_false, not_false_eq_true, as_b0, as_b1, as_em, as_ne, List.length_cons, List.length_nil, Nat.reduceAdd, Int32.reduceLT, Int32.reduceLE, Int32.reduceAdd, Int32.reduceSub, Int32.neg_neg, Int32.reduceMul, Int32.reduceToNatClampNeg, Nat.reduceLeDiff, Nat.reduceLT, List.set_cons_zero, List.set_cons_succ, List.length_set, en_at, en_uu, en_gd]

theorem lp_2 {X : List Int32} {i : Nat} {I : Nat → Nat → Int32} {A : Nat → List Int32} {L : Nat → List Int64} {V : Nat → List Value} {W : Value} {Q : am_Mem} (hi : i + 6 ≤ X.length) (hX : X.length ≤ 3072) (S : md_Stp X 19 169 [.int (X.getD (i + 1) 0), .int (X.getD (i + 2) 0), .int (X.getD (i + 3) 0), .int (X.getD (i + 4) 0), .int (X.getD (i + 5) 0)] I A L V W Q) : lp_N X i 332 I A L V W Q := by
  obtain ⟨v, I1, A1, L1, V1, W1, Q1, I2, A2, L2, V2, W2, Q2, h1, h2, h3, h4⟩ := S
  obtain ⟨x, rfl⟩ := lp_int (by decide +kernel) h1
  refine ⟨I2, A2, L2, V2, W2, Q2, ?_, h3, h4⟩
  have g1 : Int32.ofNat i + 1 = Int32.ofNat (i + 1) := as_add
  have n1 := as_nat (show i + 1 < 2147483648 by omega)
  have p1 := as_pos (show i + 1 < 2147483648 by omega)
  have x1 := lp_x (show i + 1 < X.length by omega)
  have g2 : Int32.ofNat i + 2 = Int32.ofNat (i + 2) := as_add
  have n2 := as_nat (show i + 2 < 2147483648 by omega)
  have p2 := as_pos (show i + 2 < 2147483648 by omega)
  have x2 := lp_x (show i + 2 < X.length by omega)
  have g3 : Int32.ofNat i + 3 = Int32.ofNat (i + 3) := as_add
  have n3 := as_nat (show i + 3 < 2147483648 by omega)
  have p3 := as_pos (show i + 3 < 2147483648 by omega)
  have x3 := lp_x (show i + 3 < X.length by omega)
  have g4 : Int32.ofNat i + 4 = Int32.ofNat (i + 4) := as_add
  have n4 := as_nat (show i + 4 < 2147483648 by omega)
  have p4 := as_pos (show i + 4 < 2147483648 by omega)
  have x4 := lp_x (show i + 4 < X.length by omega)
  have g5 : Int32.ofNat i + 5 = Int32.ofNat (i + 5) := as_add
  have n5 := as_nat (show i + 5 < 2147483648 by omega)
  have p5 := as_pos (show i + 5 < 2147483648 by omega)
  have x5 := lp_x (show i + 5 < X.length by omega)
  have g6 : Int32.ofNat i + 6 = Int32.ofNat (i + 6) := as_add
  unfold lp_L
  simp only [q0_332, q0_332n, q0_333, q0_334, q0_335, q0_336, q0_337, q0_338, q0_339, q0_340, q0_341, q0_342, q0_343, q0_344, q0_345, q0_346, q0_347, q0_348, q0_349, q0_350, q0_351, q0_352, q0_353, q0_354, q0_355, q0_356, q0_357, q0_358, q0_361, q0_361n, q0_362, q0_363, q0_364, q0_365, q0_366, q0_367, q0_368, q0_369, q0_370, q0_371, q0_372, q0_373, q0_374, q0_375, q0_376, q0_377, q0_378, q0_379, q0_380, q0_381, q0_382, q0_383, q0_384, q0_385, q0_386, q0_387, q0_390, q0_393, q0_394, q0_1463, q0_1466, g1, n1, p1, x1, g2, n2, p2, x2, g3, n3, p3, x3, g4, n4, p4, x4, g5, n5, p5, x5, g6, h1, h2, en_c0, en_c36, lp_lc, as_10, as_01, Nat.reduceBEq, Nat.reduceEqDiff, ↓reduceIte, Option.bind_some, Option.getD_some, Option.isSome_some, Option.isSome_none, Bool.false_eq_true, Option.toList, List.nil_append, List.cons_append, List.lookup, Option.isSome, List.getElem?_cons_zero, List.getElem?_cons_succ, beq_self_eq_true, if_true, true_or, or_true, or_false, false_or, am_kl, true_and, and_true, and_false, false_and, if_false, not_true_eq_false, not_false_eq_true, as_b0, as_b1, as_em, as_ne, List.length_cons, List.length_nil, Nat.reduceAdd, Int32.reduceLT, Int32.reduceLE, Int32.reduceAdd, Int32.reduceSub, Int32.neg_neg, Int32.reduceMul, Int32.reduceToNatClampNeg, Nat.reduceLeDiff, Nat.reduceLT, List.set_cons_zero, List.set_cons_succ, List.length_set, en_at, en_uu, en_gd]

theorem lp_3 {X : List Int32} {i : Nat} {I : Nat → Nat → Int32} {A : Nat → List Int32} {L : Nat → List Int64} {V : Nat → List Value} {W : Value} {Q : am_Mem} (hi : i + 6 ≤ X.length) (hX : X.length ≤ 3072) (S : md_Stp X 23 170 [.int (X.getD (i + 1) 0), .int (X.getD (i + 2) 0)] I A L V W Q) : lp_N X i 395 I A L V W Q := by
  obtain ⟨v, I1, A1, L1, V1, W1, Q1, I2, A2, L2, V2, W2, Q2, h1, h2, h3, h4⟩ := S
  obtain ⟨x, rfl⟩ := lp_long (by decide +kernel) h1
  refine ⟨I2, A2, L2, V2, W2, Q2, ?_, h3, h4⟩
  have g1 : Int32.ofNat i + 1 = Int32.ofNat (i + 1) := as_add
  have n1 := as_nat (show i + 1 < 2147483648 by omega)
  have p1 := as_pos (show i + 1 < 2147483648 by omega)
  have x1 := lp_x (show i + 1 < X.length by omega)
  have g2 : Int32.ofNat i + 2 = Int32.ofNat (i + 2) := as_add
  have n2 := as_nat (show i + 2 < 2147483648 by omega)
  have p2 := as_pos (show i + 2 < 2147483648 by omega)
  have x2 := lp_x (show i + 2 < X.length by omega)
  have g6 : Int32.ofNat i + 6 = Int32.ofNat (i + 6) := as_add
  unfold lp_L
  simp only [q0_395, q0_395n, q0_396, q0_397, q0_398, q0_399, q0_400, q0_401, q0_402, q0_403, q0_404, q0_405, q0_406, q0_409, q0_409n, q0_410, q0_411, q0_412, q0_413, q0_414, q0_415, q0_416, q0_417, q0_418, q0_419, q0_420, q0_423, q0_424, q0_427, q0_428, q0_1463, q0_1466, g1, n1, p1, x1, g2, n2, p2, x2, g6, h1, h2, en_c0, en_c36, lp_lc, as_10, as_01, Nat.reduceBEq, Nat.reduceEqDiff, ↓reduceIte, Option.bind_some, Option.getD_some, Option.isSome_some, Option.isSome_none, Bool.false_eq_true, Option.toList, List.nil_append, List.cons_append, List.lookup, Option.isSome, List.getElem?_cons_zero, List.getElem?_cons_succ, beq_self_eq_true, if_true, true_or, or_true, or_false, false_or, am_kl, true_and, and_true, and_false, false_and, if_false, not_true_eq_false, not_false_eq_true, as_b0, as_b1, as_em, as_ne, List.length_cons, List.length_nil, Nat.reduceAdd, Int32.reduceLT, Int32.reduceLE, Int32.reduceAdd, Int32.reduceSub, Int32.neg_neg, Int32.reduceMul, Int32.reduceToNatClampNeg, Nat.reduceLeDiff, Nat.reduceLT, List.set_cons_zero, List.set_cons_succ, List.length_set, en_at, en_uu, en_gd]

theorem lp_4 {X : List Int32} {i : Nat} {I : Nat → Nat → Int32} {A : Nat → List Int32} {L : Nat → List Int64} {V : Nat → List Value} {W : Value} {Q : am_Mem} (hi : i + 6 ≤ X.length) (hX : X.length ≤ 3072) (S : md_Stp X 25 171 [.int (X.getD (i + 1) 0), .int (X.getD (i + 2) 0)] I A L V W Q) : lp_N X i 429 I A L V W Q := by
  obtain ⟨v, I1, A1, L1, V1, W1, Q1, I2, A2, L2, V2, W2, Q2, h1, h2, h3, h4⟩ := S
  obtain ⟨x, rfl⟩ := lp_int (by decide +kernel) h1
  refine ⟨I2, A2, L2, V2, W2, Q2, ?_, h3, h4⟩
  have g1 : Int32.ofNat i + 1 = Int32.ofNat (i + 1) := as_add
  have n1 := as_nat (show i + 1 < 2147483648 by omega)
  have p1 := as_pos (show i + 1 < 2147483648 by omega)
  have x1 := lp_x (show i + 1 < X.length by omega)
  have g2 : Int32.ofNat i + 2 = Int32.ofNat (i + 2) := as_add
  have n2 := as_nat (show i + 2 < 2147483648 by omega)
  have p2 := as_pos (show i + 2 < 2147483648 by omega)
  have x2 := lp_x (show i + 2 < X.length by omega)
  have g6 : Int32.ofNat i + 6 = Int32.ofNat (i + 6) := as_add
  unfold lp_L
  simp only [q0_429, q0_429n, q0_430, q0_431, q0_432, q0_433, q0_434, q0_435, q0_436, q0_437, q0_438, q0_439, q0_440, q0_443, q0_443n, q0_444, q0_445, q0_446, q0_447, q0_448, q0_449, q0_450, q0_451, q0_452, q0_453, q0_454, q0_457, q0_460, q0_461, q0_1463, q0_1466, g1, n1, p1, x1, g2, n2, p2, x2, g6, h1, h2, en_c0, en_c36, lp_lc, as_10, as_01, Nat.reduceBEq, Nat.reduceEqDiff, ↓reduceIte, Option.bind_some, Option.getD_some, Option.isSome_some, Option.isSome_none, Bool.false_eq_true, Option.toList, List.nil_append, List.cons_append, List.lookup, Option.isSome, List.getElem?_cons_zero, List.getElem?_cons_succ, beq_self_eq_true, if_true, true_or, or_true, or_false, false_or, am_kl, true_and, and_true, and_false, false_and, if_false, not_true_eq_false, not_false_eq_true, as_b0, as_b1, as_em, as_ne, List.length_cons, List.length_nil, Nat.reduceAdd, Int32.reduceLT, Int32.reduceLE, Int32.reduceAdd, Int32.reduceSub, Int32.neg_neg, Int32.reduceMul, Int32.reduceToNatClampNeg, Nat.reduceLeDiff, Nat.reduceLT, List.set_cons_zero, List.set_cons_succ, List.length_set, en_at, en_uu, en_gd]

theorem lp_5 {X : List Int32} {i : Nat} {I : Nat → Nat → Int32} {A : Nat → List Int32} {L : Nat → List Int64} {V : Nat → List Value} {W : Value} {Q : am_Mem} (hi : i + 6 ≤ X.length) (hX : X.length ≤ 3072) (S : md_Stp X 27 173 [.int (X.getD (i + 1) 0)] I A L V W Q) : lp_N X i 462 I A L V W Q := by
  obtain ⟨v, I1, A1, L1, V1, W1, Q1, I2, A2, L2, V2, W2, Q2, h1, h2, h3, h4⟩ := S
  obtain ⟨x, rfl⟩ := lp_int (by decide +kernel) h1
  refine ⟨I2, A2, L2, V2, W2, Q2, ?_, h3, h4⟩
  have g1 : Int32.ofNat i + 1 = Int32.ofNat (i + 1) := as_add
  have n1 := as_nat (show i + 1 < 2147483648 by omega)
  have p1 := as_pos (show i + 1 < 2147483648 by omega)
  have x1 := lp_x (show i + 1 < X.length by omega)
  have g6 : Int32.ofNat i + 6 = Int32.ofNat (i + 6) := as_add
  unfold lp_L
  simp only [q0_462, q0_462n, q0_463, q0_464, q0_465, q0_466, q0_467, q0_468, q0_471, q0_471n, q0_472, q0_473, q0_474, q0_475, q0_476, q0_477, q0_480, q0_483, q0_484, q0_1463, q0_1466, g1, n1, p1, x1, g6, h1, h2, en_c0, en_c36, lp_lc, as_10, as_01, Nat.reduceBEq, Nat.reduceEqDiff, ↓reduceIte, Option.bind_some, Option.getD_some, Option.isSome_some, Option.isSome_none, Bool.false_eq_true, Option.toList, List.nil_append, List.cons_append, List.lookup, Option.isSome, List.getElem?_cons_zero, List.getElem?_cons_succ, beq_self_eq_true, if_true, true_or, or_true, or_false, false_or, am_kl, true_and, and_true, and_false, false_and, if_false, not_true_eq_false, not_false_eq_true, as_b0, as_b1, as_em, as_ne, List.length_cons, List.length_nil, Nat.reduceAdd, Int32.reduceLT, Int32.reduceLE, Int32.reduceAdd, Int32.reduceSub, Int32.neg_neg, Int32.reduceMul, Int32.reduceToNatClampNeg, Nat.reduceLeDiff, Nat.reduceLT, List.set_cons_zero, List.set_cons_succ, List.length_set, en_at, en_uu, en_gd]

theorem lp_6 {X : List Int32} {i : Nat} {I : Nat → Nat → Int32} {A : Nat → List Int32} {L : Nat → List Int64} {V : Nat → List Value} {W : Value} {Q : am_Mem} (hi : i + 6 ≤ X.length) (hX : X.length ≤ 3072) (S : md_Stp X 28 174 [.int (X.getD (i + 1) 0), .int (X.getD (i + 2) 0)] I A L V W Q) : lp_N X i 485 I A L V W Q := by
  obtain ⟨v, I1, A1, L1, V1, W1, Q1, I2, A2, L2, V2, W2, Q2, h1, h2, h3, h4⟩ := S
  obtain ⟨x, rfl⟩ := lp_int (by decide +kernel) h1
  refine ⟨I2, A2, L2, V2, W2, Q2, ?_, h3, h4⟩
  have g1 : Int32.ofNat i + 1 = Int32.ofNat (i + 1) := as_add
  have n1 := as_nat (show i + 1 < 2147483648 by omega)
  have p1 := as_pos (show i + 1 < 2147483648 by omega)
  have x1 := lp_x (show i + 1 < X.length by omega)
  have g2 : Int32.ofNat i + 2 = Int32.ofNat (i + 2) := as_add
  have n2 := as_nat (show i + 2 < 2147483648 by omega)
  have p2 := as_pos (show i + 2 < 2147483648 by omega)
  have x2 := lp_x (show i + 2 < X.length by omega)
  have g6 : Int32.ofNat i + 6 = Int32.ofNat (i + 6) := as_add
  unfold lp_L
  simp only [q0_485, q0_485n, q0_486, q0_487, q0_488, q0_489, q0_490, q0_491, q0_492, q0_493, q0_494, q0_495, q0_496, q0_499, q0_499n, q0_500, q0_501, q0_502, q0_503, q0_504, q0_505, q0_506, q0_507, q0_508, q0_509, q0_510, q0_513, q0_516, q0_517, q0_1463, q0_1466, g1, n1, p1, x1, g2, n2, p2, x2, g6, h1, h2, en_c0, en_c36, lp_lc, as_10, as_01, Nat.reduceBEq, Nat.reduceEqDiff, ↓reduceIte, Option.bind_some, Option.getD_some, Option.isSome_some, Option.isSome_none, Bool.false_eq_true, Option.toList, List.nil_append, List.cons_append, List.lookup, Option.isSome, List.getElem?_cons_zero, List.getElem?_cons_succ, beq_self_eq_true, if_true, true_or, or_true, or_false, false_or, am_kl, true_and, and_true, and_false, false_and, if_false, not_true_eq_false, not_false_eq_true, as_b0, as_b1, as_em, as_ne, List.length_cons, List.length_nil, Nat.reduceAdd, Int32.reduceLT, Int32.reduceLE, Int32.reduceAdd, Int32.reduceSub, Int32.neg_neg, Int32.reduceMul, Int32.reduceToNatClampNeg, Nat.reduceLeDiff, Nat.reduceLT, List.set_cons_zero, List.set_cons_succ, List.length_set, en_at, en_uu, en_gd]

theorem lp_7 {X : List Int32} {i : Nat} {I : Nat → Nat → Int32} {A : Nat → List Int32} {L : Nat → List Int64} {V : Nat → List Value} {W : Value} {Q : am_Mem} (hi : i + 6 ≤ X.length) (hX : X.length ≤ 3072) (S : md_Stp X 46 178 [.int (X.getD (i + 1) 0), .int (X.getD (i + 2) 0)] I A L V W Q) : lp_N X i 518 I A L V W Q := by
  obtain ⟨v, I1, A1, L1, V1, W1, Q1, I2, A2, L2, V2, W2, Q2, h1, h2, h3, h4⟩ := S
  obtain ⟨x, rfl⟩ := lp_int (by decide +kernel) h1
  refine ⟨I2, A2, L2, V2, W2, Q2, ?_, h3, h4⟩
  have g1 : Int32.ofNat i + 1 = Int32.ofNat (i + 1) := as_add
  have n1 := as_nat (show i + 1 < 2147483648 by omega)
  have p1 := as_pos (show i + 1 < 2147483648 by omega)
  have x1 := lp_x (show i + 1 < X.length by omega)
  have g2 : Int32.ofNat i + 2 = Int32.ofNat (i + 2) := as_add
  have n2 := as_nat (show i + 2 < 2147483648 by omega)
  have p2 := as_pos (show i + 2 < 2147483648 by omega)
  have x2 := lp_x (show i + 2 < X.length by omega)
  have g6 : Int32.ofNat i + 6 = Int32.ofNat (i + 6) := as_add
  unfold lp_L
  simp only [q0_518, q0_518n, q0_519, q0_520, q0_521, q0_522, q0_523, q0_524, q0_525, q0_526, q0_527, q0_528, q0_529, q0_532, q0_532n, q0_533, q0_534, q0_535, q0_536, q0_537, q0_538, q0_539, q0_540, q0_541, q0_542, q0_543, q0_546, q0_549, q0_550, q0_1463, q0_1466, g1, n1, p1, x1, g2, n2, p2, x2, g6, h1, h2, en_c0, en_c36, lp_lc, as_10, as_01, Nat.reduceBEq, Nat.reduceEqDiff, ↓reduceIte, Option.bind_some, Option.getD_some, Option.isSome_some, Option.isSome_none, Bool.false_eq_true, Option.toList, List.nil_append, List.cons_append, List.lookup, Option.isSome, List.getElem?_cons_zero, List.getElem?_cons_succ, beq_self_eq_true, if_true, true_or, or_true, or_false, false_or, am_kl, true_and, and_true, and_false, false_and, if_false, not_true_eq_false, not_false_eq_true, as_b0, as_b1, as_em, as_ne, List.length_cons, List.length_nil, Nat.reduceAdd, Int32.reduceLT, Int32.reduceLE, Int32.reduceAdd, Int32.reduceSub, Int32.neg_neg, Int32.reduceMul, Int32.reduceToNatClampNeg, Nat.reduceLeDiff, Nat.reduceLT, List.set_cons_zero, List.set_cons_succ, List.length_set, en_at, en_uu, en_gd]

theorem lp_8 {X : List Int32} {i : Nat} {I : Nat → Nat → Int32} {A : Nat → List Int32} {L : Nat → List Int64} {V : Nat → List Value} {W : Value} {Q : am_Mem} (hi : i + 6 ≤ X.length) (hX : X.length ≤ 3072) (S : md_Stp X 57 180 [.int (X.getD (i + 1) 0), .int (X.getD (i + 2) 0)] I A L V W Q) : lp_N X i 551 I A L V W Q := by
  obtain ⟨v, I1, A1, L1, V1, W1, Q1, I2, A2, L2, V2, W2, Q2, h1, h2, h3, h4⟩ := S
  obtain ⟨x, rfl⟩ := lp_int (by decide +kernel) h1
  refine ⟨I2, A2, L2, V2, W2, Q2, ?_, h3, h4⟩
  have g1 : Int32.ofNat i + 1 = Int32.ofNat (i + 1) := as_add
  have n1 := as_nat (show i + 1 < 2147483648 by omega)
  have p1 := as_pos (show i + 1 < 2147483648 by omega)
  have x1 := lp_x (show i + 1 < X.length by omega)
  have g2 : Int32.ofNat i + 2 = Int32.ofNat (i + 2) := as_add
  have n2 := as_nat (show i + 2 < 2147483648 by omega)
  have p2 := as_pos (show i + 2 < 2147483648 by omega)
  have x2 := lp_x (show i + 2 < X.length by omega)
  have g6 : Int32.ofNat i + 6 = Int32.ofNat (i + 6) := as_add
  unfold lp_L
  simp only [q0_551, q0_551n, q0_552, q0_553, q0_554, q0_555, q0_556, q0_557, q0_558, q0_559, q0_560, q0_561, q0_562, q0_565, q0_565n, q0_566, q0_567, q0_568, q0_569, q0_570, q0_571, q0_572, q0_573, q0_574, q0_575, q0_576, q0_579, q0_582, q0_583, q0_1463, q0_1466, g1, n1, p1, x1, g2, n2, p2, x2, g6, h1, h2, en_c0, en_c36, lp_lc, as_10, as_01, Nat.reduceBEq, Nat.reduceEqDiff, ↓reduceIte, Option.bind_some, Option.getD_some, Option.isSome_some, Option.isSome_none, Bool.false_eq_true, Option.toList, List.nil_append, List.cons_append, List.lookup, Option.isSome, List.getElem?_cons_zero, List.getElem?_cons_succ, beq_self_eq_true, if_true, true_or, or_true, or_false, false_or, am_kl, true_and, and_true, and_false, false_and, if_false, not_true_eq_false, not_false_eq_true, as_b0, as_b1, as_em, as_ne, List.length_cons, List.length_nil, Nat.reduceAdd, Int32.reduceLT, Int32.reduceLE, Int32.reduceAdd, Int32.reduceSub, Int32.neg_neg, Int32.reduceMul, Int32.reduceToNatClampNeg, Nat.reduceLeDiff, Nat.reduceLT, List.set_cons_zero, List.set_cons_succ, List.length_set, en_at, en_uu, en_gd]

theorem lp_9 {X : List Int32} {i : Nat} {I : Nat → Nat → Int32} {A : Nat → List Int32} {L : Nat → List Int64} {V : Nat → List Value} {W : Value} {Q : am_Mem} (hi : i + 6 ≤ X.length) (hX : X.length ≤ 3072) (S : md_Stp X 66 182 [.int (X.getD (i + 1) 0)] I A L V W Q) : lp_N X i 584 I A L V W Q := by
  obtain ⟨v, I1, A1, L1, V1, W1, Q1, I2, A2, L2, V2, W2, Q2, h1, h2, h3, h4⟩ := S
  obtain ⟨x, rfl⟩ := lp_int (by decide +kernel) h1
  refine ⟨I2, A2, L2, V2, W2, Q2, ?_, h3, h4⟩
  have g1 : Int32.ofNat i + 1 = Int32.ofNat (i + 1) := as_add
  have n1 := as_nat (show i + 1 < 2147483648 by omega)
  have p1 := as_pos (show i + 1 < 2147483648 by omega)
  have x1 := lp_x (show i + 1 < X.length by omega)
  have g6 : Int32.ofNat i + 6 = Int32.ofNat (i + 6) := as_add
  unfold lp_L
  simp only [q0_584, q0_584n, q0_585, q0_586, q0_587, q0_588, q0_589, q0_590, q0_593, q0_593n, q0_594, q0_595, q0_596, q0_597, q0_598, q0_599, q0_602, q0_605, q0_606, q0_1463, q0_1466, g1, n1, p1, x1, g6, h1, h2, en_c0, en_c36, lp_lc, as_10, as_01, Nat.reduceBEq, Nat.reduceEqDiff, ↓reduceIte, Option.bind_some, Option.getD_some, Option.isSome_some, Option.isSome_none, Bool.false_eq_true, Option.toList, List.nil_append, List.cons_append, List.lookup, Option.isSome, List.getElem?_cons_zero, List.getElem?_cons_succ, beq_self_eq_true, if_true, true_or, or_true, or_false, false_or, am_kl, true_and, and_true, and_false, false_and, if_false, not_true_eq_false, not_false_eq_true, as_b0, as_b1, as_em, as_ne, List.length_cons, List.length_nil, Nat.reduceAdd, Int32.reduceLT, Int32.reduceLE, Int32.reduceAdd, Int32.reduceSub, Int32.neg_neg, Int32.reduceMul, Int32.reduceToNatClampNeg, Nat.reduceLeDiff, Nat.reduceLT, List.set_cons_zero, List.set_cons_succ, List.length_set, en_at, en_uu, en_gd]

theorem lp_10 {X : List Int32} {i : Nat} {I : Nat → Nat → Int32} {A : Nat → List Int32} {L : Nat → List Int64} {V : Nat → List Value} {W : Value} {Q : am_Mem} (hi : i + 6 ≤ X.length) (hX : X.length ≤ 3072) (S : md_Stp X 69 184 [.int (X.getD (i + 1) 0), .int (X.getD (i + 2) 0)] I A L V W Q) : lp_N X i 607 I A L V W Q := by
  obtain ⟨v, I1, A1, L1, V1, W1, Q1, I2, A2, L2, V2, W2, Q2, h1, h2, h3, h4⟩ := S
  obtain ⟨x, rfl⟩ := lp_int (by decide +kernel) h1
  refine ⟨I2, A2, L2, V2, W2, Q2, ?_, h3, h4⟩
  have g1 : Int32.ofNat i + 1 = Int32.ofNat (i + 1) := as_add
  have n1 := as_nat (show i + 1 < 2147483648 by omega)
  have p1 := as_pos (show i + 1 < 2147483648 by omega)
  have x1 := lp_x (show i + 1 < X.length by omega)
  have g2 : Int32.ofNat i + 2 = Int32.ofNat (i + 2) := as_add
  have n2 := as_nat (show i + 2 < 2147483648 by omega)
  have p2 := as_pos (show i + 2 < 2147483648 by omega)
  have x2 := lp_x (show i + 2 < X.length by omega)
  have g6 : Int32.ofNat i + 6 = Int32.ofNat (i + 6) := as_add
  unfold lp_L
  simp only [q0_607, q0_607n, q0_608, q0_609, q0_610, q0_611, q0_612, q0_613, q0_614, q0_615, q0_616, q0_617, q0_618, q0_621, q0_621n, q0_622, q0_623, q0_624, q0_625, q0_626, q0_627, q0_628, q0_629, q0_630, q0_631, q0_632, q0_635, q0_638, q0_639, q0_1463, q0_1466, g1, n1, p1, x1, g2, n2, p2, x2, g6, h1, h2, en_c0, en_c36, lp_lc, as_10, as_01, Nat.reduceBEq, Nat.reduceEqDiff, ↓reduceIte, Option.bind_some, Option.getD_some, Option.isSome_some, Option.isSome_none, Bool.false_eq_true, Option.toList, List.nil_append, List.cons_append, List.lookup, Option.isSome, List.getElem?_cons_zero, List.getElem?_cons_succ, beq_self_eq_true, if_true, true_or, or_true, or_false, false_or, am_kl, true_and, and_true, and_false, false_and, if_false, not_true_eq_false, not_false_eq_true, as_b0, as_b1, as_em, as_ne, List.length_cons, List.length_nil, Nat.reduceAdd, Int32.reduceLT, Int32.reduceLE, Int32.reduceAdd, Int32.reduceSub, Int32.neg_neg, Int32.reduceMul, Int32.reduceToNatClampNeg, Nat.reduceLeDiff, Nat.reduceLT, List.set_cons_zero, List.set_cons_succ, List.length_set, en_at, en_uu, en_gd]

theorem lp_11 {X : List Int32} {i : Nat} {I : Nat → Nat → Int32} {A : Nat → List Int32} {L : Nat → List Int64} {V : Nat → List Value} {W : Value} {Q : am_Mem} (hi : i + 6 ≤ X.length) (hX : X.length ≤ 3072) (S : md_Stp X 71 186 [.int (X.getD (i + 1) 0)] I A L V W Q) : lp_N X i 640 I A L V W Q := by
  obtain ⟨v, I1, A1, L1, V1, W1, Q1, I2, A2, L2, V2, W2, Q2, h1, h2, h3, h4⟩ := S
  obtain ⟨x, rfl⟩ := lp_int (by decide +kernel) h1
  refine ⟨I2, A2, L2, V2, W2, Q2, ?_, h3, h4⟩
  have g1 : Int32.ofNat i + 1 = Int32.ofNat (i + 1) := as_add
  have n1 := as_nat (show i + 1 < 2147483648 by omega)
  have p1 := as_pos (show i + 1 < 2147483648 by omega)
  have x1 := lp_x (show i + 1 < X.length by omega)
  have g6 : Int32.ofNat i + 6 = Int32.ofNat (i + 6) := as_add
  unfold lp_L
  simp only [q0_640, q0_640n, q0_641, q0_642, q0_643, q0_644, q0_645, q0_646, q0_649, q0_649n, q0_650, q0_651, q0_652, q0_653, q0_654, q0_655, q0_658, q0_661, q0_662, q0_1463, q0_1466, g1, n1, p1, x1, g6, h1, h2, en_c0, en_c36, lp_lc, as_10, as_01, Nat.reduceBEq, Nat.reduceEqDiff, ↓reduceIte, Option.bind_some, Option.getD_some, Option.isSome_some, Option.isSome_none, Bool.false_eq_true, Option.toList, List.nil_append, List.cons_append, List.lookup, Option.isSome, List.getElem?_cons_zero, List.getElem?_cons_succ, beq_self_eq_true, if_true, true_or, or_true, or_false, false_or, am_kl, true_and, and_true, and_false, false_and, if_false, not_true_eq_false, not_false_eq_true, as_b0, as_b1, as_em, as_ne, List.length_cons, List.length_nil, Nat.reduceAdd, Int32.reduceLT, Int32.reduceLE, Int32.reduceAdd, Int32.reduceSub, Int32.neg_neg, Int32.reduceMul, Int32.reduceToNatClampNeg, Nat.reduceLeDiff, Nat.reduceLT, List.set_cons_zero, List.set_cons_succ, List.length_set, en_at, en_uu, en_gd]

theorem lp_12 {X : List Int32} {i : Nat} {I : Nat → Nat → Int32} {A : Nat → List Int32} {L : Nat → List Int64} {V : Nat → List Value} {W : Value} {Q : am_Mem} (hi : i + 6 ≤ X.length) (hX : X.length ≤ 3072) (S : md_Stp X 73 188 [.int (X.getD (i + 1) 0), .int (X.getD (i + 2) 0)] I A L V W Q) : lp_N X i 663 I A L V W Q := by
  obtain ⟨v, I1, A1, L1, V1, W1, Q1, I2, A2, L2, V2, W2, Q2, h1, h2, h3, h4⟩ := S
  obtain ⟨x, rfl⟩ := lp_int (by decide +kernel) h1
  refine ⟨I2, A2, L2, V2, W2, Q2, ?_, h3, h4⟩
  have g1 : Int32.ofNat i + 1 = Int32.ofNat (i + 1) := as_add
  have n1 := as_nat (show i + 1 < 2147483648 by omega)
  have p1 := as_pos (show i + 1 < 2147483648 by omega)
  have x1 := lp_x (show i + 1 < X.length by omega)
  have g2 : Int32.ofNat i + 2 = Int32.ofNat (i + 2) := as_add
  have n2 := as_nat (show i + 2 < 2147483648 by omega)
  have p2 := as_pos (show i + 2 < 2147483648 by omega)
  have x2 := lp_x (show i + 2 < X.length by omega)
  have g6 : Int32.ofNat i + 6 = Int32.ofNat (i + 6) := as_add
  unfold lp_L
  simp only [q0_663, q0_663n, q0_664, q0_665, q0_666, q0_667, q0_668, q0_669, q0_670, q0_671, q0_672, q0_673, q0_674, q0_677, q0_677n, q0_678, q0_679, q0_680, q0_681, q0_682, q0_683, q0_684, q0_685, q0_686, q0_687, q0_688, q0_691, q0_694, q0_695, q0_1463, q0_1466, g1, n1, p1, x1, g2, n2, p2, x2, g6, h1, h2, en_c0, en_c36, lp_lc, as_10, as_01, Nat.reduceBEq, Nat.reduceEqDiff, ↓reduceIte, Option.bind_some, Option.getD_some, Option.isSome_some, Option.isSome_none, Bool.false_eq_true, Option.toList, List.nil_append, List.cons_append, List.lookup, Option.isSome, List.getElem?_cons_zero, List.getElem?_cons_succ, beq_self_eq_true, if_true, true_or, or_true, or_false, false_or, am_kl, true_and, and_true, and_false, false_and, if_false, not_true_eq_false, not_false_eq_true, as_b0, as_b1, as_em, as_ne, List.length_cons, List.length_nil, Nat.reduceAdd, Int32.reduceLT, Int32.reduceLE, Int32.reduceAdd, Int32.reduceSub, Int32.neg_neg, Int32.reduceMul, Int32.reduceToNatClampNeg, Nat.reduceLeDiff, Nat.reduceLT, List.set_cons_zero, List.set_cons_succ, List.length_set, en_at, en_uu, en_gd]

theorem lp_13 {X : List Int32} {i : Nat} {I : Nat → Nat → Int32} {A : Nat → List Int32} {L : Nat → List Int64} {V : Nat → List Value} {W : Value} {Q : am_Mem} (hi : i + 6 ≤ X.length) (hX : X.length ≤ 3072) (S : md_Stp X 77 193 [.int (X.getD (i + 1) 0), .int (X.getD (i + 2) 0), .int (X.getD (i + 3) 0)] I A L V W Q) : lp_N X i 696 I A L V W Q := by
  obtain ⟨v, I1, A1, L1, V1, W1, Q1, I2, A2, L2, V2, W2, Q2, h1, h2, h3, h4⟩ := S
  obtain ⟨x, rfl⟩ := lp_int (by decide +kernel) h1
  refine ⟨I2, A2, L2, V2, W2, Q2, ?_, h3, h4⟩
  have g1 : Int32.ofNat i + 1 = Int32.ofNat (i + 1) := as_add
  have n1 := as_nat (show i + 1 < 2147483648 by omega)
  have p1 := as_pos (show i + 1 < 2147483648 by omega)
  have x1 := lp_x (show i + 1 < X.length by omega)
  have g2 : Int32.ofNat i + 2 = Int32.ofNat (i + 2) := as_add
  have n2 := as_nat (show i + 2 < 2147483648 by omega)
  have p2 := as_pos (show i + 2 < 2147483648 by omega)
  have x2 := lp_x (show i + 2 < X.length by omega)
  have g3 : Int32.ofNat i + 3 = Int32.ofNat (i + 3) := as_add
  have n3 := as_nat (show i + 3 < 2147483648 by omega)
  have p3 := as_pos (show i + 3 < 2147483648 by omega)
  have x3 := lp_x (show i + 3 < X.length by omega)
  have g6 : Int32.ofNat i + 6 = Int32.ofNat (i + 6) := as_add
  unfold lp_L
  simp only [q0_696, q0_696n, q0_697, q0_698, q0_699, q0_700, q0_701, q0_702, q0_703, q0_704, q0_705, q0_706, q0_707, q0_708, q0_709, q0_710, q0_711, q0_712, q0_715, q0_715n, q0_716, q0_717, q0_718, q0_719, q0_720, q0_721, q0_722, q0_723, q0_724, q0_725, q0_726, q0_727, q0_728, q0_729, q0_730, q0_731, q0_734, q0_737, q0_738, q0_1463, q0_1466, g1, n1, p1, x1, g2, n2, p2, x2, g3, n3, p3, x3, g6, h1, h2, en_c0, en_c36, lp_lc, as_10, as_01, Nat.reduceBEq, Nat.reduceEqDiff, ↓reduceIte, Option.bind_some, Option.getD_some, Option.isSome_some, Option.isSome_none, Bool.false_eq_true, Option.toList, List.nil_append, List.cons_append, List.lookup, Option.isSome, List.getElem?_cons_zero, List.getElem?_cons_succ, beq_self_eq_true, if_true, true_or, or_true, or_false, false_or, am_kl, true_and, and_true, and_false, false_and, if_false, not_true_eq_false, not_false_eq_true, as_b0, as_b1, as_em, as_ne, List.length_cons, List.length_nil, Nat.reduceAdd, Int32.reduceLT, Int32.reduceLE, Int32.reduceAdd, Int32.reduceSub, Int32.neg_neg, Int32.reduceMul, Int32.reduceToNatClampNeg, Nat.reduceLeDiff, Nat.reduceLT, List.set_cons_zero, List.set_cons_succ, List.length_set, en_at, en_uu, en_gd]

theorem lp_14 {X : List Int32} {i : Nat} {I : Nat → Nat → Int32} {A : Nat → List Int32} {L : Nat → List Int64} {V : Nat → List Value} {W : Value} {Q : am_Mem} (hi : i + 6 ≤ X.length) (hX : X.length ≤ 3072) (S : md_Stp X 79 195 [.int (X.getD (i + 1) 0)] I A L V W Q) : lp_N X i 739 I A L V W Q := by
  obtain ⟨v, I1, A1, L1, V1, W1, Q1, I2, A2, L2, V2, W2, Q2, h1, h2, h3, h4⟩ := S
  obtain ⟨x, rfl⟩ := lp_int (by decide +kernel) h1
  refine ⟨I2, A2, L2, V2, W2, Q2, ?_, h3, h4⟩
  have g1 : Int32.ofNat i + 1 = Int32.ofNat (i + 1) := as_add
  have n1 := as_nat (show i + 1 < 2147483648 by omega)
  have p1 := as_pos (show i + 1 < 2147483648 by omega)
  have x1 := lp_x (show i + 1 < X.length by omega)
  have g6 : Int32.ofNat i + 6 = Int32.ofNat (i + 6) := as_add
  unfold lp_L
  simp only [q0_739, q0_739n, q0_740, q0_741, q0_742, q0_743, q0_744, q0_745, q0_748, q0_748n, q0_749, q0_750, q0_751, q0_752, q0_753, q0_754, q0_757, q0_760, q0_761, q0_1463, q0_1466, g1, n1, p1, x1, g6, h1, h2, en_c0, en_c36, lp_lc, as_10, as_01, Nat.reduceBEq, Nat.reduceEqDiff, ↓reduceIte, Option.bind_some, Option.getD_some, Option.isSome_some, Option.isSome_none, Bool.false_eq_true, Option.toList, List.nil_append, List.cons_append, List.lookup, Option.isSome, List.getElem?_cons_zero, List.getElem?_cons_succ, beq_self_eq_true, if_true, true_or, or_true, or_false, false_or, am_kl, true_and, and_true, and_false, false_and, if_false, not_true_eq_false, not_false_eq_true, as_b0, as_b1, as_em, as_ne, List.length_cons, List.length_nil, Nat.reduceAdd, Int32.reduceLT, Int32.reduceLE, Int32.reduceAdd, Int32.reduceSub, Int32.neg_neg, Int32.reduceMul, Int32.reduceToNatClampNeg, Nat.reduceLeDiff, Nat.reduceLT, List.set_cons_zero, List.set_cons_succ, List.length_set, en_at, en_uu, en_gd]

theorem lp_15 {X : List Int32} {i : Nat} {I : Nat → Nat → Int32} {A : Nat → List Int32} {L : Nat → List Int64} {V : Nat → List Value} {W : Value} {Q : am_Mem} (hi : i + 6 ≤ X.length) (hX : X.length ≤ 3072) (S : md_Stp X 96 207 [] I A L V W Q) : lp_N X i 762 I A L V W Q := by
  obtain ⟨v, I1, A1, L1, V1, W1, Q1, I2, A2, L2, V2, W2, Q2, h1, h2, h3, h4⟩ := S
  obtain ⟨x, rfl⟩ := lp_int (by decide +kernel) h1
  refine ⟨I2, A2, L2, V2, W2, Q2, ?_, h3, h4⟩
  have g6 : Int32.ofNat i + 6 = Int32.ofNat (i + 6) := as_add
  unfold lp_L
  simp only [q0_762, q0_762n, q0_763, q0_766, q0_766n, q0_767, q0_770, q0_773, q0_774, q0_1463, q0_1466, g6, h1, h2, en_c0, en_c36, lp_lc, as_10, as_01, Nat.reduceBEq, Nat.reduceEqDiff, ↓reduceIte, Option.bind_some, Option.getD_some, Option.isSome_some, Option.isSome_none, Bool.false_eq_true, Option.toList, List.nil_append, List.cons_append, List.lookup, Option.isSome, List.getElem?_cons_zero, List.getElem?_cons_succ, beq_self_eq_true, if_true, true_or, or_true, or_false, false_or, am_kl, true_and, and_true, and_false, false_and, if_false, not_true_eq_false, not_false_eq_true, as_b0, as_b1, as_em, as_ne, List.length_cons, List.length_nil, Nat.reduceAdd, Int32.reduceLT, Int32.reduceLE, Int32.reduceAdd, Int32.reduceSub, Int32.neg_neg, Int32.reduceMul, Int32.reduceToNatClampNeg, Nat.reduceLeDiff, Nat.reduceLT, List.set_cons_zero, List.set_cons_succ, List.length_set, en_at, en_uu, en_gd]

theorem lp_16 {X : List Int32} {i : Nat} {I : Nat → Nat → Int32} {A : Nat → List Int32} {L : Nat → List Int64} {V : Nat → List Value} {W : Value} {Q : am_Mem} (hi : i + 6 ≤ X.length) (hX : X.length ≤ 3072) (S : md_Stp X 97 208 [.int (X.getD (i + 1) 0), .int (X.getD (i + 2) 0)] I A L V W Q) : lp_N X i 775 I A L V W Q := by
  obtain ⟨v, I1, A1, L1, V1, W1, Q1, I2, A2, L2, V2, W2, Q2, h1, h2, h3, h4⟩ := S
  obtain ⟨x, rfl⟩ := lp_int (by decide +kernel) h1
  refine ⟨I2, A2, L2, V2, W2, Q2, ?_, h3, h4⟩
  have g1 : Int32.ofNat i + 1 = Int32.ofNat (i + 1) := as_add
  have n1 := as_nat (show i + 1 < 2147483648 by omega)
  have p1 := as_pos (show i + 1 < 2147483648 by omega)
  have x1 := lp_x (show i + 1 < X.length by omega)
  have g2 : Int32.ofNat i + 2 = Int32.ofNat (i + 2) := as_add
  have n2 := as_nat (show i + 2 < 2147483648 by omega)
  have p2 := as_pos (show i + 2 < 2147483648 by omega)
  have x2 := lp_x (show i + 2 < X.length by omega)
  have g6 : Int32.ofNat i + 6 = Int32.ofNat (i + 6) := as_add
  unfold lp_L
  simp only [q0_775, q0_775n, q0_776, q0_777, q0_778, q0_779, q0_780, q0_781, q0_782, q0_783, q0_784, q0_785, q0_786, q0_789, q0_789n, q0_790, q0_791, q0_792, q0_793, q0_794, q0_795, q0_796, q0_797, q0_798, q0_799, q0_800, q0_803, q0_806, q0_807, q0_1463, q0_1466, g1, n1, p1, x1, g2, n2, p2, x2, g6, h1, h2, en_c0, en_c36, lp_lc, as_10, as_01, Nat.reduceBEq, Nat.reduceEqDiff, ↓reduceIte, Option.bind_some, Option.getD_some, Option.isSome_some, Option.isSome_none, Bool.false_eq_true, Option.toList, List.nil_append, List.cons_append, List.lookup, Option.isSome, List.getElem?_cons_zero, List.getElem?_cons_succ, beq_self_eq_true, if_true, true_or, or_true, or_false, false_or, am_kl, true_and, and_true, and_false, false_and, if_false, not_true_eq_false, not_false_eq_true, as_b0, as_b1, as_em, as_ne, List.length_cons, List.length_nil, Nat.reduceAdd, Int32.reduceLT, Int32.reduceLE, Int32.reduceAdd, Int32.reduceSub, Int32.neg_neg, Int32.reduceMul, Int32.reduceToNatClampNeg, Nat.reduceLeDiff, Nat.reduceLT, List.set_cons_zero, List.set_cons_succ, List.length_set, en_at, en_uu, en_gd]

theorem lp_17 {X : List Int32} {i : Nat} {I : Nat → Nat → Int32} {A : Nat → List Int32} {L : Nat → List Int64} {V : Nat → List Value} {W : Value} {Q : am_Mem} (hi : i + 6 ≤ X.length) (hX : X.length ≤ 3072) (S : md_Stp X 101 210 [.int (X.getD (i + 1) 0)] I A L V W Q) : lp_N X i 808 I A L V W Q := by
  obtain ⟨v, I1, A1, L1, V1, W1, Q1, I2, A2, L2, V2, W2, Q2, h1, h2, h3, h4⟩ := S
  obtain ⟨x, rfl⟩ := lp_int (by decide +kernel) h1
  refine ⟨I2, A2, L2, V2, W2, Q2, ?_, h3, h4⟩
  have g1 : Int32.ofNat i + 1 = Int32.ofNat (i + 1) := as_add
  have n1 := as_nat (show i + 1 < 2147483648 by omega)
  have p1 := as_pos (show i + 1 < 2147483648 by omega)
  have x1 := lp_x (show i + 1 < X.length by omega)
  have g6 : Int32.ofNat i + 6 = Int32.ofNat (i + 6) := as_add
  unfold lp_L
  simp only [q0_808, q0_808n, q0_809, q0_810, q0_811, q0_812, q0_813, q0_814, q0_817, q0_817n, q0_818, q0_819, q0_820, q0_821, q0_822, q0_823, q0_826, q0_829, q0_830, q0_1463, q0_1466, g1, n1, p1, x1, g6, h1, h2, en_c0, en_c36, lp_lc, as_10, as_01, Nat.reduceBEq, Nat.reduceEqDiff, ↓reduceIte, Option.bind_some, Option.getD_some, Option.isSome_some, Option.isSome_none, Bool.false_eq_true, Option.toList, List.nil_append, List.cons_append, List.lookup, Option.isSome, List.getElem?_cons_zero, List.getElem?_cons_succ, beq_self_eq_true, if_true, true_or, or_true, or_false, false_or, am_kl, true_and, and_true, and_false, false_and, if_false, not_true_eq_false, not_false_eq_true, as_b0, as_b1, as_em, as_ne, List.length_cons, List.length_nil, Nat.reduceAdd, Int32.reduceLT, Int32.reduceLE, Int32.reduceAdd, Int32.reduceSub, Int32.neg_neg, Int32.reduceMul, Int32.reduceToNatClampNeg, Nat.reduceLeDiff, Nat.reduceLT, List.set_cons_zero, List.set_cons_succ, List.length_set, en_at, en_uu, en_gd]

theorem lp_18 {X : List Int32} {i : Nat} {I : Nat → Nat → Int32} {A : Nat → List Int32} {L : Nat → List Int64} {V : Nat → List Value} {W : Value} {Q : am_Mem} (hi : i + 6 ≤ X.length) (hX : X.length ≤ 3072) (S : md_Stp X 104 212 [.int (X.getD (i + 1) 0)] I A L V W Q) : lp_N X i 831 I A L V W Q := by
  obtain ⟨v, I1, A1, L1, V1, W1, Q1, I2, A2, L2, V2, W2, Q2, h1, h2, h3, h4⟩ := S
  obtain ⟨x, rfl⟩ := lp_int (by decide +kernel) h1
  refine ⟨I2, A2, L2, V2, W2, Q2, ?_, h3, h4⟩
  have g1 : Int32.ofNat i + 1 = Int32.ofNat (i + 1) := as_add
  have n1 := as_nat (show i + 1 < 2147483648 by omega)
  have p1 := as_pos (show i + 1 < 2147483648 by omega)
  have x1 := lp_x (show i + 1 < X.length by omega)
  have g6 : Int32.ofNat i + 6 = Int32.ofNat (i + 6) := as_add
  unfold lp_L
  simp only [q0_831, q0_831n, q0_832, q0_833, q0_834, q0_835, q0_836, q0_837, q0_840, q0_840n, q0_841, q0_842, q0_843, q0_844, q0_845, q0_846, q0_849, q0_852, q0_853, q0_1463, q0_1466, g1, n1, p1, x1, g6, h1, h2, en_c0, en_c36, lp_lc, as_10, as_01, Nat.reduceBEq, Nat.reduceEqDiff, ↓reduceIte, Option.bind_some, Option.getD_some, Option.isSome_some, Option.isSome_none, Bool.false_eq_true, Option.toList, List.nil_append, List.cons_append, List.lookup, Option.isSome, List.getElem?_cons_zero, List.getElem?_cons_succ, beq_self_eq_true, if_true, true_or, or_true, or_false, false_or, am_kl, true_and, and_true, and_false, false_and, if_false, not_true_eq_false, not_false_eq_true, as_b0, as_b1, as_em, as_ne, List.length_cons, List.length_nil, Nat.reduceAdd, Int32.reduceLT, Int32.reduceLE, Int32.reduceAdd, Int32.reduceSub, Int32.neg_neg, Int32.reduceMul, Int32.reduceToNatClampNeg, Nat.reduceLeDiff, Nat.reduceLT, List.set_cons_zero, List.set_cons_succ, List.length_set, en_at, en_uu, en_gd]

theorem lp_19 {X : List Int32} {i : Nat} {I : Nat → Nat → Int32} {A : Nat → List Int32} {L : Nat → List Int64} {V : Nat → List Value} {W : Value} {Q : am_Mem} (hi : i + 6 ≤ X.length) (hX : X.length ≤ 3072) (S : md_Stp X 108 215 [.int (X.getD (i + 1) 0)] I A L V W Q) : lp_N X i 854 I A L V W Q := by
  obtain ⟨v, I1, A1, L1, V1, W1, Q1, I2, A2, L2, V2, W2, Q2, h1, h2, h3, h4⟩ := S
  obtain ⟨x, rfl⟩ := lp_int (by decide +kernel) h1
  refine ⟨I2, A2, L2, V2, W2, Q2, ?_, h3, h4⟩
  have g1 : Int32.ofNat i + 1 = Int32.ofNat (i + 1) := as_add
  have n1 := as_nat (show i + 1 < 2147483648 by omega)
  have p1 := as_pos (show i + 1 < 2147483648 by omega)
  have x1 := lp_x (show i + 1 < X.length by omega)
  have g6 : Int32.ofNat i + 6 = Int32.ofNat (i + 6) := as_add
  unfold lp_L
  simp only [q0_854, q0_854n, q0_855, q0_856, q0_857, q0_858, q0_859, q0_860, q0_863, q0_863n, q0_864, q0_865, q0_866, q0_867, q0_868, q0_869, q0_872, q0_875, q0_876, q0_1463, q0_1466, g1, n1, p1, x1, g6, h1, h2, en_c0, en_c36, lp_lc, as_10, as_01, Nat.reduceBEq, Nat.reduceEqDiff, ↓reduceIte, Option.bind_some, Option.getD_some, Option.isSome_some, Option.isSome_none, Bool.false_eq_true, Option.toList, List.nil_append, List.cons_append, List.lookup, Option.isSome, List.getElem?_cons_zero, List.getElem?_cons_succ, beq_self_eq_true, if_true, true_or, or_true, or_false, false_or, am_kl, true_and, and_true, and_false, false_and, if_false, not_true_eq_false, not_false_eq_true, as_b0, as_b1, as_em, as_ne, List.length_cons, List.length_nil, Nat.reduceAdd, Int32.reduceLT, Int32.reduceLE, Int32.reduceAdd, Int32.reduceSub, Int32.neg_neg, Int32.reduceMul, Int32.reduceToNatClampNeg, Nat.reduceLeDiff, Nat.reduceLT, List.set_cons_zero, List.set_cons_succ, List.length_set, en_at, en_uu, en_gd]

theorem lp_20 {X : List Int32} {i : Nat} {I : Nat → Nat → Int32} {A : Nat → List Int32} {L : Nat → List Int64} {V : Nat → List Value} {W : Value} {Q : am_Mem} (hi : i + 6 ≤ X.length) (hX : X.length ≤ 3072) (S : md_Stp X 110 217 [.int (X.getD (i + 1) 0), .int (X.getD (i + 2) 0)] I A L V W Q) : lp_N X i 877 I A L V W Q := by
  obtain ⟨v, I1, A1, L1, V1, W1, Q1, I2, A2, L2, V2, W2, Q2, h1, h2, h3, h4⟩ := S
  obtain ⟨x, rfl⟩ := lp_int (by decide +kernel) h1
  refine ⟨I2, A2, L2, V2, W2, Q2, ?_, h3, h4⟩
  have g1 : Int32.ofNat i + 1 = Int32.ofNat (i + 1) := as_add
  have n1 := as_nat (show i + 1 < 2147483648 by omega)
  have p1 := as_pos (show i + 1 < 2147483648 by omega)
  have x1 := lp_x (show i + 1 < X.length by omega)
  have g2 : Int32.ofNat i + 2 = Int32.ofNat (i + 2) := as_add
  have n2 := as_nat (show i + 2 < 2147483648 by omega)
  have p2 := as_pos (show i + 2 < 2147483648 by omega)
  have x2 := lp_x (show i + 2 < X.length by omega)
  have g6 : Int32.ofNat i + 6 = Int32.ofNat (i + 6) := as_add
  unfold lp_L
  simp only [q0_877, q0_877n, q0_878, q0_879, q0_880, q0_881, q0_882, q0_883, q0_884, q0_885, q0_886, q0_887, q0_888, q0_891, q0_891n, q0_892, q0_893, q0_894, q0_895, q0_896, q0_897, q0_898, q0_899, q0_900, q0_901, q0_902, q0_905, q0_908, q0_909, q0_1463, q0_1466, g1, n1, p1, x1, g2, n2, p2, x2, g6, h1, h2, en_c0, en_c36, lp_lc, as_10, as_01, Nat.reduceBEq, Nat.reduceEqDiff, ↓reduceIte, Option.bind_some, Option.getD_some, Option.isSome_some, Option.isSome_none, Bool.false_eq_true, Option.toList, List.nil_append, List.cons_append, List.lookup, Option.isSome, List.getElem?_cons_zero, List.getElem?_cons_succ, beq_self_eq_true, if_true, true_or, or_true, or_false, false_or, am_kl, true_and, and_true, and_false, false_and, if_false, not_true_eq_false, not_false_eq_true, as_b0, as_b1, as_em, as_ne, List.length_cons, List.length_nil, Nat.reduceAdd, Int32.reduceLT, Int32.reduceLE, Int32.reduceAdd, Int32.reduceSub, Int32.neg_neg, Int32.reduceMul, Int32.reduceToNatClampNeg, Nat.reduceLeDiff, Nat.reduceLT, List.set_cons_zero, List.set_cons_succ, List.length_set, en_at, en_uu, en_gd]

theorem lp_21 {X : List Int32} {i : Nat} {I : Nat → Nat → Int32} {A : Nat → List Int32} {L : Nat → List Int64} {V : Nat → List Value} {W : Value} {Q : am_Mem} (hi : i + 6 ≤ X.length) (hX : X.length ≤ 3072) (S : md_Stp X 112 218 [.int (X.getD (i + 1) 0), .int (X.getD (i + 2) 0)] I A L V W Q) : lp_N X i 910 I A L V W Q := by
  obtain ⟨v, I1, A1, L1, V1, W1, Q1, I2, A2, L2, V2, W2, Q2, h1, h2, h3, h4⟩ := S
  obtain ⟨x, rfl⟩ := lp_int (by decide +kernel) h1
  refine ⟨I2, A2, L2, V2, W2, Q2, ?_, h3, h4⟩
  have g1 : Int32.ofNat i + 1 = Int32.ofNat (i + 1) := as_add
  have n1 := as_nat (show i + 1 < 2147483648 by omega)
  have p1 := as_pos (show i + 1 < 2147483648 by omega)
  have x1 := lp_x (show i + 1 < X.length by omega)
  have g2 : Int32.ofNat i + 2 = Int32.ofNat (i + 2) := as_add
  have n2 := as_nat (show i + 2 < 2147483648 by omega)
  have p2 := as_pos (show i + 2 < 2147483648 by omega)
  have x2 := lp_x (show i + 2 < X.length by omega)
  have g6 : Int32.ofNat i + 6 = Int32.ofNat (i + 6) := as_add
  unfold lp_L
  simp only [q0_910, q0_910n, q0_911, q0_912, q0_913, q0_914, q0_915, q0_916, q0_917, q0_918, q0_919, q0_920, q0_921, q0_924, q0_924n, q0_925, q0_926, q0_927, q0_928, q0_929, q0_930, q0_931, q0_932, q0_933, q0_934, q0_935, q0_938, q0_941, q0_942, q0_1463, q0_1466, g1, n1, p1, x1, g2, n2, p2, x2, g6, h1, h2, en_c0, en_c36, lp_lc, as_10, as_01, Nat.reduceBEq, Nat.reduceEqDiff, ↓reduceIte, Option.bind_some, Option.getD_some, Option.isSome_some, Option.isSome_none, Bool.false_eq_true, Option.toList, List.nil_append, List.cons_append, List.lookup, Option.isSome, List.getElem?_cons_zero, List.getElem?_cons_succ, beq_self_eq_true, if_true, true_or, or_true, or_false, false_or, am_kl, true_and, and_true, and_false, false_and, if_false, not_true_eq_false, not_false_eq_true, as_b0, as_b1, as_em, as_ne, List.length_cons, List.length_nil, Nat.reduceAdd, Int32.reduceLT, Int32.reduceLE, Int32.reduceAdd, Int32.reduceSub, Int32.neg_neg, Int32.reduceMul, Int32.reduceToNatClampNeg, Nat.reduceLeDiff, Nat.reduceLT, List.set_cons_zero, List.set_cons_succ, List.length_set, en_at, en_uu, en_gd]

theorem lp_22 {X : List Int32} {i : Nat} {I : Nat → Nat → Int32} {A : Nat → List Int32} {L : Nat → List Int64} {V : Nat → List Value} {W : Value} {Q : am_Mem} (hi : i + 6 ≤ X.length) (hX : X.length ≤ 3072) (S : md_Stp X 114 221 [] I A L V W Q) : lp_N X i 943 I A L V W Q := by
  obtain ⟨v, I1, A1, L1, V1, W1, Q1, I2, A2, L2, V2, W2, Q2, h1, h2, h3, h4⟩ := S
  obtain ⟨x, rfl⟩ := lp_int (by decide +kernel) h1
  refine ⟨I2, A2, L2, V2, W2, Q2, ?_, h3, h4⟩
  have g6 : Int32.ofNat i + 6 = Int32.ofNat (i + 6) := as_add
  unfold lp_L
  simp only [q0_943, q0_943n, q0_944, q0_947, q0_947n, q0_948, q0_951, q0_954, q0_955, q0_1463, q0_1466, g6, h1, h2, en_c0, en_c36, lp_lc, as_10, as_01, Nat.reduceBEq, Nat.reduceEqDiff, ↓reduceIte, Option.bind_some, Option.getD_some, Option.isSome_some, Option.isSome_none, Bool.false_eq_true, Option.toList, List.nil_append, List.cons_append, List.lookup, Option.isSome, List.getElem?_cons_zero, List.getElem?_cons_succ, beq_self_eq_true, if_true, true_or, or_true, or_false, false_or, am_kl, true_and, and_true, and_false, false_and, if_false, not_true_eq_false, not_false_eq_true, as_b0, as_b1, as_em, as_ne, List.length_cons, List.length_nil, Nat.reduceAdd, Int32.reduceLT, Int32.reduceLE, Int32.reduceAdd, Int32.reduceSub, Int32.neg_neg, Int32.reduceMul, Int32.reduceToNatClampNeg, Nat.reduceLeDiff, Nat.reduceLT, List.set_cons_zero, List.set_cons_succ, List.length_set, en_at, en_uu, en_gd]

theorem lp_23 {X : List Int32} {i : Nat} {I : Nat → Nat → Int32} {A : Nat → List Int32} {L : Nat → List Int64} {V : Nat → List Value} {W : Value} {Q : am_Mem} (hi : i + 6 ≤ X.length) (hX : X.length ≤ 3072) (S : md_Stp X 115 222 [] I A L V W Q) : lp_N X i 956 I A L V W Q := by
  obtain ⟨v, I1, A1, L1, V1, W1, Q1, I2, A2, L2, V2, W2, Q2, h1, h2, h3, h4⟩ := S
  obtain ⟨x, rfl⟩ := lp_int (by decide +kernel) h1
  refine ⟨I2, A2, L2, V2, W2, Q2, ?_, h3, h4⟩
  have g6 : Int32.ofNat i + 6 = Int32.ofNat (i + 6) := as_add
  unfold lp_L
  simp only [q0_956, q0_956n, q0_957, q0_960, q0_960n, q0_961, q0_964, q0_967, q0_968, q0_1463, q0_1466, g6, h1, h2, en_c0, en_c36, lp_lc, as_10, as_01, Nat.reduceBEq, Nat.reduceEqDiff, ↓reduceIte, Option.bind_some, Option.getD_some, Option.isSome_some, Option.isSome_none, Bool.false_eq_true, Option.toList, List.nil_append, List.cons_append, List.lookup, Option.isSome, List.getElem?_cons_zero, List.getElem?_cons_succ, beq_self_eq_true, if_true, true_or, or_true, or_false, false_or, am_kl, true_and, and_true, and_false, false_and, if_false, not_true_eq_false, not_false_eq_true, as_b0, as_b1, as_em, as_ne, List.length_cons, List.length_nil, Nat.reduceAdd, Int32.reduceLT, Int32.reduceLE, Int32.reduceAdd, Int32.reduceSub, Int32.neg_neg, Int32.reduceMul, Int32.reduceToNatClampNeg, Nat.reduceLeDiff, Nat.reduceLT, List.set_cons_zero, List.set_cons_succ, List.length_set, en_at, en_uu, en_gd]

theorem lp_24 {X : List Int32} {i : Nat} {I : Nat → Nat → Int32} {A : Nat → List Int32} {L : Nat → List Int64} {V : Nat → List Value} {W : Value} {Q : am_Mem} (hi : i + 6 ≤ X.length) (hX : X.length ≤ 3072) (S : md_Stp X 116 223 [.int (X.getD (i + 1) 0)] I A L V W Q) : lp_N X i 969 I A L V W Q := by
  obtain ⟨v, I1, A1, L1, V1, W1, Q1, I2, A2, L2, V2, W2, Q2, h1, h2, h3, h4⟩ := S
  obtain ⟨x, rfl⟩ := lp_int (by decide +kernel) h1
  refine ⟨I2, A2, L2, V2, W2, Q2, ?_, h3, h4⟩
  have g1 : Int32.ofNat i + 1 = Int32.ofNat (i + 1) := as_add
  have n1 := as_nat (show i + 1 < 2147483648 by omega)
  have p1 := as_pos (show i + 1 < 2147483648 by omega)
  have x1 := lp_x (show i + 1 < X.length by omega)
  have g6 : Int32.ofNat i + 6 = Int32.ofNat (i + 6) := as_add
  unfold lp_L
  simp only [q0_969, q0_969n, q0_970, q0_971, q0_972, q0_973, q0_974, q0_975, q0_978, q0_978n, q0_979, q0_980, q0_981, q0_982, q0_983, q0_984, q0_987, q0_990, q0_991, q0_1463, q0_1466, g1, n1, p1, x1, g6, h1, h2, en_c0, en_c36, lp_lc, as_10, as_01, Nat.reduceBEq, Nat.reduceEqDiff, ↓reduceIte, Option.bind_some, Option.getD_some, Option.isSome_some, Option.isSome_none, Bool.false_eq_true, Option.toList, List.nil_append, List.cons_append, List.lookup, Option.isSome, List.getElem?_cons_zero, List.getElem?_cons_succ, beq_self_eq_true, if_true, true_or, or_true, or_false, false_or, am_kl, true_and, and_true, and_false, false_and, if_false, not_true_eq_false, not_false_eq_true, as_b0, as_b1, as_em, as_ne, List.length_cons, List.length_nil, Nat.reduceAdd, Int32.reduceLT, Int32.reduceLE, Int32.reduceAdd, Int32.reduceSub, Int32.neg_neg, Int32.reduceMul, Int32.reduceToNatClampNeg, Nat.reduceLeDiff, Nat.reduceLT, List.set_cons_zero, List.set_cons_succ, List.length_set, en_at, en_uu, en_gd]

theorem lp_25 {X : List Int32} {i : Nat} {I : Nat → Nat → Int32} {A : Nat → List Int32} {L : Nat → List Int64} {V : Nat → List Value} {W : Value} {Q : am_Mem} (hi : i + 6 ≤ X.length) (hX : X.length ≤ 3072) (S : md_Stp X 117 224 [.int (X.getD (i + 1) 0)] I A L V W Q) : lp_N X i 992 I A L V W Q := by
  obtain ⟨v, I1, A1, L1, V1, W1, Q1, I2, A2, L2, V2, W2, Q2, h1, h2, h3, h4⟩ := S
  obtain ⟨x, rfl⟩ := lp_int (by decide +kernel) h1
  refine ⟨I2, A2, L2, V2, W2, Q2, ?_, h3, h4⟩
  have g1 : Int32.ofNat i + 1 = Int32.ofNat (i + 1) := as_add
  have n1 := as_nat (show i + 1 < 2147483648 by omega)
  have p1 := as_pos (show i + 1 < 2147483648 by omega)
  have x1 := lp_x (show i + 1 < X.length by omega)
  have g6 : Int32.ofNat i + 6 = Int32.ofNat (i + 6) := as_add
  unfold lp_L
  simp only [q0_992, q0_992n, q0_993, q0_994, q0_995, q0_996, q0_997, q0_998, q0_1001, q0_1001n, q0_1002, q0_1003, q0_1004, q0_1005, q0_1006, q0_1007, q0_1010, q0_1013, q0_1014, q0_1463, q0_1466, g1, n1, p1, x1, g6, h1, h2, en_c0, en_c36, lp_lc, as_10, as_01, Nat.reduceBEq, Nat.reduceEqDiff, ↓reduceIte, Option.bind_some, Option.getD_some, Option.isSome_some, Option.isSome_none, Bool.false_eq_true, Option.toList, List.nil_append, List.cons_append, List.lookup, Option.isSome, List.getElem?_cons_zero, List.getElem?_cons_succ, beq_self_eq_true, if_true, true_or, or_true, or_false, false_or, am_kl, true_and, and_true, and_false, false_and, if_false, not_true_eq_false, not_false_eq_true, as_b0, as_b1, as_em, as_ne, List.length_cons, List.length_nil, Nat.reduceAdd, Int32.reduceLT, Int32.reduceLE, Int32.reduceAdd, Int32.reduceSub, Int32.neg_neg, Int32.reduceMul, Int32.reduceToNatClampNeg, Nat.reduceLeDiff, Nat.reduceLT, List.set_cons_zero, List.set_cons_succ, List.length_set, en_at, en_uu, en_gd]

theorem lp_26 {X : List Int32} {i : Nat} {I : Nat → Nat → Int32} {A : Nat → List Int32} {L : Nat → List Int64} {V : Nat → List Value} {W : Value} {Q : am_Mem} (hi : i + 6 ≤ X.length) (hX : X.length ≤ 3072) (S : md_Stp X 118 225 [.int (X.getD (i + 1) 0), .int (X.getD (i + 2) 0), .int (X.getD (i + 3) 0), .int (X.getD (i + 4) 0)] I A L V W Q) : lp_N X i 1015 I A L V W Q := by
  obtain ⟨v, I1, A1, L1, V1, W1, Q1, I2, A2, L2, V2, W2, Q2, h1, h2, h3, h4⟩ := S
  obtain ⟨x, rfl⟩ := lp_int (by decide +kernel) h1
  refine ⟨I2, A2, L2, V2, W2, Q2, ?_, h3, h4⟩
  have g1 : Int32.ofNat i + 1 = Int32.ofNat (i + 1) := as_add
  have n1 := as_nat (show i + 1 < 2147483648 by omega)
  have p1 := as_pos (show i + 1 < 2147483648 by omega)
  have x1 := lp_x (show i + 1 < X.length by omega)
  have g2 : Int32.ofNat i + 2 = Int32.ofNat (i + 2) := as_add
  have n2 := as_nat (show i + 2 < 2147483648 by omega)
  have p2 := as_pos (show i + 2 < 2147483648 by omega)
  have x2 := lp_x (show i + 2 < X.length by omega)
  have g3 : Int32.ofNat i + 3 = Int32.ofNat (i + 3) := as_add
  have n3 := as_nat (show i + 3 < 2147483648 by omega)
  have p3 := as_pos (show i + 3 < 2147483648 by omega)
  have x3 := lp_x (show i + 3 < X.length by omega)
  have g4 : Int32.ofNat i + 4 = Int32.ofNat (i + 4) := as_add
  have n4 := as_nat (show i + 4 < 2147483648 by omega)
  have p4 := as_pos (show i + 4 < 2147483648 by omega)
  have x4 := lp_x (show i + 4 < X.length by omega)
  have g6 : Int32.ofNat i + 6 = Int32.ofNat (i + 6) := as_add
  unfold lp_L
  simp only [q0_1015, q0_1015n, q0_1016, q0_1017, q0_1018, q0_1019, q0_1020, q0_1021, q0_1022, q0_1023, q0_1024, q0_1025, q0_1026, q0_1027, q0_1028, q0_1029, q0_1030, q0_1031, q0_1032, q0_1033, q0_1034, q0_1035, q0_1036, q0_1039, q0_1039n, q0_1040, q0_1041, q0_1042, q0_1043, q0_1044, q0_1045, q0_1046, q0_1047, q0_1048, q0_1049, q0_1050, q0_1051, q0_1052, q0_1053, q0_1054, q0_1055, q0_1056, q0_1057, q0_1058, q0_1059, q0_1060, q0_1063, q0_1066, q0_1067, q0_1463, q0_1466, g1, n1, p1, x1, g2, n2, p2, x2, g3, n3, p3, x3, g4, n4, p4, x4, g6, h1, h2, en_c0, en_c36, lp_lc, as_10, as_01, Nat.reduceBEq, Nat.reduceEqDiff, ↓reduceIte, Option.bind_some, Option.getD_some, Option.isSome_some, Option.isSome_none, Bool.false_eq_true, Option.toList, List.nil_append, List.cons_append, List.lookup, Option.isSome, List.getElem?_cons_zero, List.getElem?_cons_succ, beq_self_eq_true, if_true, true_or, or_true, or_false, false_or, am_kl, true_and, and_true, and_false, false_and, if_false, not_true_eq_false, not_false_eq_true, as_b0, as_b1, as_em, as_ne, List.length_cons, List.length_nil, Nat.reduceAdd, Int32.reduceLT, Int32.reduceLE, Int32.reduceAdd, Int32.reduceSub, Int32.neg_neg, Int32.reduceMul, Int32.reduceToNatClampNeg, Nat.reduceLeDiff, Nat.reduceLT, List.set_cons_zero, List.set_cons_succ, List.length_set, en_at, en_uu, en_gd]

theorem lp_27 {X : List Int32} {i : Nat} {I : Nat → Nat → Int32} {A : Nat → List Int32} {L : Nat → List Int64} {V : Nat → List Value} {W : Value} {Q : am_Mem} (hi : i + 6 ≤ X.length) (hX : X.length ≤ 3072) (S : md_Stp X 124 229 [.int (X.getD (i + 1) 0)] I A L V W Q) : lp_N X i 1068 I A L V W Q := by
  obtain ⟨v, I1, A1, L1, V1, W1, Q1, I2, A2, L2, V2, W2, Q2, h1, h2, h3, h4⟩ := S
  obtain ⟨x, rfl⟩ := lp_int (by decide +kernel) h1
  refine ⟨I2, A2, L2, V2, W2, Q2, ?_, h3, h4⟩
  have g1 : Int32.ofNat i + 1 = Int32.ofNat (i + 1) := as_add
  have n1 := as_nat (show i + 1 < 2147483648 by omega)
  have p1 := as_pos (show i + 1 < 2147483648 by omega)
  have x1 := lp_x (show i + 1 < X.length by omega)
  have g6 : Int32.ofNat i + 6 = Int32.ofNat (i + 6) := as_add
  unfold lp_L
  simp only [q0_1068, q0_1068n, q0_1069, q0_1070, q0_1071, q0_1072, q0_1073, q0_1074, q0_1077, q0_1077n, q0_1078, q0_1079, q0_1080, q0_1081, q0_1082, q0_1083, q0_1086, q0_1089, q0_1090, q0_1463, q0_1466, g1, n1, p1, x1, g6, h1, h2, en_c0, en_c36, lp_lc, as_10, as_01, Nat.reduceBEq, Nat.reduceEqDiff, ↓reduceIte, Option.bind_some, Option.getD_some, Option.isSome_some, Option.isSome_none, Bool.false_eq_true, Option.toList, List.nil_append, List.cons_append, List.lookup, Option.isSome, List.getElem?_cons_zero, List.getElem?_cons_succ, beq_self_eq_true, if_true, true_or, or_true, or_false, false_or, am_kl, true_and, and_true, and_false, false_and, if_false, not_true_eq_false, not_false_eq_true, as_b0, as_b1, as_em, as_ne, List.length_cons, List.length_nil, Nat.reduceAdd, Int32.reduceLT, Int32.reduceLE, Int32.reduceAdd, Int32.reduceSub, Int32.neg_neg, Int32.reduceMul, Int32.reduceToNatClampNeg, Nat.reduceLeDiff, Nat.reduceLT, List.set_cons_zero, List.set_cons_succ, List.length_set, en_at, en_uu, en_gd]

theorem lp_28 {X : List Int32} {i : Nat} {I : Nat → Nat → Int32} {A : Nat → List Int32} {L : Nat → List Int64} {V : Nat → List Value} {W : Value} {Q : am_Mem} (hi : i + 6 ≤ X.length) (hX : X.length ≤ 3072) (S : md_Stp X 125 230 [] I A L V W Q) : lp_N X i 1091 I A L V W Q := by
  obtain ⟨v, I1, A1, L1, V1, W1, Q1, I2, A2, L2, V2, W2, Q2, h1, h2, h3, h4⟩ := S
  obtain ⟨x, rfl⟩ := lp_int (by decide +kernel) h1
  refine ⟨I2, A2, L2, V2, W2, Q2, ?_, h3, h4⟩
  have g6 : Int32.ofNat i + 6 = Int32.ofNat (i + 6) := as_add
  unfold lp_L
  simp only [q0_1091, q0_1091n, q0_1092, q0_1095, q0_1095n, q0_1096, q0_1099, q0_1102, q0_1103, q0_1463, q0_1466, g6, h1, h2, en_c0, en_c36, lp_lc, as_10, as_01, Nat.reduceBEq, Nat.reduceEqDiff, ↓reduceIte, Option.bind_some, Option.getD_some, Option.isSome_some, Option.isSome_none, Bool.false_eq_true, Option.toList, List.nil_append, List.cons_append, List.lookup, Option.isSome, List.getElem?_cons_zero, List.getElem?_cons_succ, beq_self_eq_true, if_true, true_or, or_true, or_false, false_or, am_kl, true_and, and_true, and_false, false_and, if_false, not_true_eq_false, not_false_eq_true, as_b0, as_b1, as_em, as_ne, List.length_cons, List.length_nil, Nat.reduceAdd, Int32.reduceLT, Int32.reduceLE, Int32.reduceAdd, Int32.reduceSub, Int32.neg_neg, Int32.reduceMul, Int32.reduceToNatClampNeg, Nat.reduceLeDiff, Nat.reduceLT, List.set_cons_zero, List.set_cons_succ, List.length_set, en_at, en_uu, en_gd]

theorem lp_29 {X : List Int32} {i : Nat} {I : Nat → Nat → Int32} {A : Nat → List Int32} {L : Nat → List Int64} {V : Nat → List Value} {W : Value} {Q : am_Mem} (hi : i + 6 ≤ X.length) (hX : X.length ≤ 3072) (S : md_Stp X 127 231 [.int (X.getD (i + 1) 0), .int (X.getD (i + 2) 0)] I A L V W Q) : lp_N X i 1104 I A L V W Q := by
  obtain ⟨v, I1, A1, L1, V1, W1, Q1, I2, A2, L2, V2, W2, Q2, h1, h2, h3, h4⟩ := S
  obtain ⟨x, rfl⟩ := lp_int (by decide +kernel) h1
  refine ⟨I2, A2, L2, V2, W2, Q2, ?_, h3, h4⟩
  have g1 : Int32.ofNat i + 1 = Int32.ofNat (i + 1) := as_add
  have n1 := as_nat (show i + 1 < 2147483648 by omega)
  have p1 := as_pos (show i + 1 < 2147483648 by omega)
  have x1 := lp_x (show i + 1 < X.length by omega)
  have g2 : Int32.ofNat i + 2 = Int32.ofNat (i + 2) := as_add
  have n2 := as_nat (show i + 2 < 2147483648 by omega)
  have p2 := as_pos (show i + 2 < 2147483648 by omega)
  have x2 := lp_x (show i + 2 < X.length by omega)
  have g6 : Int32.ofNat i + 6 = Int32.ofNat (i + 6) := as_add
  unfold lp_L
  simp only [q0_1104, q0_1104n, q0_1105, q0_1106, q0_1107, q0_1108, q0_1109, q0_1110, q0_1111, q0_1112, q0_1113, q0_1114, q0_1115, q0_1118, q0_1118n, q0_1119, q0_1120, q0_1121, q0_1122, q0_1123, q0_1124, q0_1125, q0_1126, q0_1127, q0_1128, q0_1129, q0_1132, q0_1135, q0_1136, q0_1463, q0_1466, g1, n1, p1, x1, g2, n2, p2, x2, g6, h1, h2, en_c0, en_c36, lp_lc, as_10, as_01, Nat.reduceBEq, Nat.reduceEqDiff, ↓reduceIte, Option.bind_some, Option.getD_some, Option.isSome_some, Option.isSome_none, Bool.false_eq_true, Option.toList, List.nil_append, List.cons_append, List.lookup, Option.isSome, List.getElem?_cons_zero, List.getElem?_cons_succ, beq_self_eq_true, if_true, true_or, or_true, or_false, false_or, am_kl, true_and, and_true, and_false, false_and, if_false, not_true_eq_false, not_false_eq_true, as_b0, as_b1, as_em, as_ne, List.length_cons, List.length_nil, Nat.reduceAdd, Int32.reduceLT, Int32.reduceLE, Int32.reduceAdd, Int32.reduceSub, Int32.neg_neg, Int32.reduceMul, Int32.reduceToNatClampNeg, Nat.reduceLeDiff, Nat.reduceLT, List.set_cons_zero, List.set_cons_succ, List.length_set, en_at, en_uu, en_gd]

theorem lp_30 {X : List Int32} {i : Nat} {I : Nat → Nat → Int32} {A : Nat → List Int32} {L : Nat → List Int64} {V : Nat → List Value} {W : Value} {Q : am_Mem} (hi : i + 6 ≤ X.length) (hX : X.length ≤ 3072) (S : md_Stp X 130 235 [.int (X.getD (i + 1) 0), .int (X.getD (i + 2) 0), .int (X.getD (i + 3) 0)] I A L V W Q) : lp_N X i 1137 I A L V W Q := by
  obtain ⟨v, I1, A1, L1, V1, W1, Q1, I2, A2, L2, V2, W2, Q2, h1, h2, h3, h4⟩ := S
  obtain ⟨x, rfl⟩ := lp_int (by decide +kernel) h1
  refine ⟨I2, A2, L2, V2, W2, Q2, ?_, h3, h4⟩
  have g1 : Int32.ofNat i + 1 = Int32.ofNat (i + 1) := as_add
  have n1 := as_nat (show i + 1 < 2147483648 by omega)
  have p1 := as_pos (show i + 1 < 2147483648 by omega)
  have x1 := lp_x (show i + 1 < X.length by omega)
  have g2 : Int32.ofNat i + 2 = Int32.ofNat (i + 2) := as_add
  have n2 := as_nat (show i + 2 < 2147483648 by omega)
  have p2 := as_pos (show i + 2 < 2147483648 by omega)
  have x2 := lp_x (show i + 2 < X.length by omega)
  have g3 : Int32.ofNat i + 3 = Int32.ofNat (i + 3) := as_add
  have n3 := as_nat (show i + 3 < 2147483648 by omega)
  have p3 := as_pos (show i + 3 < 2147483648 by omega)
  have x3 := lp_x (show i + 3 < X.length by omega)
  have g6 : Int32.ofNat i + 6 = Int32.ofNat (i + 6) := as_add
  unfold lp_L
  simp only [q0_1137, q0_1137n, q0_1138, q0_1139, q0_1140, q0_1141, q0_1142, q0_1143, q0_1144, q0_1145, q0_1146, q0_1147, q0_1148, q0_1149, q0_1150, q0_1151, q0_1152, q0_1153, q0_1156, q0_1156n, q0_1157, q0_1158, q0_1159, q0_1160, q0_1161, q0_1162, q0_1163, q0_1164, q0_1165, q0_1166, q0_1167, q0_1168, q0_1169, q0_1170, q0_1171, q0_1172, q0_1175, q0_1178, q0_1179, q0_1463, q0_1466, g1, n1, p1, x1, g2, n2, p2, x2, g3, n3, p3, x3, g6, h1, h2, en_c0, en_c36, lp_lc, as_10, as_01, Nat.reduceBEq, Nat.reduceEqDiff, ↓reduceIte, Option.bind_some, Option.getD_some, Option.isSome_some, Option.isSome_none, Bool.false_eq_true, Option.toList, List.nil_append, List.cons_append, List.lookup, Option.isSome, List.getElem?_cons_zero, List.getElem?_cons_succ, beq_self_eq_true, if_true, true_or, or_true, or_false, false_or, am_kl, true_and, and_true, and_false, false_and, if_false, not_true_eq_false, not_false_eq_true, as_b0, as_b1, as_em, as_ne, List.length_cons, List.length_nil, Nat.reduceAdd, Int32.reduceLT, Int32.reduceLE, Int32.reduceAdd, Int32.reduceSub, Int32.neg_neg, Int32.reduceMul, Int32.reduceToNatClampNeg, Nat.reduceLeDiff, Nat.reduceLT, List.set_cons_zero, List.set_cons_succ, List.length_set, en_at, en_uu, en_gd]

theorem lp_31 {X : List Int32} {i : Nat} {I : Nat → Nat → Int32} {A : Nat → List Int32} {L : Nat → List Int64} {V : Nat → List Value} {W : Value} {Q : am_Mem} (hi : i + 6 ≤ X.length) (hX : X.length ≤ 3072) (S : md_Stp X 132 236 [.int (X.getD (i + 1) 0), .int (X.getD (i + 2) 0), .int (X.getD (i + 3) 0)] I A L V W Q) : lp_N X i 1180 I A L V W Q := by
  obtain ⟨v, I1, A1, L1, V1, W1, Q1, I2, A2, L2, V2, W2, Q2, h1, h2, h3, h4⟩ := S
  obtain ⟨x, rfl⟩ := lp_int (by decide +kernel) h1
  refine ⟨I2, A2, L2, V2, W2, Q2, ?_, h3, h4⟩
  have g1 : Int32.ofNat i + 1 = Int32.ofNat (i + 1) := as_add
  have n1 := as_nat (show i + 1 < 2147483648 by omega)
  have p1 := as_pos (show i + 1 < 2147483648 by omega)
  have x1 := lp_x (show i + 1 < X.length by omega)
  have g2 : Int32.ofNat i + 2 = Int32.ofNat (i + 2) := as_add
  have n2 := as_nat (show i + 2 < 2147483648 by omega)
  have p2 := as_pos (show i + 2 < 2147483648 by omega)
  have x2 := lp_x (show i + 2 < X.length by omega)
  have g3 : Int32.ofNat i + 3 = Int32.ofNat (i + 3) := as_add
  have n3 := as_nat (show i + 3 < 2147483648 by omega)
  have p3 := as_pos (show i + 3 < 2147483648 by omega)
  have x3 := lp_x (show i + 3 < X.length by omega)
  have g6 : Int32.ofNat i + 6 = Int32.ofNat (i + 6) := as_add
  unfold lp_L
  simp only [q0_1180, q0_1180n, q0_1181, q0_1182, q0_1183, q0_1184, q0_1185, q0_1186, q0_1187, q0_1188, q0_1189, q0_1190, q0_1191, q0_1192, q0_1193, q0_1194, q0_1195, q0_1196, q0_1199, q0_1199n, q0_1200, q0_1201, q0_1202, q0_1203, q0_1204, q0_1205, q0_1206, q0_1207, q0_1208, q0_1209, q0_1210, q0_1211, q0_1212, q0_1213, q0_1214, q0_1215, q0_1218, q0_1221, q0_1222, q0_1463, q0_1466, g1, n1, p1, x1, g2, n2, p2, x2, g3, n3, p3, x3, g6, h1, h2, en_c0, en_c36, lp_lc, as_10, as_01, Nat.reduceBEq, Nat.reduceEqDiff, ↓reduceIte, Option.bind_some, Option.getD_some, Option.isSome_some, Option.isSome_none, Bool.false_eq_true, Option.toList, List.nil_append, List.cons_append, List.lookup, Option.isSome, List.getElem?_cons_zero, List.getElem?_cons_succ, beq_self_eq_true, if_true, true_or, or_true, or_false, false_or, am_kl, true_and, and_true, and_false, false_and, if_false, not_true_eq_false, not_false_eq_true, as_b0, as_b1, as_em, as_ne, List.length_cons, List.length_nil, Nat.reduceAdd, Int32.reduceLT, Int32.reduceLE, Int32.reduceAdd, Int32.reduceSub, Int32.neg_neg, Int32.reduceMul, Int32.reduceToNatClampNeg, Nat.reduceLeDiff, Nat.reduceLT, List.set_cons_zero, List.set_cons_succ, List.length_set, en_at, en_uu, en_gd]

theorem lp_32 {X : List Int32} {i : Nat} {I : Nat → Nat → Int32} {A : Nat → List Int32} {L : Nat → List Int64} {V : Nat → List Value} {W : Value} {Q : am_Mem} (hi : i + 6 ≤ X.length) (hX : X.length ≤ 3072) (S : md_Stp X 134 237 [.int (X.getD (i + 1) 0), .int (X.getD (i + 2) 0), .int (X.getD (i + 3) 0)] I A L V W Q) : lp_N X i 1223 I A L V W Q := by
  obtain ⟨v, I1, A1, L1, V1, W1, Q1, I2, A2, L2, V2, W2, Q2, h1, h2, h3, h4⟩ := S
  obtain ⟨x, rfl⟩ := lp_int (by decide +kernel) h1
  refine ⟨I2, A2, L2, V2, W2, Q2, ?_, h3, h4⟩
  have g1 : Int32.ofNat i + 1 = Int32.ofNat (i + 1) := as_add
  have n1 := as_nat (show i + 1 < 2147483648 by omega)
  have p1 := as_pos (show i + 1 < 2147483648 by omega)
  have x1 := lp_x (show i + 1 < X.length by omega)
  have g2 : Int32.ofNat i + 2 = Int32.ofNat (i + 2) := as_add
  have n2 := as_nat (show i + 2 < 2147483648 by omega)
  have p2 := as_pos (show i + 2 < 2147483648 by omega)
  have x2 := lp_x (show i + 2 < X.length by omega)
  have g3 : Int32.ofNat i + 3 = Int32.ofNat (i + 3) := as_add
  have n3 := as_nat (show i + 3 < 2147483648 by omega)
  have p3 := as_pos (show i + 3 < 2147483648 by omega)
  have x3 := lp_x (show i + 3 < X.length by omega)
  have g6 : Int32.ofNat i + 6 = Int32.ofNat (i + 6) := as_add
  unfold lp_L
  simp only [q0_1223, q0_1223n, q0_1224, q0_1225, q0_1226, q0_1227, q0_1228, q0_1229, q0_1230, q0_1231, q0_1232, q0_1233, q0_1234, q0_1235, q0_1236, q0_1237, q0_1238, q0_1239, q0_1242, q0_1242n, q0_1243, q0_1244, q0_1245, q0_1246, q0_1247, q0_1248, q0_1249, q0_1250, q0_1251, q0_1252, q0_1253, q0_1254, q0_1255, q0_1256, q0_1257, q0_1258, q0_1261, q0_1264, q0_1265, q0_1463, q0_1466, g1, n1, p1, x1, g2, n2, p2, x2, g3, n3, p3, x3, g6, h1, h2, en_c0, en_c36, lp_lc, as_10, as_01, Nat.reduceBEq, Nat.reduceEqDiff, ↓reduceIte, Option.bind_some, Option.getD_some, Option.isSome_some, Option.isSome_none, Bool.false_eq_true, Option.toList, List.nil_append, List.cons_append, List.lookup, Option.isSome, List.getElem?_cons_zero, List.getElem?_cons_succ, beq_self_eq_true, if_true, true_or, or_true, or_false, false_or, am_kl, true_and, and_true, and_false, false_and, if_false, not_true_eq_false, not_false_eq_true, as_b0, as_b1, as_em, as_ne, List.length_cons, List.length_nil, Nat.reduceAdd, Int32.reduceLT, Int32.reduceLE, Int32.reduceAdd, Int32.reduceSub, Int32.neg_neg, Int32.reduceMul, Int32.reduceToNatClampNeg, Nat.reduceLeDiff, Nat.reduceLT, List.set_cons_zero, List.set_cons_succ, List.length_set, en_at, en_uu, en_gd]

theorem lp_33 {X : List Int32} {i : Nat} {I : Nat → Nat → Int32} {A : Nat → List Int32} {L : Nat → List Int64} {V : Nat → List Value} {W : Value} {Q : am_Mem} (hi : i + 6 ≤ X.length) (hX : X.length ≤ 3072) (S : md_Stp X 140 239 [.int (X.getD (i + 1) 0)] I A L V W Q) : lp_N X i 1266 I A L V W Q := by
  obtain ⟨v, I1, A1, L1, V1, W1, Q1, I2, A2, L2, V2, W2, Q2, h1, h2, h3, h4⟩ := S
  obtain ⟨x, rfl⟩ := lp_int (by decide +kernel) h1
  refine ⟨I2, A2, L2, V2, W2, Q2, ?_, h3, h4⟩
  have g1 : Int32.ofNat i + 1 = Int32.ofNat (i + 1) := as_add
  have n1 := as_nat (show i + 1 < 2147483648 by omega)
  have p1 := as_pos (show i + 1 < 2147483648 by omega)
  have x1 := lp_x (show i + 1 < X.length by omega)
  have g6 : Int32.ofNat i + 6 = Int32.ofNat (i + 6) := as_add
  unfold lp_L
  simp only [q0_1266, q0_1266n, q0_1267, q0_1268, q0_1269, q0_1270, q0_1271, q0_1272, q0_1275, q0_1275n, q0_1276, q0_1277, q0_1278, q0_1279, q0_1280, q0_1281, q0_1284, q0_1287, q0_1288, q0_1463, q0_1466, g1, n1, p1, x1, g6, h1, h2, en_c0, en_c36, lp_lc, as_10, as_01, Nat.reduceBEq, Nat.reduceEqDiff, ↓reduceIte, Option.bind_some, Option.getD_some, Option.isSome_some, Option.isSome_none, Bool.false_eq_true, Option.toList, List.nil_append, List.cons_append, List.lookup, Option.isSome, List.getElem?_cons_zero, List.getElem?_cons_succ, beq_self_eq_true, if_true, true_or, or_true, or_false, false_or, am_kl, true_and, and_true, and_false, false_and, if_false, not_true_eq_false, not_false_eq_true, as_b0, as_b1, as_em, as_ne, List.length_cons, List.length_nil, Nat.reduceAdd, Int32.reduceLT, Int32.reduceLE, Int32.reduceAdd, Int32.reduceSub, Int32.neg_neg, Int32.reduceMul, Int32.reduceToNatClampNeg, Nat.reduceLeDiff, Nat.reduceLT, List.set_cons_zero, List.set_cons_succ, List.length_set, en_at, en_uu, en_gd]

theorem lp_34 {X : List Int32} {i : Nat} {I : Nat → Nat → Int32} {A : Nat → List Int32} {L : Nat → List Int64} {V : Nat → List Value} {W : Value} {Q : am_Mem} (hi : i + 6 ≤ X.length) (hX : X.length ≤ 3072) (S : md_Stp X 141 240 [.int (X.getD (i + 1) 0)] I A L V W Q) : lp_N X i 1289 I A L V W Q := by
  obtain ⟨v, I1, A1, L1, V1, W1, Q1, I2, A2, L2, V2, W2, Q2, h1, h2, h3, h4⟩ := S
  obtain ⟨x, rfl⟩ := lp_int (by decide +kernel) h1
  refine ⟨I2, A2, L2, V2, W2, Q2, ?_, h3, h4⟩
  have g1 : Int32.ofNat i + 1 = Int32.ofNat (i + 1) := as_add
  have n1 := as_nat (show i + 1 < 2147483648 by omega)
  have p1 := as_pos (show i + 1 < 2147483648 by omega)
  have x1 := lp_x (show i + 1 < X.length by omega)
  have g6 : Int32.ofNat i + 6 = Int32.ofNat (i + 6) := as_add
  unfold lp_L
  simp only [q0_1289, q0_1289n, q0_1290, q0_1291, q0_1292, q0_1293, q0_1294, q0_1295, q0_1298, q0_1298n, q0_1299, q0_1300, q0_1301, q0_1302, q0_1303, q0_1304, q0_1307, q0_1310, q0_1311, q0_1463, q0_1466, g1, n1, p1, x1, g6, h1, h2, en_c0, en_c36, lp_lc, as_10, as_01, Nat.reduceBEq, Nat.reduceEqDiff, ↓reduceIte, Option.bind_some, Option.getD_some, Option.isSome_some, Option.isSome_none, Bool.false_eq_true, Option.toList, List.nil_append, List.cons_append, List.lookup, Option.isSome, List.getElem?_cons_zero, List.getElem?_cons_succ, beq_self_eq_true, if_true, true_or, or_true, or_false, false_or, am_kl, true_and, and_true, and_false, false_and, if_false, not_true_eq_false, not_false_eq_true, as_b0, as_b1, as_em, as_ne, List.length_cons, List.length_nil, Nat.reduceAdd, Int32.reduceLT, Int32.reduceLE, Int32.reduceAdd, Int32.reduceSub, Int32.neg_neg, Int32.reduceMul, Int32.reduceToNatClampNeg, Nat.reduceLeDiff, Nat.reduceLT, List.set_cons_zero, List.set_cons_succ, List.length_set, en_at, en_uu, en_gd]

theorem lp_35 {X : List Int32} {i : Nat} {I : Nat → Nat → Int32} {A : Nat → List Int32} {L : Nat → List Int64} {V : Nat → List Value} {W : Value} {Q : am_Mem} (hi : i + 6 ≤ X.length) (hX : X.length ≤ 3072) (S : md_Stp X 144 242 [] I A L V W Q) : lp_N X i 1312 I A L V W Q := by
  obtain ⟨v, I1, A1, L1, V1, W1, Q1, I2, A2, L2, V2, W2, Q2, h1, h2, h3, h4⟩ := S
  obtain ⟨x, rfl⟩ := lp_int (by decide +kernel) h1
  refine ⟨I2, A2, L2, V2, W2, Q2, ?_, h3, h4⟩
  have g6 : Int32.ofNat i + 6 = Int32.ofNat (i + 6) := as_add
  unfold lp_L
  simp only [q0_1312, q0_1312n, q0_1313, q0_1316, q0_1316n, q0_1317, q0_1320, q0_1323, q0_1324, q0_1463, q0_1466, g6, h1, h2, en_c0, en_c36, lp_lc, as_10, as_01, Nat.reduceBEq, Nat.reduceEqDiff, ↓reduceIte, Option.bind_some, Option.getD_some, Option.isSome_some, Option.isSome_none, Bool.false_eq_true, Option.toList, List.nil_append, List.cons_append, List.lookup, Option.isSome, List.getElem?_cons_zero, List.getElem?_cons_succ, beq_self_eq_true, if_true, true_or, or_true, or_false, false_or, am_kl, true_and, and_true, and_false, false_and, if_false, not_true_eq_false, not_false_eq_true, as_b0, as_b1, as_em, as_ne, List.length_cons, List.length_nil, Nat.reduceAdd, Int32.reduceLT, Int32.reduceLE, Int32.reduceAdd, Int32.reduceSub, Int32.neg_neg, Int32.reduceMul, Int32.reduceToNatClampNeg, Nat.reduceLeDiff, Nat.reduceLT, List.set_cons_zero, List.set_cons_succ, List.length_set, en_at, en_uu, en_gd]

theorem lp_36 {X : List Int32} {i : Nat} {I : Nat → Nat → Int32} {A : Nat → List Int32} {L : Nat → List Int64} {V : Nat → List Value} {W : Value} {Q : am_Mem} (hi : i + 6 ≤ X.length) (hX : X.length ≤ 3072) (S : md_Stp X 145 243 [.int (X.getD (i + 1) 0)] I A L V W Q) : lp_N X i 1325 I A L V W Q := by
  obtain ⟨v, I1, A1, L1, V1, W1, Q1, I2, A2, L2, V2, W2, Q2, h1, h2, h3, h4⟩ := S
  obtain ⟨x, rfl⟩ := lp_int (by decide +kernel) h1
  refine ⟨I2, A2, L2, V2, W2, Q2, ?_, h3, h4⟩
  have g1 : Int32.ofNat i + 1 = Int32.ofNat (i + 1) := as_add
  have n1 := as_nat (show i + 1 < 2147483648 by omega)
  have p1 := as_pos (show i + 1 < 2147483648 by omega)
  have x1 := lp_x (show i + 1 < X.length by omega)
  have g6 : Int32.ofNat i + 6 = Int32.ofNat (i + 6) := as_add
  unfold lp_L
  simp only [q0_1325, q0_1325n, q0_1326, q0_1327, q0_1328, q0_1329, q0_1330, q0_1331, q0_1334, q0_1334n, q0_1335, q0_1336, q0_1337, q0_1338, q0_1339, q0_1340, q0_1343, q0_1346, q0_1347, q0_1463, q0_1466, g1, n1, p1, x1, g6, h1, h2, en_c0, en_c36, lp_lc, as_10, as_01, Nat.reduceBEq, Nat.reduceEqDiff, ↓reduceIte, Option.bind_some, Option.getD_some, Option.isSome_some, Option.isSome_none, Bool.false_eq_true, Option.toList, List.nil_append, List.cons_append, List.lookup, Option.isSome, List.getElem?_cons_zero, List.getElem?_cons_succ, beq_self_eq_true, if_true, true_or, or_true, or_false, false_or, am_kl, true_and, and_true, and_false, false_and, if_false, not_true_eq_false, not_false_eq_true, as_b0, as_b1, as_em, as_ne, List.length_cons, List.length_nil, Nat.reduceAdd, Int32.reduceLT, Int32.reduceLE, Int32.reduceAdd, Int32.reduceSub, Int32.neg_neg, Int32.reduceMul, Int32.reduceToNatClampNeg, Nat.reduceLeDiff, Nat.reduceLT, List.set_cons_zero, List.set_cons_succ, List.length_set, en_at, en_uu, en_gd]

theorem lp_37 {X : List Int32} {i : Nat} {I : Nat → Nat → Int32} {A : Nat → List Int32} {L : Nat → List Int64} {V : Nat → List Value} {W : Value} {Q : am_Mem} (hi : i + 6 ≤ X.length) (hX : X.length ≤ 3072) (S : md_Stp X 146 244 [.int (X.getD (i + 1) 0), .int (X.getD (i + 2) 0), .int (X.getD (i + 3) 0)] I A L V W Q) : lp_N X i 1348 I A L V W Q := by
  obtain ⟨v, I1, A1, L1, V1, W1, Q1, I2, A2, L2, V2, W2, Q2, h1, h2, h3, h4⟩ := S
  obtain ⟨x, rfl⟩ := lp_int (by decide +kernel) h1
  refine ⟨I2, A2, L2, V2, W2, Q2, ?_, h3, h4⟩
  have g1 : Int32.ofNat i + 1 = Int32.ofNat (i + 1) := as_add
  have n1 := as_nat (show i + 1 < 2147483648 by omega)
  have p1 := as_pos (show i + 1 < 2147483648 by omega)
  have x1 := lp_x (show i + 1 < X.length by omega)
  have g2 : Int32.ofNat i + 2 = Int32.ofNat (i + 2) := as_add
  have n2 := as_nat (show i + 2 < 2147483648 by omega)
  have p2 := as_pos (show i + 2 < 2147483648 by omega)
  have x2 := lp_x (show i + 2 < X.length by omega)
  have g3 : Int32.ofNat i + 3 = Int32.ofNat (i + 3) := as_add
  have n3 := as_nat (show i + 3 < 2147483648 by omega)
  have p3 := as_pos (show i + 3 < 2147483648 by omega)
  have x3 := lp_x (show i + 3 < X.length by omega)
  have g6 : Int32.ofNat i + 6 = Int32.ofNat (i + 6) := as_add
  unfold lp_L
  simp only [q0_1348, q0_1348n, q0_1349, q0_1350, q0_1351, q0_1352, q0_1353, q0_1354, q0_1355, q0_1356, q0_1357, q0_1358, q0_1359, q0_1360, q0_1361, q0_1362, q0_1363, q0_1364, q0_1367, q0_1367n, q0_1368, q0_1369, q0_1370, q0_1371, q0_1372, q0_1373, q0_1374, q0_1375, q0_1376, q0_1377, q0_1378, q0_1379, q0_1380, q0_1381, q0_1382, q0_1383, q0_1386, q0_1389, q0_1390, q0_1463, q0_1466, g1, n1, p1, x1, g2, n2, p2, x2, g3, n3, p3, x3, g6, h1, h2, en_c0, en_c36, lp_lc, as_10, as_01, Nat.reduceBEq, Nat.reduceEqDiff, ↓reduceIte, Option.bind_some, Option.getD_some, Option.isSome_some, Option.isSome_none, Bool.false_eq_true, Option.toList, List.nil_append, List.cons_append, List.lookup, Option.isSome, List.getElem?_cons_zero, List.getElem?_cons_succ, beq_self_eq_true, if_true, true_or, or_true, or_false, false_or, am_kl, true_and, and_true, and_false, false_and, if_false, not_true_eq_false, not_false_eq_true, as_b0, as_b1, as_em, as_ne, List.length_cons, List.length_nil, Nat.reduceAdd, Int32.reduceLT, Int32.reduceLE, Int32.reduceAdd, Int32.reduceSub, Int32.neg_neg, Int32.reduceMul, Int32.reduceToNatClampNeg, Nat.reduceLeDiff, Nat.reduceLT, List.set_cons_zero, List.set_cons_succ, List.length_set, en_at, en_uu, en_gd]

theorem lp_38 {X : List Int32} {i : Nat} {I : Nat → Nat → Int32} {A : Nat → List Int32} {L : Nat → List Int64} {V : Nat → List Value} {W : Value} {Q : am_Mem} (hi : i + 6 ≤ X.length) (hX : X.length ≤ 3072) (S : md_Stp X 159 250 [.int (X.getD (i + 1) 0)] I A L V W Q) : lp_N X i 1391 I A L V W Q := by
  obtain ⟨v, I1, A1, L1, V1, W1, Q1, I2, A2, L2, V2, W2, Q2, h1, h2, h3, h4⟩ := S
  obtain ⟨x, rfl⟩ := lp_int (by decide +kernel) h1
  refine ⟨I2, A2, L2, V2, W2, Q2, ?_, h3, h4⟩
  have g1 : Int32.ofNat i + 1 = Int32.ofNat (i + 1) := as_add
  have n1 := as_nat (show i + 1 < 2147483648 by omega)
  have p1 := as_pos (show i + 1 < 2147483648 by omega)
  have x1 := lp_x (show i + 1 < X.length by omega)
  have g6 : Int32.ofNat i + 6 = Int32.ofNat (i + 6) := as_add
  unfold lp_L
  simp only [q0_1391, q0_1391n, q0_1392, q0_1393, q0_1394, q0_1395, q0_1396, q0_1397, q0_1400, q0_1400n, q0_1401, q0_1402, q0_1403, q0_1404, q0_1405, q0_1406, q0_1409, q0_1412, q0_1413, q0_1463, q0_1466, g1, n1, p1, x1, g6, h1, h2, en_c0, en_c36, lp_lc, as_10, as_01, Nat.reduceBEq, Nat.reduceEqDiff, ↓reduceIte, Option.bind_some, Option.getD_some, Option.isSome_some, Option.isSome_none, Bool.false_eq_true, Option.toList, List.nil_append, List.cons_append, List.lookup, Option.isSome, List.getElem?_cons_zero, List.getElem?_cons_succ, beq_self_eq_true, if_true, true_or, or_true, or_false, false_or, am_kl, true_and, and_true, and_false, false_and, if_false, not_true_eq_false, not_false_eq_true, as_b0, as_b1, as_em, as_ne, List.length_cons, List.length_nil, Nat.reduceAdd, Int32.reduceLT, Int32.reduceLE, Int32.reduceAdd, Int32.reduceSub, Int32.neg_neg, Int32.reduceMul, Int32.reduceToNatClampNeg, Nat.reduceLeDiff, Nat.reduceLT, List.set_cons_zero, List.set_cons_succ, List.length_set, en_at, en_uu, en_gd]

theorem lp_39 {X : List Int32} {i : Nat} {I : Nat → Nat → Int32} {A : Nat → List Int32} {L : Nat → List Int64} {V : Nat → List Value} {W : Value} {Q : am_Mem} (hi : i + 6 ≤ X.length) (hX : X.length ≤ 3072) (S : md_Stp X 160 251 [] I A L V W Q) : lp_N X i 1414 I A L V W Q := by
  obtain ⟨v, I1, A1, L1, V1, W1, Q1, I2, A2, L2, V2, W2, Q2, h1, h2, h3, h4⟩ := S
  obtain ⟨x, rfl⟩ := lp_int (by decide +kernel) h1
  refine ⟨I2, A2, L2, V2, W2, Q2, ?_, h3, h4⟩
  have g6 : Int32.ofNat i + 6 = Int32.ofNat (i + 6) := as_add
  unfold lp_L
  simp only [q0_1414, q0_1414n, q0_1415, q0_1418, q0_1418n, q0_1419, q0_1422, q0_1425, q0_1426, q0_1463, q0_1466, g6, h1, h2, en_c0, en_c36, lp_lc, as_10, as_01, Nat.reduceBEq, Nat.reduceEqDiff, ↓reduceIte, Option.bind_some, Option.getD_some, Option.isSome_some, Option.isSome_none, Bool.false_eq_true, Option.toList, List.nil_append, List.cons_append, List.lookup, Option.isSome, List.getElem?_cons_zero, List.getElem?_cons_succ, beq_self_eq_true, if_true, true_or, or_true, or_false, false_or, am_kl, true_and, and_true, and_false, false_and, if_false, not_true_eq_false, not_false_eq_true, as_b0, as_b1, as_em, as_ne, List.length_cons, List.length_nil, Nat.reduceAdd, Int32.reduceLT, Int32.reduceLE, Int32.reduceAdd, Int32.reduceSub, Int32.neg_neg, Int32.reduceMul, Int32.reduceToNatClampNeg, Nat.reduceLeDiff, Nat.reduceLT, List.set_cons_zero, List.set_cons_succ, List.length_set, en_at, en_uu, en_gd]

theorem lp_40 {X : List Int32} {i : Nat} {I : Nat → Nat → Int32} {A : Nat → List Int32} {L : Nat → List Int64} {V : Nat → List Value} {W : Value} {Q : am_Mem} (hi : i + 6 ≤ X.length) (hX : X.length ≤ 3072) (S : md_Stp X 161 252 [] I A L V W Q) : lp_N X i 1427 I A L V W Q := by
  obtain ⟨v, I1, A1, L1, V1, W1, Q1, I2, A2, L2, V2, W2, Q2, h1, h2, h3, h4⟩ := S
  obtain ⟨x, rfl⟩ := lp_int (by decide +kernel) h1
  refine ⟨I2, A2, L2, V2, W2, Q2, ?_, h3, h4⟩
  have g6 : Int32.ofNat i + 6 = Int32.ofNat (i + 6) := as_add
  unfold lp_L
  simp only [q0_1427, q0_1427n, q0_1428, q0_1431, q0_1431n, q0_1432, q0_1435, q0_1438, q0_1439, q0_1463, q0_1466, g6, h1, h2, en_c0, en_c36, lp_lc, as_10, as_01, Nat.reduceBEq, Nat.reduceEqDiff, ↓reduceIte, Option.bind_some, Option.getD_some, Option.isSome_some, Option.isSome_none, Bool.false_eq_true, Option.toList, List.nil_append, List.cons_append, List.lookup, Option.isSome, List.getElem?_cons_zero, List.getElem?_cons_succ, beq_self_eq_true, if_true, true_or, or_true, or_false, false_or, am_kl, true_and, and_true, and_false, false_and, if_false, not_true_eq_false, not_false_eq_true, as_b0, as_b1, as_em, as_ne, List.length_cons, List.length_nil, Nat.reduceAdd, Int32.reduceLT, Int32.reduceLE, Int32.reduceAdd, Int32.reduceSub, Int32.neg_neg, Int32.reduceMul, Int32.reduceToNatClampNeg, Nat.reduceLeDiff, Nat.reduceLT, List.set_cons_zero, List.set_cons_succ, List.length_set, en_at, en_uu, en_gd]

theorem lp_41 {X : List Int32} {i : Nat} {I : Nat → Nat → Int32} {A : Nat → List Int32} {L : Nat → List Int64} {V : Nat → List Value} {W : Value} {Q : am_Mem} (hi : i + 6 ≤ X.length) (hX : X.length ≤ 3072) (S : md_Stp X 162 253 [.int (X.getD (i + 1) 0)] I A L V W Q) : lp_N X i 1440 I A L V W Q := by
  obtain ⟨v, I1, A1, L1, V1, W1, Q1, I2, A2, L2, V2, W2, Q2, h1, h2, h3, h4⟩ := S
  obtain ⟨x, rfl⟩ := lp_int (by decide +kernel) h1
  refine ⟨I2, A2, L2, V2, W2, Q2, ?_, h3, h4⟩
  have g1 : Int32.ofNat i + 1 = Int32.ofNat (i + 1) := as_add
  have n1 := as_nat (show i + 1 < 2147483648 by omega)
  have p1 := as_pos (show i + 1 < 2147483648 by omega)
  have x1 := lp_x (show i + 1 < X.length by omega)
  have g6 : Int32.ofNat i + 6 = Int32.ofNat (i + 6) := as_add
  unfold lp_L
  simp only [q0_1440, q0_1440n, q0_1441, q0_1442, q0_1443, q0_1444, q0_1445, q0_1446, q0_1449, q0_1449n, q0_1450, q0_1451, q0_1452, q0_1453, q0_1454, q0_1455, q0_1458, q0_1461, q0_1462, q0_1463, q0_1466, g1, n1, p1, x1, g6, h1, h2, en_c0, en_c36, lp_lc, as_10, as_01, Nat.reduceBEq, Nat.reduceEqDiff, ↓reduceIte, Option.bind_some, Option.getD_some, Option.isSome_some, Option.isSome_none, Bool.false_eq_true, Option.toList, List.nil_append, List.cons_append, List.lookup, Option.isSome, List.getElem?_cons_zero, List.getElem?_cons_succ, beq_self_eq_true, if_true, true_or, or_true, or_false, false_or, am_kl, true_and, and_true, and_false, false_and, if_false, not_true_eq_false, not_false_eq_true, as_b0, as_b1, as_em, as_ne, List.length_cons, List.length_nil, Nat.reduceAdd, Int32.reduceLT, Int32.reduceLE, Int32.reduceAdd, Int32.reduceSub, Int32.neg_neg, Int32.reduceMul, Int32.reduceToNatClampNeg, Nat.reduceLeDiff, Nat.reduceLT, List.set_cons_zero, List.set_cons_succ, List.length_set, en_at, en_uu, en_gd]

theorem as_l6 {a b : Nat} (ha : a ≤ 3072) (hb : b ≤ 4000) : (Int32.ofNat a - 6 < Int32.ofNat b) ↔ a < b + 6 := by
  rw [Int32.lt_iff_toInt_lt, Int32.toInt_sub, Int32.toInt_ofNat_of_lt (by omega), Int32.toInt_ofNat_of_lt (by omega)]
  rw [show (6 : Int32).toInt = 6 from rfl, Int.bmod_eq_of_le (by omega) (by omega)]
  omega
theorem lp_head {X : List Int32} {i : Nat} {M : am_Mem} (hX : X.length ≤ 3072) (hi : i ≤ 3600) : am_go X 0 18 (lp_L i) [] M = if X.length < i + 6 then some (some (.int 1), M) else am_go X 0 33 (lp_L i) [.int (X.getD i 0 &&& 63)] M := by
  have e := as_l6 hX (show i ≤ 4000 by omega)
  unfold lp_L
  by_cases h : X.length < i + 6
  · rw [if_pos h]
    simp only [q0_0, q0_3, q0_4, q0_7, q0_7n, q0_8, q0_11, q0_12, q0_15, q0_15n, q0_16, q0_17, q0_18, q0_19, q0_20, q0_21, q0_23, q0_24, q0_27, q0_28, q0_29, q0_30, q0_32, q0_1469, q0_1470, e, h, as_10, as_01, Nat.reduceBEq, Nat.reduceEqDiff, ↓reduceIte, Option.bind_some, Option.getD_some, Option.isSome_some, Option.isSome_none, Bool.false_eq_true, Option.toList, List.nil_append, List.cons_append, List.lookup, Option.isSome, List.getElem?_cons_zero, List.getElem?_cons_succ, beq_self_eq_true, if_true, true_or, or_true, or_false, false_or, am_kl, true_and, and_true, and_false, false_and, if_false, not_true_eq_false, not_false_eq_true, as_b0, as_b1, as_em, as_ne, List.length_cons, List.length_nil, Nat.reduceAdd, Int32.reduceLT, Int32.reduceLE, Int32.reduceAdd, Int32.reduceSub, Int32.neg_neg, Int32.reduceMul, Int32.reduceToNatClampNeg, Nat.reduceLeDiff, Nat.reduceLT, List.set_cons_zero, List.set_cons_succ, List.length_set, en_at, en_uu, en_gd]
  · rw [if_neg h]
    have n0 := as_nat (show i < 2147483648 by omega)
    have p0 := as_pos (show i < 2147483648 by omega)
    have x0 := lp_x (show i < X.length by omega)
    simp only [q0_0, q0_3, q0_4, q0_7, q0_7n, q0_8, q0_11, q0_12, q0_15, q0_15n, q0_16, q0_17, q0_18, q0_19, q0_20, q0_21, q0_23, q0_24, q0_27, q0_28, q0_29, q0_30, q0_32, e, h, n0, p0, x0, as_10, as_01, Nat.reduceBEq, Nat.reduceEqDiff, ↓reduceIte, Option.bind_some, Option.getD_some, Option.isSome_some, Option.isSome_none, Bool.false_eq_true, Option.toList, List.nil_append, List.cons_append, List.lookup, Option.isSome, List.getElem?_cons_zero, List.getElem?_cons_succ, beq_self_eq_true, if_true, true_or, or_true, or_false, false_or, am_kl, true_and, and_true, and_false, false_and, if_false, not_true_eq_false, not_false_eq_true, as_b0, as_b1, as_em, as_ne, List.length_cons, List.length_nil, Nat.reduceAdd, Int32.reduceLT, Int32.reduceLE, Int32.reduceAdd, Int32.reduceSub, Int32.neg_neg, Int32.reduceMul, Int32.reduceToNatClampNeg, Nat.reduceLeDiff, Nat.reduceLT, List.set_cons_zero, List.set_cons_succ, List.length_set, en_at, en_uu, en_gd]
theorem lp_go {X : List Int32} {i pc : Nat} {I : Nat → Nat → Int32} {A : Nat → List Int32} {L : Nat → List Int64} {V : Nat → List Value} {W : Value} {Q : am_Mem} (h : am_go X 0 18 (lp_L i) [] (en_E I A L V W Q) = am_go X 0 pc (lp_L i) [] (en_E I A L V W Q)) (g : lp_N X i pc I A L V W Q) : lp_N X i 18 I A L V W Q := by
  unfold lp_N at g ⊢
  rw [h]
  exact g
def lp_T : Prop := ∀ {X : List Int32} {I : Nat → Nat → Int32} {A : Nat → List Int32} {L : Nat → List Int64} {V : Nat → List Value} {W : Value} {Q : am_Mem} {s : Int32}, md_RX I A L V Q → md_Stp X 79 195 [.int s] I A L V W Q
theorem lp_body (hT : lp_T) {X : List Int32} {i : Nat} {I : Nat → Nat → Int32} {A : Nat → List Int32} {L : Nat → List Int64} {V : Nat → List Value} {W : Value} {Q : am_Mem} (hi : i + 6 ≤ X.length) (hX : X.length ≤ 3072) (hR : md_RX I A L V Q) : lp_N X i 18 I A L V W Q := by
  have hh := lp_head (M := en_E I A L V W Q) hX (show i ≤ 3600 by omega)
  rw [if_neg (by omega), q0_33] at hh
  by_cases c0 : X.getD i 0 &&& 63 = 0
  · exact lp_go (hh.trans (if_pos c0)) (lp_0 hi hX (sp_row hR))
  replace hh := hh.trans (if_neg c0)
  by_cases c1 : X.getD i 0 &&& 63 = 1
  · exact lp_go (hh.trans (if_pos c1)) (lp_1 hi hX (sp_set hR))
  replace hh := hh.trans (if_neg c1)
  by_cases c2 : X.getD i 0 &&& 63 = 2
  · exact lp_go (hh.trans (if_pos c2)) (lp_2 hi hX (sp_copy hR))
  replace hh := hh.trans (if_neg c2)
  by_cases c3 : X.getD i 0 &&& 63 = 3
  · exact lp_go (hh.trans (if_pos c3)) (lp_3 hi hX (sp_element hR))
  replace hh := hh.trans (if_neg c3)
  by_cases c4 : X.getD i 0 &&& 63 = 4
  · exact lp_go (hh.trans (if_pos c4)) (lp_4 hi hX (sp_show hR))
  replace hh := hh.trans (if_neg c4)
  by_cases c5 : X.getD i 0 &&& 63 = 5
  · exact lp_go (hh.trans (if_pos c5)) (lp_5 hi hX (sp_holds hR))
  replace hh := hh.trans (if_neg c5)
  by_cases c6 : X.getD i 0 &&& 63 = 6
  · exact lp_go (hh.trans (if_pos c6)) (lp_6 hi hX (sp_says hR))
  replace hh := hh.trans (if_neg c6)
  by_cases c7 : X.getD i 0 &&& 63 = 7
  · exact lp_go (hh.trans (if_pos c7)) (lp_7 hi hX (sp_player hR))
  replace hh := hh.trans (if_neg c7)
  by_cases c8 : X.getD i 0 &&& 63 = 8
  · exact lp_go (hh.trans (if_pos c8)) (lp_8 hi hX (sp_playerOf hR))
  replace hh := hh.trans (if_neg c8)
  by_cases c9 : X.getD i 0 &&& 63 = 9
  · exact lp_go (hh.trans (if_pos c9)) (lp_9 hi hX (sp_at hR))
  replace hh := hh.trans (if_neg c9)
  by_cases c10 : X.getD i 0 &&& 63 = 10
  · exact lp_go (hh.trans (if_pos c10)) (lp_10 hi hX (sp_put hR))
  replace hh := hh.trans (if_neg c10)
  by_cases c11 : X.getD i 0 &&& 63 = 11
  · exact lp_go (hh.trans (if_pos c11)) (lp_11 hi hX (sp_turn hR))
  replace hh := hh.trans (if_neg c11)
  by_cases c12 : X.getD i 0 &&& 63 = 12
  · exact lp_go (hh.trans (if_pos c12)) (lp_12 hi hX (sp_ask hR))
  replace hh := hh.trans (if_neg c12)
  by_cases c13 : X.getD i 0 &&& 63 = 13
  · exact lp_go (hh.trans (if_pos c13)) (lp_13 hi hX (sp_score hR))
  replace hh := hh.trans (if_neg c13)
  by_cases c14 : X.getD i 0 &&& 63 = 14
  · exact lp_go (hh.trans (if_pos c14)) (lp_14 hi hX (hT hR))
  replace hh := hh.trans (if_neg c14)
  by_cases c15 : X.getD i 0 &&& 63 = 15
  · exact lp_go (hh.trans (if_pos c15)) (lp_15 hi hX (sp_fault hR))
  replace hh := hh.trans (if_neg c15)
  by_cases c16 : X.getD i 0 &&& 63 = 16
  · exact lp_go (hh.trans (if_pos c16)) (lp_16 hi hX (sp_good hR))
  replace hh := hh.trans (if_neg c16)
  by_cases c17 : X.getD i 0 &&& 63 = 17
  · exact lp_go (hh.trans (if_pos c17)) (lp_17 hi hX (sp_open hR))
  replace hh := hh.trans (if_neg c17)
  by_cases c18 : X.getD i 0 &&& 63 = 18
  · exact lp_go (hh.trans (if_pos c18)) (lp_18 hi hX (sp_value hR))
  replace hh := hh.trans (if_neg c18)
  by_cases c19 : X.getD i 0 &&& 63 = 19
  · exact lp_go (hh.trans (if_pos c19)) (lp_19 hi hX (sp_often hR))
  replace hh := hh.trans (if_neg c19)
  by_cases c20 : X.getD i 0 &&& 63 = 20
  · exact lp_go (hh.trans (if_pos c20)) (lp_20 hi hX (sp_blocked hR))
  replace hh := hh.trans (if_neg c20)
  by_cases c21 : X.getD i 0 &&& 63 = 21
  · exact lp_go (hh.trans (if_pos c21)) (lp_21 hi hX (sp_side hR))
  replace hh := hh.trans (if_neg c21)
  by_cases c22 : X.getD i 0 &&& 63 = 22
  · exact lp_go (hh.trans (if_pos c22)) (lp_22 hi hX (sp_worth hR))
  replace hh := hh.trans (if_neg c22)
  by_cases c23 : X.getD i 0 &&& 63 = 23
  · exact lp_go (hh.trans (if_pos c23)) (lp_23 hi hX (sp_hard hR))
  replace hh := hh.trans (if_neg c23)
  by_cases c24 : X.getD i 0 &&& 63 = 24
  · exact lp_go (hh.trans (if_pos c24)) (lp_24 hi hX (sp_bold hR))
  replace hh := hh.trans (if_neg c24)
  by_cases c25 : X.getD i 0 &&& 63 = 25
  · exact lp_go (hh.trans (if_pos c25)) (lp_25 hi hX (sp_strong hR))
  replace hh := hh.trans (if_neg c25)
  by_cases c26 : X.getD i 0 &&& 63 = 26
  · exact lp_go (hh.trans (if_pos c26)) (lp_26 hi hX (sp_chance hR))
  replace hh := hh.trans (if_neg c26)
  by_cases c27 : X.getD i 0 &&& 63 = 27
  · exact lp_go (hh.trans (if_pos c27)) (lp_27 hi hX (sp_begin hR))
  replace hh := hh.trans (if_neg c27)
  by_cases c28 : X.getD i 0 &&& 63 = 28
  · exact lp_go (hh.trans (if_pos c28)) (lp_28 hi hX (sp_change hR))
  replace hh := hh.trans (if_neg c28)
  by_cases c29 : X.getD i 0 &&& 63 = 29
  · exact lp_go (hh.trans (if_pos c29)) (lp_29 hi hX (sp_judge hR))
  replace hh := hh.trans (if_neg c29)
  by_cases c30 : X.getD i 0 &&& 63 = 30
  · exact lp_go (hh.trans (if_pos c30)) (lp_30 hi hX (sp_behind hR))
  replace hh := hh.trans (if_neg c30)
  by_cases c31 : X.getD i 0 &&& 63 = 31
  · exact lp_go (hh.trans (if_pos c31)) (lp_31 hi hX (sp_run hR))
  replace hh := hh.trans (if_neg c31)
  by_cases c32 : X.getD i 0 &&& 63 = 32
  · exact lp_go (hh.trans (if_pos c32)) (lp_32 hi hX (sp_whom hR))
  replace hh := hh.trans (if_neg c32)
  by_cases c33 : X.getD i 0 &&& 63 = 33
  · exact lp_go (hh.trans (if_pos c33)) (lp_33 hi hX (sp_rally hR))
  replace hh := hh.trans (if_neg c33)
  by_cases c34 : X.getD i 0 &&& 63 = 34
  · exact lp_go (hh.trans (if_pos c34)) (lp_34 hi hX (sp_rallies hR))
  replace hh := hh.trans (if_neg c34)
  by_cases c35 : X.getD i 0 &&& 63 = 35
  · exact lp_go (hh.trans (if_pos c35)) (lp_35 hi hX (sp_anew hR))
  replace hh := hh.trans (if_neg c35)
  by_cases c36 : X.getD i 0 &&& 63 = 36
  · exact lp_go (hh.trans (if_pos c36)) (lp_36 hi hX (sp_seed hR))
  replace hh := hh.trans (if_neg c36)
  by_cases c37 : X.getD i 0 &&& 63 = 37
  · exact lp_go (hh.trans (if_pos c37)) (lp_37 hi hX (sp_act hR))
  replace hh := hh.trans (if_neg c37)
  by_cases c38 : X.getD i 0 &&& 63 = 38
  · exact lp_go (hh.trans (if_pos c38)) (lp_38 hi hX (sp_trace hR))
  replace hh := hh.trans (if_neg c38)
  by_cases c39 : X.getD i 0 &&& 63 = 39
  · exact lp_go (hh.trans (if_pos c39)) (lp_39 hi hX (sp_image hR))
  replace hh := hh.trans (if_neg c39)
  by_cases c40 : X.getD i 0 &&& 63 = 40
  · exact lp_go (hh.trans (if_pos c40)) (lp_40 hi hX (sp_restore hR))
  replace hh := hh.trans (if_neg c40)
  by_cases c41 : X.getD i 0 &&& 63 = 41
  · exact lp_go (hh.trans (if_pos c41)) (lp_41 hi hX (sp_status hR))
  replace hh := hh.trans (if_neg c41)
  refine lp_go hh ⟨I, A, L, V, W, Q, ?_, hR, by omega⟩
  have g6 : Int32.ofNat i + 6 = Int32.ofNat (i + 6) := as_add
  unfold lp_L
  simp only [q0_1463, q0_1466, g6, am_kl]
theorem lp_loop (hT : lp_T) {X : List Int32} (hX : X.length ≤ 3072) : ∀ (k i : Nat) (I : Nat → Nat → Int32) (A : Nat → List Int32) (L : Nat → List Int64) (V : Nat → List Value) (W : Value) (Q : am_Mem), X.length < i + 6 + 6 * k → i ≤ 3600 → md_RX I A L V Q → ∃ (I2 : Nat → Nat → Int32) (A2 : Nat → List Int32) (L2 : Nat → List Int64) (V2 : Nat → List Value) (W2 : Value) (Q2 : am_Mem), am_go X 0 18 (lp_L i) [] (en_E I A L V W Q) = some (some (.int 1), en_E I2 A2 L2 V2 W2 Q2) ∧ md_RX I2 A2 L2 V2 Q2 ∧ Q2.length ≤ Q.length + 200 * k
  | 0, i, I, A, L, V, W, Q, hk, hi, hR => by
    refine ⟨I, A, L, V, W, Q, ?_, hR, by omega⟩
    rw [lp_head hX hi, if_pos (by omega)]
  | k + 1, i, I, A, L, V, W, Q, hk, hi, hR => by
    by_cases h : X.length < i + 6
    · refine ⟨I, A, L, V, W, Q, ?_, hR, by omega⟩
      rw [lp_head hX hi, if_pos h]
    · obtain ⟨I1, A1, L1, V1, W1, Q1, h1, h2, h3⟩ := lp_body hT (W := W) (show i + 6 ≤ X.length by omega) hX hR
      obtain ⟨I2, A2, L2, V2, W2, Q2, g1, g2, g3⟩ := lp_loop hT hX k (i + 6) I1 A1 L1 V1 W1 Q1 (by omega) (by omega) h2
      exact ⟨I2, A2, L2, V2, W2, Q2, h1.trans g1, g2, by omega⟩
theorem cs_c36 {fs : List Value} : am_cls (cs_M1 ++ [.inr (.inr (.inr (12, fs)))]) 36 = some 12 := rfl
theorem lp_begin {X : List Int32} : am_go X 0 0 (am_ent 4 [.retAddr 0]) [] [] = am_go X 0 18 (lp_L 0) [] (en_E cs_I cs_A cs_L cs_V .null []) := by
  have l1 : cs_M1.length = 36 := rfl
  rw [show am_ent 4 [.retAddr 0] = [some (.retAddr 0), none, none, none] from rfl]
  unfold lp_L
  rw [← cs_E]
  simp only [q0_0, q0_3, q0_4, q0_7, q0_7n, q0_8, q0_11, q0_12, q0_15, q0_15n, q0_16, q0_17, cs_1, cs_164, l1, cs_c36, show ∀ fs, am_cls [.inr (.inr (.inr (11, fs)))] 0 = some 11 from fun _ => rfl, Int32.reduceOfNat, as_10, as_01, Nat.reduceBEq, Nat.reduceEqDiff, ↓reduceIte, Option.bind_some, Option.getD_some, Option.isSome_some, Option.isSome_none, Bool.false_eq_true, Option.toList, List.nil_append, List.cons_append, List.lookup, Option.isSome, List.getElem?_cons_zero, List.getElem?_cons_succ, beq_self_eq_true, if_true, true_or, or_true, or_false, false_or, am_kl, true_and, and_true, and_false, false_and, if_false, not_true_eq_false, not_false_eq_true, as_b0, as_b1, as_em, as_ne, List.length_cons, List.length_nil, Nat.reduceAdd, Int32.reduceLT, Int32.reduceLE, Int32.reduceAdd, Int32.reduceSub, Int32.neg_neg, Int32.reduceMul, Int32.reduceToNatClampNeg, Nat.reduceLeDiff, Nat.reduceLT, List.set_cons_zero, List.set_cons_succ, List.length_set, en_at, en_uu, en_gd]
theorem lp_qs : ∀ {Q : am_Mem}, md_QS Q → sn_sz Q = 2 * Q.length
  | [], _ => rfl
  | o :: Q, h => by
    obtain ⟨c, a, b, rfl⟩ := h o (List.mem_cons_self ..)
    have ih := lp_qs (Q := Q) (fun x hx => h x (List.mem_cons_of_mem _ hx))
    unfold sn_sz at ih ⊢
    rw [List.map_cons, List.sum_cons, ih, List.length_cons]
    simp only [sn_sz1, List.length_cons, List.length_nil]
    omega
theorem lp_pl {pl : List Nat} (h : pl.length ≤ 12) : (md_pl pl).length = 12 := by
  unfold md_pl
  rw [List.length_append, List.length_map, List.length_replicate]
  omega
theorem lp_sz {I : Nat → Nat → Int32} {A : Nat → List Int32} {L : Nat → List Int64} {V : Nat → List Value} {W : Value} {Q : am_Mem} (hR : md_RX I A L V Q) : sn_sz (en_E I A L V W Q) ≤ 20000 + 2 * Q.length := by
  obtain ⟨pl, pd, pl2, pd2, r1, r2, r3, r4, -, r6, r7, hq⟩ := hR
  obtain ⟨-, -, a40, r11, r12, v21, -, hps⟩ := r1
  have a22 := r11.1
  obtain ⟨a38, a39, hpd, -⟩ := r12
  obtain ⟨-, -, a25, v24, hp2, a53, -⟩ := r2
  obtain ⟨⟨a2, a41, a42, a43, a44, l45⟩, hs⟩ := r3
  obtain ⟨a19, a37, -⟩ := r4
  obtain ⟨l35, a56, -⟩ := r6
  obtain ⟨a30, a31, a32, a51, a52, a54, a55, a28, l46, pl3, v27, hp3⟩ := r7
  have s0 := (hs 0 (by decide)).1
  have s1 := (hs 1 (by decide)).1
  have s2 := (hs 2 (by decide)).1
  have s3 := (hs 3 (by decide)).1
  have s4 := (hs 4 (by decide)).1
  have s5 := (hs 5 (by decide)).1
  have s6 := (hs 6 (by decide)).1
  have s7 := (hs 7 (by decide)).1
  simp only [Nat.reduceMul, Nat.reduceAdd] at s0 s1 s2 s3 s4 s5 s6 s7
  have p1 : pl.length ≤ 12 := by rw [hps.1]; exact hpd
  have q := lp_qs hq
  unfold sn_sz at q ⊢
  unfold en_E
  simp only [List.map_cons, List.sum_cons, q, sn_sz1, List.length_cons, List.length_nil, a40, a22, a38, a39, v21, a25, v24, a53, a2, a41, a42, a43, a44, l45, a19, a37, l35, a56, a30, a31, a32, a51, a52, a54, a55, a28, l46, v27, lp_pl p1, lp_pl hp2, lp_pl hp3, s0, s1, s2, s3, s4, s5, s6, s7]
  rw [show md_words.length = 51 from rfl]
  simp only [← Nat.add_assoc, Nat.reduceAdd]
  omega
theorem lp_end (hT : lp_T) (X : List Int32) (hX : X.length ≤ 3072) : st_run X := by
  obtain ⟨I2, A2, L2, V2, W2, Q2, g1, g2, g3⟩ := lp_loop hT hX 512 0 cs_I cs_A cs_L cs_V .null [] (by omega) (by omega) cs_R
  obtain ⟨n, hn⟩ := am_go_iff.mp (lp_begin.trans g1)
  refine ⟨n, _, hn, ?_, ?_⟩
  · rw [en_len]; rw [List.length_nil] at g3; omega
  · have := lp_sz (W := W2) g2
    rw [List.length_nil] at g3
    omega
