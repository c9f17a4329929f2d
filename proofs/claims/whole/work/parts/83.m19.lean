theorem en_clsQ {I : Nat → Nat → Int32} {A : Nat → List Int32} {L : Nat → List Int64} {V : Nat → List Value} {W : Value} {Q : am_Mem} {q c : Nat} {fs : List Value} (h : Q[q]? = some (.inr (.inr (.inr (c, fs))))) : am_cls (en_E I A L V W Q) (q + 57) = some c := by
  unfold am_cls; rw [en_Q, h]
theorem en_gfQ0 {I : Nat → Nat → Int32} {A : Nat → List Int32} {L : Nat → List Int64} {V : Nat → List Value} {W : Value} {Q : am_Mem} {q c : Nat} {m a : Int32} {cs : List (Nat × Nat)} (h : Q[q]? = some (.inr (.inr (.inr (c, [.int m, .int a]))))) (hl : (List.lookup c cs).isSome = true) : am_gf (en_E I A L V W Q) (q + 57) cs 0 = some (.int m) := (en_gf0 (en_Q.trans h) hl).trans rfl
theorem en_gfQ1 {I : Nat → Nat → Int32} {A : Nat → List Int32} {L : Nat → List Int64} {V : Nat → List Value} {W : Value} {Q : am_Mem} {q c : Nat} {m a : Int32} {cs : List (Nat × Nat)} (h : Q[q]? = some (.inr (.inr (.inr (c, [.int m, .int a]))))) (hl : (List.lookup c cs).isSome = true) : am_gf (en_E I A L V W Q) (q + 57) cs 1 = some (.int a) := (en_gf0 (en_Q.trans h) hl).trans rfl
def md_tpL (t : List Int64) (r : Nat) : List Int32 → List Int64
  | [] => t
  | b :: bs => md_tpL (t.set r b.toInt64) (r + 1) bs
theorem md_tpL_len : ∀ (bs : List Int32) (t : List Int64) (r : Nat), (md_tpL t r bs).length = t.length
  | [], _, _ => rfl
  | b :: bs, t, r => by rw [md_tpL, md_tpL_len bs, List.length_set]
theorem as_getsetL {l : List Int64} {n i : Nat} {v : Int64} : (l.set n v).getD i 0 = if n = i ∧ n < l.length then v else l.getD i 0 := by
  rw [List.getD_eq_getElem?_getD, List.getElem?_set]
  by_cases h : n = i
  · subst h
    by_cases h2 : n < l.length
    · simp [h2]
    · simp [h2]
  · simp [h]
theorem md_tp_both : ∀ (bs : List Int32) (t : List Int64) (a : List Int32) (r : Nat), r + bs.length ≤ t.length → r + bs.length ≤ a.length → (∀ i, i < r → (t.getD i 0).toInt32 = a.getD i 0) → ∀ i, i < r + bs.length → ((md_tpL t r bs).getD i 0).toInt32 = (md_tp a r bs).getD i 0
  | [], t, a, r, _, _, h, i, hi => h i (by simpa using hi)
  | b :: bs, t, a, r, h1, h2, h, i, hi => by
    rw [md_tpL, md_tp]
    simp only [List.length_cons] at h1 h2 hi
    refine md_tp_both bs _ _ (r + 1) (by rw [List.length_set]; omega) (by rw [List.length_set]; omega) (fun j hj => ?_) i (by omega)
    rw [as_getsetL, as_getset]
    by_cases hc : r = j
    · have z1 : r = j ∧ r < t.length := ⟨hc, by omega⟩
      have z2 : r = j ∧ r < a.length := ⟨hc, by omega⟩
      rw [if_pos z1, if_pos z2, Int32.toInt32_toInt64]
    · have z1 : ¬ (r = j ∧ r < t.length) := fun q => hc q.1
      have z2 : ¬ (r = j ∧ r < a.length) := fun q => hc q.1
      rw [if_neg z1, if_neg z2]
      exact h j (by omega)
theorem ce_148 {X : List Int32} {I : Nat → Nat → Int32} {A : Nat → List Int32} {L : Nat → List Int64} {V : Nat → List Value} {W : Value} {Q : am_Mem} {x : Int32} {n : Nat} (h35 : (L 35).length = 160) (hn : I 34 2 = Int32.ofNat n) (hn2 : n < 160) : am_mt X 148 [.ref 34, .int x] (en_E I A L V W Q) = some (none, en_E (en_u I 34 (en_u (I 34) 2 (Int32.ofNat (n + 1)))) A (en_u L 35 ((L 35).set n x.toInt64)) V W Q) := by
  rw [ct_148 (r := 34) (en_g34.trans (by rw [hn])) en_g35 h35 hn2, en_z35, en_z34_2, as_add1]
theorem ce_12 {X : List Int32} {I : Nat → Nat → Int32} {A : Nat → List Int32} {L : Nat → List Int64} {V : Nat → List Value} {W : Value} {Q : am_Mem} {n : Nat} (h35 : (L 35).length = 160) (hn : I 34 2 = Int32.ofNat n) (hn2 : n ≤ 160) : am_mt X 12 [.ref 34, .int 0, .int 0] (en_E I A L V W Q) = some (none, en_E (en_u I 34 (en_u (en_u (I 34) 1 0) 2 0)) A (en_u L 35 (List.replicate 160 0)) V W Q) := by
  have e := ct_12 (X := X) (so2 := 0) (k := 0) (r := 34) (M := en_E I A L V W Q) (en_g34.trans (by rw [hn])) en_g35 h35 hn2 (by decide)
  rw [show Int32.ofNat 0 = 0 from rfl] at e
  rw [e]
  rfl
theorem as_tl10 : Int32.toInt64 10 = 10 := by decide
set_option maxRecDepth 100000 in
theorem cl_151_1 {X : List Int32} {I : Nat → Nat → Int32} {A : Nat → List Int32} {L : Nat → List Int64} {V : Nat → List Value} {W : Value} {Q : am_Mem} {q r : Nat} {m a v : Int32} (hQ : Q[q]? = some (.inr (.inr (.inr (1, [.int m, .int a]))))) (h35 : (L 35).length = 160) (hr : I 34 2 = Int32.ofNat r) (hr2 : r + 1 ≤ 150) :
    am_mt X 151 [.ref (q + 57), .int v, .ref 34] (en_E I A L V W Q) = some (some (.int (v + m)), en_E (en_u I 34 (en_u (I 34) 2 (Int32.ofNat (r + 1)))) A (en_u L 35 (md_tpL (L 35) r [10])) V W Q) := by
  rw [as_mt (n := 3) (by decide +kernel), show am_ent 3 [.ref (q + 57), .int v, .ref 34] = [some (.ref (q + 57)), some (.int v), some (.ref 34)] from rfl]
  have n0 := as_nat (show r + 0 < 2147483648 by omega)
  have p0 := as_pos (show r + 0 < 2147483648 by omega)
  have l0 : r + 0 < 160 := by omega
  have g0 : ¬ 160 ≤ r + 0 := by omega
  have y0 := as_lt (show r + 0 < 2147483648 by omega) (show 160 < 2147483648 by decide)
  have u0 : r + 0 ≤ 150 := by omega
  have n1 := as_nat (show r + 1 < 2147483648 by omega)
  have p1 := as_pos (show r + 1 < 2147483648 by omega)
  have l1 : r + 1 < 160 := by omega
  have g1 : ¬ 160 ≤ r + 1 := by omega
  have y1 := as_lt (show r + 1 < 2147483648 by omega) (show 160 < 2147483648 by decide)
  have u1 : r + 1 ≤ 150 := by omega
  simp only [Nat.add_zero] at n0 p0 l0 g0 y0 u0
  have c148 := fun (I : Nat → Nat → Int32) (L : Nat → List Int64) (x : Int32) (h1 : (L 35).length = 160) (h2 : I 34 2 = Int32.ofNat r) (h3 : r < 160) => ce_148 (X := X) (I := I) (A := A) (L := L) (V := V) (W := W) (Q := Q) (x := x) h1 h2 h3
  simp only [q151_0, q151_0n, q151_1, q151_4, q151_7, q151_7n, q151_8, q151_11, q151_11n, q151_12, q151_15, q151_16, q151_19, q151_19n, q151_20, q151_23, q151_23n, q151_24, q151_27, q151_30, q151_31, q151_31n, q151_32, q151_33, q151_36, q151_37, q151_38, q151_41, q151_42, q151_43, q151_46, q151_47, en_c34, en_f34_0, en_f34_1, en_p34_1, en_f34_2, en_p34_2, en_a35, en_l35, en_s35, as_10, as_01, Nat.reduceBEq, Nat.reduceEqDiff, ↓reduceIte, Option.bind_some, Option.getD_some, Option.isSome_some, Option.isSome_none, Bool.false_eq_true, Option.toList, List.nil_append, List.cons_append, List.lookup, Option.isSome, List.getElem?_cons_zero, List.getElem?_cons_succ, beq_self_eq_true, if_true, true_or, or_true, or_false, false_or, am_kl, true_and, and_true, and_false, false_and, if_false, not_true_eq_false, not_false_eq_true, as_b0, as_b1, as_em, as_ne, List.length_cons, List.length_nil, Nat.reduceAdd, Int32.reduceLT, Int32.reduceLE, Int32.reduceAdd, Int32.reduceSub, Int32.neg_neg, Int32.reduceMul, Int32.reduceToNatClampNeg, Nat.reduceLeDiff, Nat.reduceLT, List.set_cons_zero, List.set_cons_succ, List.length_set, en_at, en_uu, en_gd, hr, h35, en_clsQ hQ, en_gfQ0 hQ, en_gfQ1 hQ, c148, as_add1, Nat.add_assoc, Int32.reduceToNatClampNeg, md_tpL, md_tpL_len, en_gdL, n0, p0, l0, g0, y0, u0, n1, p1, l1, g1, y1, u1, as_tl10]

set_option maxRecDepth 100000 in
theorem cl_151_2 {X : List Int32} {I : Nat → Nat → Int32} {A : Nat → List Int32} {L : Nat → List Int64} {V : Nat → List Value} {W : Value} {Q : am_Mem} {q r : Nat} {m a v : Int32} (hQ : Q[q]? = some (.inr (.inr (.inr (2, [.int m, .int a]))))) (h35 : (L 35).length = 160) (hr : I 34 2 = Int32.ofNat r) (hr2 : r + 1 ≤ 150) :
    am_mt X 151 [.ref (q + 57), .int v, .ref 34] (en_E I A L V W Q) = some (some (.int (v + m)), en_E (en_u I 34 (en_u (I 34) 2 (Int32.ofNat (r + 1)))) A (en_u L 35 (md_tpL (L 35) r [10])) V W Q) := by
  rw [as_mt (n := 3) (by decide +kernel), show am_ent 3 [.ref (q + 57), .int v, .ref 34] = [some (.ref (q + 57)), some (.int v), some (.ref 34)] from rfl]
  have n0 := as_nat (show r + 0 < 2147483648 by omega)
  have p0 := as_pos (show r + 0 < 2147483648 by omega)
  have l0 : r + 0 < 160 := by omega
  have g0 : ¬ 160 ≤ r + 0 := by omega
  have y0 := as_lt (show r + 0 < 2147483648 by omega) (show 160 < 2147483648 by decide)
  have u0 : r + 0 ≤ 150 := by omega
  have n1 := as_nat (show r + 1 < 2147483648 by omega)
  have p1 := as_pos (show r + 1 < 2147483648 by omega)
  have l1 : r + 1 < 160 := by omega
  have g1 : ¬ 160 ≤ r + 1 := by omega
  have y1 := as_lt (show r + 1 < 2147483648 by omega) (show 160 < 2147483648 by decide)
  have u1 : r + 1 ≤ 150 := by omega
  simp only [Nat.add_zero] at n0 p0 l0 g0 y0 u0
  have c148 := fun (I : Nat → Nat → Int32) (L : Nat → List Int64) (x : Int32) (h1 : (L 35).length = 160) (h2 : I 34 2 = Int32.ofNat r) (h3 : r < 160) => ce_148 (X := X) (I := I) (A := A) (L := L) (V := V) (W := W) (Q := Q) (x := x) h1 h2 h3
  simp only [q151_0, q151_0n, q151_1, q151_4, q151_7, q151_7n, q151_8, q151_11, q151_11n, q151_12, q151_15, q151_16, q151_19, q151_19n, q151_20, q151_23, q151_23n, q151_24, q151_27, q151_30, q151_31, q151_31n, q151_32, q151_33, q151_36, q151_37, q151_38, q151_41, q151_42, q151_43, q151_46, q151_47, en_c34, en_f34_0, en_f34_1, en_p34_1, en_f34_2, en_p34_2, en_a35, en_l35, en_s35, as_10, as_01, Nat.reduceBEq, Nat.reduceEqDiff, ↓reduceIte, Option.bind_some, Option.getD_some, Option.isSome_some, Option.isSome_none, Bool.false_eq_true, Option.toList, List.nil_append, List.cons_append, List.lookup, Option.isSome, List.getElem?_cons_zero, List.getElem?_cons_succ, beq_self_eq_true, if_true, true_or, or_true, or_false, false_or, am_kl, true_and, and_true, and_false, false_and, if_false, not_true_eq_false, not_false_eq_true, as_b0, as_b1, as_em, as_ne, List.length_cons, List.length_nil, Nat.reduceAdd, Int32.reduceLT, Int32.reduceLE, Int32.reduceAdd, Int32.reduceSub, Int32.neg_neg, Int32.reduceMul, Int32.reduceToNatClampNeg, Nat.reduceLeDiff, Nat.reduceLT, List.set_cons_zero, List.set_cons_succ, List.length_set, en_at, en_uu, en_gd, hr, h35, en_clsQ hQ, en_gfQ0 hQ, en_gfQ1 hQ, c148, as_add1, Nat.add_assoc, Int32.reduceToNatClampNeg, md_tpL, md_tpL_len, en_gdL, n0, p0, l0, g0, y0, u0, n1, p1, l1, g1, y1, u1, as_tl10]

set_option maxRecDepth 100000 in
theorem cl_151_3 {X : List Int32} {I : Nat → Nat → Int32} {A : Nat → List Int32} {L : Nat → List Int64} {V : Nat → List Value} {W : Value} {Q : am_Mem} {q r : Nat} {m a v : Int32} (hQ : Q[q]? = some (.inr (.inr (.inr (3, [.int m, .int a]))))) (h35 : (L 35).length = 160) (hr : I 34 2 = Int32.ofNat r) (hr2 : r + 1 ≤ 150) :
    am_mt X 151 [.ref (q + 57), .int v, .ref 34] (en_E I A L V W Q) = some (some (.int (v + m)), en_E (en_u I 34 (en_u (I 34) 2 (Int32.ofNat (r + 1)))) A (en_u L 35 (md_tpL (L 35) r [10])) V W Q) := by
  rw [as_mt (n := 3) (by decide +kernel), show am_ent 3 [.ref (q + 57), .int v, .ref 34] = [some (.ref (q + 57)), some (.int v), some (.ref 34)] from rfl]
  have n0 := as_nat (show r + 0 < 2147483648 by omega)
  have p0 := as_pos (show r + 0 < 2147483648 by omega)
  have l0 : r + 0 < 160 := by omega
  have g0 : ¬ 160 ≤ r + 0 := by omega
  have y0 := as_lt (show r + 0 < 2147483648 by omega) (show 160 < 2147483648 by decide)
  have u0 : r + 0 ≤ 150 := by omega
  have n1 := as_nat (show r + 1 < 2147483648 by omega)
  have p1 := as_pos (show r + 1 < 2147483648 by omega)
  have l1 : r + 1 < 160 := by omega
  have g1 : ¬ 160 ≤ r + 1 := by omega
  have y1 := as_lt (show r + 1 < 2147483648 by omega) (show 160 < 2147483648 by decide)
  have u1 : r + 1 ≤ 150 := by omega
  simp only [Nat.add_zero] at n0 p0 l0 g0 y0 u0
  have c148 := fun (I : Nat → Nat → Int32) (L : Nat → List Int64) (x : Int32) (h1 : (L 35).length = 160) (h2 : I 34 2 = Int32.ofNat r) (h3 : r < 160) => ce_148 (X := X) (I := I) (A := A) (L := L) (V := V) (W := W) (Q := Q) (x := x) h1 h2 h3
  simp only [q151_0, q151_0n, q151_1, q151_4, q151_7, q151_7n, q151_8, q151_11, q151_11n, q151_12, q151_15, q151_16, q151_19, q151_19n, q151_20, q151_23, q151_23n, q151_24, q151_27, q151_30, q151_31, q151_31n, q151_32, q151_33, q151_36, q151_37, q151_38, q151_41, q151_42, q151_43, q151_46, q151_47, en_c34, en_f34_0, en_f34_1, en_p34_1, en_f34_2, en_p34_2, en_a35, en_l35, en_s35, as_10, as_01, Nat.reduceBEq, Nat.reduceEqDiff, ↓reduceIte, Option.bind_some, Option.getD_some, Option.isSome_some, Option.isSome_none, Bool.false_eq_true, Option.toList, List.nil_append, List.cons_append, List.lookup, Option.isSome, List.getElem?_cons_zero, List.getElem?_cons_succ, beq_self_eq_true, if_true, true_or, or_true, or_false, false_or, am_kl, true_and, and_true, and_false, false_and, if_false, not_true_eq_false, not_false_eq_true, as_b0, as_b1, as_em, as_ne, List.length_cons, List.length_nil, Nat.reduceAdd, Int32.reduceLT, Int32.reduceLE, Int32.reduceAdd, Int32.reduceSub, Int32.neg_neg, Int32.reduceMul, Int32.reduceToNatClampNeg, Nat.reduceLeDiff, Nat.reduceLT, List.set_cons_zero, List.set_cons_succ, List.length_set, en_at, en_uu, en_gd, hr, h35, en_clsQ hQ, en_gfQ0 hQ, en_gfQ1 hQ, c148, as_add1, Nat.add_assoc, Int32.reduceToNatClampNeg, md_tpL, md_tpL_len, en_gdL, n0, p0, l0, g0, y0, u0, n1, p1, l1, g1, y1, u1, as_tl10]

set_option maxRecDepth 100000 in
theorem cl_151_4 {X : List Int32} {I : Nat → Nat → Int32} {A : Nat → List Int32} {L : Nat → List Int64} {V : Nat → List Value} {W : Value} {Q : am_Mem} {q r : Nat} {m a v : Int32} (hQ : Q[q]? = some (.inr (.inr (.inr (4, [.int m, .int a]))))) (h35 : (L 35).length = 160) (hr : I 34 2 = Int32.ofNat r) (hr2 : r + 1 ≤ 150) :
    am_mt X 151 [.ref (q + 57), .int v, .ref 34] (en_E I A L V W Q) = some (some (.int (v + m)), en_E (en_u I 34 (en_u (I 34) 2 (Int32.ofNat (r + 1)))) A (en_u L 35 (md_tpL (L 35) r [10])) V W Q) := by
  rw [as_mt (n := 3) (by decide +kernel), show am_ent 3 [.ref (q + 57), .int v, .ref 34] = [some (.ref (q + 57)), some (.int v), some (.ref 34)] from rfl]
  have n0 := as_nat (show r + 0 < 2147483648 by omega)
  have p0 := as_pos (show r + 0 < 2147483648 by omega)
  have l0 : r + 0 < 160 := by omega
  have g0 : ¬ 160 ≤ r + 0 := by omega
  have y0 := as_lt (show r + 0 < 2147483648 by omega) (show 160 < 2147483648 by decide)
  have u0 : r + 0 ≤ 150 := by omega
  have n1 := as_nat (show r + 1 < 2147483648 by omega)
  have p1 := as_pos (show r + 1 < 2147483648 by omega)
  have l1 : r + 1 < 160 := by omega
  have g1 : ¬ 160 ≤ r + 1 := by omega
  have y1 := as_lt (show r + 1 < 2147483648 by omega) (show 160 < 2147483648 by decide)
  have u1 : r + 1 ≤ 150 := by omega
  simp only [Nat.add_zero] at n0 p0 l0 g0 y0 u0
  have c148 := fun (I : Nat → Nat → Int32) (L : Nat → List Int64) (x : Int32) (h1 : (L 35).length = 160) (h2 : I 34 2 = Int32.ofNat r) (h3 : r < 160) => ce_148 (X := X) (I := I) (A := A) (L := L) (V := V) (W := W) (Q := Q) (x := x) h1 h2 h3
  simp only [q151_0, q151_0n, q151_1, q151_4, q151_7, q151_7n, q151_8, q151_11, q151_11n, q151_12, q151_15, q151_16, q151_19, q151_19n, q151_20, q151_23, q151_23n, q151_24, q151_27, q151_30, q151_31, q151_31n, q151_32, q151_33, q151_36, q151_37, q151_38, q151_41, q151_42, q151_43, q151_46, q151_47, en_c34, en_f34_0, en_f34_1, en_p34_1, en_f34_2, en_p34_2, en_a35, en_l35, en_s35, as_10, as_01, Nat.reduceBEq, Nat.reduceEqDiff, ↓reduceIte, Option.bind_some, Option.getD_some, Option.isSome_some, Option.isSome_none, Bool.false_eq_true, Option.toList, List.nil_append, List.cons_append, List.lookup, Option.isSome, List.getElem?_cons_zero, List.getElem?_cons_succ, beq_self_eq_true, if_true, true_or, or_true, or_false, false_or, am_kl, true_and, and_true, and_false, false_and, if_false, not_true_eq_false, not_false_eq_true, as_b0, as_b1, as_em, as_ne, List.length_cons, List.length_nil, Nat.reduceAdd, Int32.reduceLT, Int32.reduceLE, Int32.reduceAdd, Int32.reduceSub, Int32.neg_neg, Int32.reduceMul, Int32.reduceToNatClampNeg, Nat.reduceLeDiff, Nat.reduceLT, List.set_cons_zero, List.set_cons_succ, List.length_set, en_at, en_uu, en_gd, hr, h35, en_clsQ hQ, en_gfQ0 hQ, en_gfQ1 hQ, c148, as_add1, Nat.add_assoc, Int32.reduceToNatClampNeg, md_tpL, md_tpL_len, en_gdL, n0, p0, l0, g0, y0, u0, n1, p1, l1, g1, y1, u1, as_tl10]

set_option maxRecDepth 100000 in
theorem cl_151_6 {X : List Int32} {I : Nat → Nat → Int32} {A : Nat → List Int32} {L : Nat → List Int64} {V : Nat → List Value} {W : Value} {Q : am_Mem} {q r : Nat} {m a v : Int32} (hQ : Q[q]? = some (.inr (.inr (.inr (6, [.int m, .int a]))))) (h35 : (L 35).length = 160) (hr : I 34 2 = Int32.ofNat r) (hr2 : r + 1 ≤ 150) :
    am_mt X 151 [.ref (q + 57), .int v, .ref 34] (en_E I A L V W Q) = some (some (.int (v + m)), en_E (en_u I 34 (en_u (I 34) 2 (Int32.ofNat (r + 1)))) A (en_u L 35 (md_tpL (L 35) r [10])) V W Q) := by
  rw [as_mt (n := 3) (by decide +kernel), show am_ent 3 [.ref (q + 57), .int v, .ref 34] = [some (.ref (q + 57)), some (.int v), some (.ref 34)] from rfl]
  have n0 := as_nat (show r + 0 < 2147483648 by omega)
  have p0 := as_pos (show r + 0 < 2147483648 by omega)
  have l0 : r + 0 < 160 := by omega
  have g0 : ¬ 160 ≤ r + 0 := by omega
  have y0 := as_lt (show r + 0 < 2147483648 by omega) (show 160 < 2147483648 by decide)
  have u0 : r + 0 ≤ 150 := by omega
  have n1 := as_nat (show r + 1 < 2147483648 by omega)
  have p1 := as_pos (show r + 1 < 2147483648 by omega)
  have l1 : r + 1 < 160 := by omega
  have g1 : ¬ 160 ≤ r + 1 := by omega
  have y1 := as_lt (show r + 1 < 2147483648 by omega) (show 160 < 2147483648 by decide)
  have u1 : r + 1 ≤ 150 := by omega
  simp only [Nat.add_zero] at n0 p0 l0 g0 y0 u0
  have c148 := fun (I : Nat → Nat → Int32) (L : Nat → List Int64) (x : Int32) (h1 : (L 35).length = 160) (h2 : I 34 2 = Int32.ofNat r) (h3 : r < 160) => ce_148 (X := X) (I := I) (A := A) (L := L) (V := V) (W := W) (Q := Q) (x := x) h1 h2 h3
  simp only [q151_0, q151_0n, q151_1, q151_4, q151_7, q151_7n, q151_8, q151_11, q151_11n, q151_12, q151_15, q151_16, q151_19, q151_19n, q151_20, q151_23, q151_23n, q151_24, q151_27, q151_30, q151_31, q151_31n, q151_32, q151_33, q151_36, q151_37, q151_38, q151_41, q151_42, q151_43, q151_46, q151_47, en_c34, en_f34_0, en_f34_1, en_p34_1, en_f34_2, en_p34_2, en_a35, en_l35, en_s35, as_10, as_01, Nat.reduceBEq, Nat.reduceEqDiff, ↓reduceIte, Option.bind_some, Option.getD_some, Option.isSome_some, Option.isSome_none, Bool.false_eq_true, Option.toList, List.nil_append, List.cons_append, List.lookup, Option.isSome, List.getElem?_cons_zero, List.getElem?_cons_succ, beq_self_eq_true, if_true, true_or, or_true, or_false, false_or, am_kl, true_and, and_true, and_false, false_and, if_false, not_true_eq_false, not_false_eq_true, as_b0, as_b1, as_em, as_ne, List.length_cons, List.length_nil, Nat.reduceAdd, Int32.reduceLT, Int32.reduceLE, Int32.reduceAdd, Int32.reduceSub, Int32.neg_neg, Int32.reduceMul, Int32.reduceToNatClampNeg, Nat.reduceLeDiff, Nat.reduceLT, List.set_cons_zero, List.set_cons_succ, List.length_set, en_at, en_uu, en_gd, hr, h35, en_clsQ hQ, en_gfQ0 hQ, en_gfQ1 hQ, c148, as_add1, Nat.add_assoc, Int32.reduceToNatClampNeg, md_tpL, md_tpL_len, en_gdL, n0, p0, l0, g0, y0, u0, n1, p1, l1, g1, y1, u1, as_tl10]

set_option maxRecDepth 100000 in
theorem cl_151_7 {X : List Int32} {I : Nat → Nat → Int32} {A : Nat → List Int32} {L : Nat → List Int64} {V : Nat → List Value} {W : Value} {Q : am_Mem} {q r : Nat} {m a v : Int32} (hQ : Q[q]? = some (.inr (.inr (.inr (7, [.int m, .int a]))))) (h35 : (L 35).length = 160) (hr : I 34 2 = Int32.ofNat r) (hr2 : r + 1 ≤ 150) :
    am_mt X 151 [.ref (q + 57), .int v, .ref 34] (en_E I A L V W Q) = some (some (.int (v + m)), en_E (en_u I 34 (en_u (I 34) 2 (Int32.ofNat (r + 1)))) A (en_u L 35 (md_tpL (L 35) r [10])) V W Q) := by
  rw [as_mt (n := 3) (by decide +kernel), show am_ent 3 [.ref (q + 57), .int v, .ref 34] = [some (.ref (q + 57)), some (.int v), some (.ref 34)] from rfl]
  have n0 := as_nat (show r + 0 < 2147483648 by omega)
  have p0 := as_pos (show r + 0 < 2147483648 by omega)
  have l0 : r + 0 < 160 := by omega
  have g0 : ¬ 160 ≤ r + 0 := by omega
  have y0 := as_lt (show r + 0 < 2147483648 by omega) (show 160 < 2147483648 by decide)
  have u0 : r + 0 ≤ 150 := by omega
  have n1 := as_nat (show r + 1 < 2147483648 by omega)
  have p1 := as_pos (show r + 1 < 2147483648 by omega)
  have l1 : r + 1 < 160 := by omega
  have g1 : ¬ 160 ≤ r + 1 := by omega
  have y1 := as_lt (show r + 1 < 2147483648 by omega) (show 160 < 2147483648 by decide)
  have u1 : r + 1 ≤ 150 := by omega
  simp only [Nat.add_zero] at n0 p0 l0 g0 y0 u0
  have c148 := fun (I : Nat → Nat → Int32) (L : Nat → List Int64) (x : Int32) (h1 : (L 35).length = 160) (h2 : I 34 2 = Int32.ofNat r) (h3 : r < 160) => ce_148 (X := X) (I := I) (A := A) (L := L) (V := V) (W := W) (Q := Q) (x := x) h1 h2 h3
  simp only [q151_0, q151_0n, q151_1, q151_4, q151_7, q151_7n, q151_8, q151_11, q151_11n, q151_12, q151_15, q151_16, q151_19, q151_19n, q151_20, q151_23, q151_23n, q151_24, q151_27, q151_30, q151_31, q151_31n, q151_32, q151_33, q151_36, q151_37, q151_38, q151_41, q151_42, q151_43, q151_46, q151_47, en_c34, en_f34_0, en_f34_1, en_p34_1, en_f34_2, en_p34_2, en_a35, en_l35, en_s35, as_10, as_01, Nat.reduceBEq, Nat.reduceEqDiff, ↓reduceIte, Option.bind_some, Option.getD_some, Option.isSome_some, Option.isSome_none, Bool.false_eq_true, Option.toList, List.nil_append, List.cons_append, List.lookup, Option.isSome, List.getElem?_cons_zero, List.getElem?_cons_succ, beq_self_eq_true, if_true, true_or, or_true, or_false, false_or, am_kl, true_and, and_true, and_false, false_and, if_false, not_true_eq_false, not_false_eq_true, as_b0, as_b1, as_em, as_ne, List.length_cons, List.length_nil, Nat.reduceAdd, Int32.reduceLT, Int32.reduceLE, Int32.reduceAdd, Int32.reduceSub, Int32.neg_neg, Int32.reduceMul, Int32.reduceToNatClampNeg, Nat.reduceLeDiff, Nat.reduceLT, List.set_cons_zero, List.set_cons_succ, List.length_set, en_at, en_uu, en_gd, hr, h35, en_clsQ hQ, en_gfQ0 hQ, en_gfQ1 hQ, c148, as_add1, Nat.add_assoc, Int32.reduceToNatClampNeg, md_tpL, md_tpL_len, en_gdL, n0, p0, l0, g0, y0, u0, n1, p1, l1, g1, y1, u1, as_tl10]

set_option maxRecDepth 100000 in
theorem cl_151_8 {X : List Int32} {I : Nat → Nat → Int32} {A : Nat → List Int32} {L : Nat → List Int64} {V : Nat → List Value} {W : Value} {Q : am_Mem} {q r : Nat} {m a v : Int32} (hQ : Q[q]? = some (.inr (.inr (.inr (8, [.int m, .int a]))))) (h35 : (L 35).length = 160) (hr : I 34 2 = Int32.ofNat r) (hr2 : r + 1 ≤ 150) :
    am_mt X 151 [.ref (q + 57), .int v, .ref 34] (en_E I A L V W Q) = some (some (.int (v + m)), en_E (en_u I 34 (en_u (I 34) 2 (Int32.ofNat (r + 1)))) A (en_u L 35 (md_tpL (L 35) r [10])) V W Q) := by
  rw [as_mt (n := 3) (by decide +kernel), show am_ent 3 [.ref (q + 57), .int v, .ref 34] = [some (.ref (q + 57)), some (.int v), some (.ref 34)] from rfl]
  have n0 := as_nat (show r + 0 < 2147483648 by omega)
  have p0 := as_pos (show r + 0 < 2147483648 by omega)
  have l0 : r + 0 < 160 := by omega
  have g0 : ¬ 160 ≤ r + 0 := by omega
  have y0 := as_lt (show r + 0 < 2147483648 by omega) (show 160 < 2147483648 by decide)
  have u0 : r + 0 ≤ 150 := by omega
  have n1 := as_nat (show r + 1 < 2147483648 by omega)
  have p1 := as_pos (show r + 1 < 2147483648 by omega)
  have l1 : r + 1 < 160 := by omega
  have g1 : ¬ 160 ≤ r + 1 := by omega
  have y1 := as_lt (show r + 1 < 2147483648 by omega) (show 160 < 2147483648 by decide)
  have u1 : r + 1 ≤ 150 := by omega
  simp only [Nat.add_zero] at n0 p0 l0 g0 y0 u0
  have c148 := fun (I : Nat → Nat → Int32) (L : Nat → List Int64) (x : Int32) (h1 : (L 35).length = 160) (h2 : I 34 2 = Int32.ofNat r) (h3 : r < 160) => ce_148 (X := X) (I := I) (A := A) (L := L) (V := V) (W := W) (Q := Q) (x := x) h1 h2 h3
  simp only [q151_0, q151_0n, q151_1, q151_4, q151_7, q151_7n, q151_8, q151_11, q151_11n, q151_12, q151_15, q151_16, q151_19, q151_19n, q151_20, q151_23, q151_23n, q151_24, q151_27, q151_30, q151_31, q151_31n, q151_32, q151_33, q151_36, q151_37, q151_38, q151_41, q151_42, q151_43, q151_46, q151_47, en_c34, en_f34_0, en_f34_1, en_p34_1, en_f34_2, en_p34_2, en_a35, en_l35, en_s35, as_10, as_01, Nat.reduceBEq, Nat.reduceEqDiff, ↓reduceIte, Option.bind_some, Option.getD_some, Option.isSome_some, Option.isSome_none, Bool.false_eq_true, Option.toList, List.nil_append, List.cons_append, List.lookup, Option.isSome, List.getElem?_cons_zero, List.getElem?_cons_succ, beq_self_eq_true, if_true, true_or, or_true, or_false, false_or, am_kl, true_and, and_true, and_false, false_and, if_false, not_true_eq_false, not_false_eq_true, as_b0, as_b1, as_em, as_ne, List.length_cons, List.length_nil, Nat.reduceAdd, Int32.reduceLT, Int32.reduceLE, Int32.reduceAdd, Int32.reduceSub, Int32.neg_neg, Int32.reduceMul, Int32.reduceToNatClampNeg, Nat.reduceLeDiff, Nat.reduceLT, List.set_cons_zero, List.set_cons_succ, List.length_set, en_at, en_uu, en_gd, hr, h35, en_clsQ hQ, en_gfQ0 hQ, en_gfQ1 hQ, c148, as_add1, Nat.add_assoc, Int32.reduceToNatClampNeg, md_tpL, md_tpL_len, en_gdL, n0, p0, l0, g0, y0, u0, n1, p1, l1, g1, y1, u1, as_tl10]

set_option maxRecDepth 100000 in
theorem cl_149_6 {X : List Int32} {I : Nat → Nat → Int32} {A : Nat → List Int32} {L : Nat → List Int64} {V : Nat → List Value} {W : Value} {Q : am_Mem} {q r : Nat} {m a v : Int32} (hQ : Q[q]? = some (.inr (.inr (.inr (6, [.int m, .int a]))))) (h35 : (L 35).length = 160) (hr : I 34 2 = Int32.ofNat r) (hr2 : r + 2 ≤ 150) :
    am_mt X 149 [.ref (q + 57), .int v, .ref 34] (en_E I A L V W Q) = some (some (.int (v + m - m)), en_E (en_u I 34 (en_u (I 34) 2 (Int32.ofNat (r + 2)))) A (en_u L 35 (md_tpL (L 35) r [51, 10])) V W Q) := by
  rw [as_mt (n := 3) (by decide +kernel), show am_ent 3 [.ref (q + 57), .int v, .ref 34] = [some (.ref (q + 57)), some (.int v), some (.ref 34)] from rfl]
  have n0 := as_nat (show r + 0 < 2147483648 by omega)
  have p0 := as_pos (show r + 0 < 2147483648 by omega)
  have l0 : r + 0 < 160 := by omega
  have g0 : ¬ 160 ≤ r + 0 := by omega
  have y0 := as_lt (show r + 0 < 2147483648 by omega) (show 160 < 2147483648 by decide)
  have u0 : r + 0 ≤ 150 := by omega
  have n1 := as_nat (show r + 1 < 2147483648 by omega)
  have p1 := as_pos (show r + 1 < 2147483648 by omega)
  have l1 : r + 1 < 160 := by omega
  have g1 : ¬ 160 ≤ r + 1 := by omega
  have y1 := as_lt (show r + 1 < 2147483648 by omega) (show 160 < 2147483648 by decide)
  have u1 : r + 1 ≤ 150 := by omega
  have n2 := as_nat (show r + 2 < 2147483648 by omega)
  have p2 := as_pos (show r + 2 < 2147483648 by omega)
  have l2 : r + 2 < 160 := by omega
  have g2 : ¬ 160 ≤ r + 2 := by omega
  have y2 := as_lt (show r + 2 < 2147483648 by omega) (show 160 < 2147483648 by decide)
  have u2 : r + 2 ≤ 150 := by omega
  simp only [Nat.add_zero] at n0 p0 l0 g0 y0 u0
  have c148 := fun (I : Nat → Nat → Int32) (L : Nat → List Int64) (x : Int32) (h1 : (L 35).length = 160) (h2 : I 34 2 = Int32.ofNat r) (h3 : r < 160) => ce_148 (X := X) (I := I) (A := A) (L := L) (V := V) (W := W) (Q := Q) (x := x) h1 h2 h3
  have w1 := fun (I : Nat → Nat → Int32) (L : Nat → List Int64) (v : Int32) (h1 : (L 35).length = 160) (h2 : I 34 2 = Int32.ofNat (r + 1)) (h3 : r + 1 + 1 ≤ 150) => cl_151_6 (X := X) (I := I) (A := A) (L := L) (V := V) (W := W) (Q := Q) (v := v) (r := r + 1) hQ h1 h2 h3
  simp only [q149_0, q149_0n, q149_1, q149_3, q149_6, q149_7, q149_8, q149_8n, q149_9, q149_12, q149_13, q149_16, q149_17, en_c34, en_f34_0, en_f34_1, en_p34_1, en_f34_2, en_p34_2, en_a35, en_l35, en_s35, as_10, as_01, Nat.reduceBEq, Nat.reduceEqDiff, ↓reduceIte, Option.bind_some, Option.getD_some, Option.isSome_some, Option.isSome_none, Bool.false_eq_true, Option.toList, List.nil_append, List.cons_append, List.lookup, Option.isSome, List.getElem?_cons_zero, List.getElem?_cons_succ, beq_self_eq_true, if_true, true_or, or_true, or_false, false_or, am_kl, true_and, and_true, and_false, false_and, if_false, not_true_eq_false, not_false_eq_true, as_b0, as_b1, as_em, as_ne, List.length_cons, List.length_nil, Nat.reduceAdd, Int32.reduceLT, Int32.reduceLE, Int32.reduceAdd, Int32.reduceSub, Int32.neg_neg, Int32.reduceMul, Int32.reduceToNatClampNeg, Nat.reduceLeDiff, Nat.reduceLT, List.set_cons_zero, List.set_cons_succ, List.length_set, en_at, en_uu, en_gd, hr, h35, en_clsQ hQ, en_gfQ0 hQ, en_gfQ1 hQ, c148, as_add1, Nat.add_assoc, Int32.reduceToNatClampNeg, md_tpL, md_tpL_len, en_gdL, n0, p0, l0, g0, y0, u0, n1, p1, l1, g1, y1, u1, n2, p2, l2, g2, y2, u2, w1]

set_option maxRecDepth 100000 in
theorem cl_149_1 {X : List Int32} {I : Nat → Nat → Int32} {A : Nat → List Int32} {L : Nat → List Int64} {V : Nat → List Value} {W : Value} {Q : am_Mem} {q r : Nat} {m a v : Int32} (hQ : Q[q]? = some (.inr (.inr (.inr (1, [.int m, .int a]))))) (h35 : (L 35).length = 160) (hr : I 34 2 = Int32.ofNat r) (hr2 : r + 2 ≤ 150) :
    am_mt X 149 [.ref (q + 57), .int v, .ref 34] (en_E I A L V W Q) = some (some (.int (v + m - m)), en_E (en_u I 34 (en_u (I 34) 2 (Int32.ofNat (r + 2)))) A (en_u L 35 (md_tpL (L 35) r [51, 10])) V W Q) := by
  rw [as_mt (n := 3) (by decide +kernel), show am_ent 3 [.ref (q + 57), .int v, .ref 34] = [some (.ref (q + 57)), some (.int v), some (.ref 34)] from rfl]
  have n0 := as_nat (show r + 0 < 2147483648 by omega)
  have p0 := as_pos (show r + 0 < 2147483648 by omega)
  have l0 : r + 0 < 160 := by omega
  have g0 : ¬ 160 ≤ r + 0 := by omega
  have y0 := as_lt (show r + 0 < 2147483648 by omega) (show 160 < 2147483648 by decide)
  have u0 : r + 0 ≤ 150 := by omega
  have n1 := as_nat (show r + 1 < 2147483648 by omega)
  have p1 := as_pos (show r + 1 < 2147483648 by omega)
  have l1 : r + 1 < 160 := by omega
  have g1 : ¬ 160 ≤ r + 1 := by omega
  have y1 := as_lt (show r + 1 < 2147483648 by omega) (show 160 < 2147483648 by decide)
  have u1 : r + 1 ≤ 150 := by omega
  have n2 := as_nat (show r + 2 < 2147483648 by omega)
  have p2 := as_pos (show r + 2 < 2147483648 by omega)
  have l2 : r + 2 < 160 := by omega
  have g2 : ¬ 160 ≤ r + 2 := by omega
  have y2 := as_lt (show r + 2 < 2147483648 by omega) (show 160 < 2147483648 by decide)
  have u2 : r + 2 ≤ 150 := by omega
  simp only [Nat.add_zero] at n0 p0 l0 g0 y0 u0
  have c148 := fun (I : Nat → Nat → Int32) (L : Nat → List Int64) (x : Int32) (h1 : (L 35).length = 160) (h2 : I 34 2 = Int32.ofNat r) (h3 : r < 160) => ce_148 (X := X) (I := I) (A := A) (L := L) (V := V) (W := W) (Q := Q) (x := x) h1 h2 h3
  have w1 := fun (I : Nat → Nat → Int32) (L : Nat → List Int64) (v : Int32) (h1 : (L 35).length = 160) (h2 : I 34 2 = Int32.ofNat (r + 1)) (h3 : r + 1 + 1 ≤ 150) => cl_151_1 (X := X) (I := I) (A := A) (L := L) (V := V) (W := W) (Q := Q) (v := v) (r := r + 1) hQ h1 h2 h3
  simp only [q149_0, q149_0n, q149_1, q149_3, q149_6, q149_7, q149_8, q149_8n, q149_9, q149_12, q149_13, q149_16, q149_17, en_c34, en_f34_0, en_f34_1, en_p34_1, en_f34_2, en_p34_2, en_a35, en_l35, en_s35, as_10, as_01, Nat.reduceBEq, Nat.reduceEqDiff, ↓reduceIte, Option.bind_some, Option.getD_some, Option.isSome_some, Option.isSome_none, Bool.false_eq_true, Option.toList, List.nil_append, List.cons_append, List.lookup, Option.isSome, List.getElem?_cons_zero, List.getElem?_cons_succ, beq_self_eq_true, if_true, true_or, or_true, or_false, false_or, am_kl, true_and, and_true, and_false, false_and, if_false, not_true_eq_false, not_false_eq_true, as_b0, as_b1, as_em, as_ne, List.length_cons, List.length_nil, Nat.reduceAdd, Int32.reduceLT, Int32.reduceLE, Int32.reduceAdd, Int32.reduceSub, Int32.neg_neg, Int32.reduceMul, Int32.reduceToNatClampNeg, Nat.reduceLeDiff, Nat.reduceLT, List.set_cons_zero, List.set_cons_succ, List.length_set, en_at, en_uu, en_gd, hr, h35, en_clsQ hQ, en_gfQ0 hQ, en_gfQ1 hQ, c148, as_add1, Nat.add_assoc, Int32.reduceToNatClampNeg, md_tpL, md_tpL_len, en_gdL, n0, p0, l0, g0, y0, u0, n1, p1, l1, g1, y1, u1, n2, p2, l2, g2, y2, u2, w1]

set_option maxRecDepth 100000 in
theorem cl_150_7 {X : List Int32} {I : Nat → Nat → Int32} {A : Nat → List Int32} {L : Nat → List Int64} {V : Nat → List Value} {W : Value} {Q : am_Mem} {q r : Nat} {m a v : Int32} (hQ : Q[q]? = some (.inr (.inr (.inr (7, [.int m, .int a]))))) (h35 : (L 35).length = 160) (hr : I 34 2 = Int32.ofNat r) (hr2 : r + 2 ≤ 150) :
    am_mt X 150 [.ref (q + 57), .int v, .ref 34] (en_E I A L V W Q) = some (some (.int (v + m + a)), en_E (en_u I 34 (en_u (I 34) 2 (Int32.ofNat (r + 2)))) A (en_u L 35 (md_tpL (L 35) r [20, 10])) V W Q) := by
  rw [as_mt (n := 3) (by decide +kernel), show am_ent 3 [.ref (q + 57), .int v, .ref 34] = [some (.ref (q + 57)), some (.int v), some (.ref 34)] from rfl]
  have n0 := as_nat (show r + 0 < 2147483648 by omega)
  have p0 := as_pos (show r + 0 < 2147483648 by omega)
  have l0 : r + 0 < 160 := by omega
  have g0 : ¬ 160 ≤ r + 0 := by omega
  have y0 := as_lt (show r + 0 < 2147483648 by omega) (show 160 < 2147483648 by decide)
  have u0 : r + 0 ≤ 150 := by omega
  have n1 := as_nat (show r + 1 < 2147483648 by omega)
  have p1 := as_pos (show r + 1 < 2147483648 by omega)
  have l1 : r + 1 < 160 := by omega
  have g1 : ¬ 160 ≤ r + 1 := by omega
  have y1 := as_lt (show r + 1 < 2147483648 by omega) (show 160 < 2147483648 by decide)
  have u1 : r + 1 ≤ 150 := by omega
  have n2 := as_nat (show r + 2 < 2147483648 by omega)
  have p2 := as_pos (show r + 2 < 2147483648 by omega)
  have l2 : r + 2 < 160 := by omega
  have g2 : ¬ 160 ≤ r + 2 := by omega
  have y2 := as_lt (show r + 2 < 2147483648 by omega) (show 160 < 2147483648 by decide)
  have u2 : r + 2 ≤ 150 := by omega
  simp only [Nat.add_zero] at n0 p0 l0 g0 y0 u0
  have c148 := fun (I : Nat → Nat → Int32) (L : Nat → List Int64) (x : Int32) (h1 : (L 35).length = 160) (h2 : I 34 2 = Int32.ofNat r) (h3 : r < 160) => ce_148 (X := X) (I := I) (A := A) (L := L) (V := V) (W := W) (Q := Q) (x := x) h1 h2 h3
  have w1 := fun (I : Nat → Nat → Int32) (L : Nat → List Int64) (v : Int32) (h1 : (L 35).length = 160) (h2 : I 34 2 = Int32.ofNat (r + 1)) (h3 : r + 1 + 1 ≤ 150) => cl_151_7 (X := X) (I := I) (A := A) (L := L) (V := V) (W := W) (Q := Q) (v := v) (r := r + 1) hQ h1 h2 h3
  simp only [q150_0, q150_0n, q150_1, q150_3, q150_6, q150_7, q150_8, q150_8n, q150_9, q150_12, q150_13, q150_16, q150_17, en_c34, en_f34_0, en_f34_1, en_p34_1, en_f34_2, en_p34_2, en_a35, en_l35, en_s35, as_10, as_01, Nat.reduceBEq, Nat.reduceEqDiff, ↓reduceIte, Option.bind_some, Option.getD_some, Option.isSome_some, Option.isSome_none, Bool.false_eq_true, Option.toList, List.nil_append, List.cons_append, List.lookup, Option.isSome, List.getElem?_cons_zero, List.getElem?_cons_succ, beq_self_eq_true, if_true, true_or, or_true, or_false, false_or, am_kl, true_and, and_true, and_false, false_and, if_false, not_true_eq_false, not_false_eq_true, as_b0, as_b1, as_em, as_ne, List.length_cons, List.length_nil, Nat.reduceAdd, Int32.reduceLT, Int32.reduceLE, Int32.reduceAdd, Int32.reduceSub, Int32.neg_neg, Int32.reduceMul, Int32.reduceToNatClampNeg, Nat.reduceLeDiff, Nat.reduceLT, List.set_cons_zero, List.set_cons_succ, List.length_set, en_at, en_uu, en_gd, hr, h35, en_clsQ hQ, en_gfQ0 hQ, en_gfQ1 hQ, c148, as_add1, Nat.add_assoc, Int32.reduceToNatClampNeg, md_tpL, md_tpL_len, en_gdL, n0, p0, l0, g0, y0, u0, n1, p1, l1, g1, y1, u1, n2, p2, l2, g2, y2, u2, w1]

set_option maxRecDepth 100000 in
theorem cl_150_8 {X : List Int32} {I : Nat → Nat → Int32} {A : Nat → List Int32} {L : Nat → List Int64} {V : Nat → List Value} {W : Value} {Q : am_Mem} {q r : Nat} {m a v : Int32} (hQ : Q[q]? = some (.inr (.inr (.inr (8, [.int m, .int a]))))) (h35 : (L 35).length = 160) (hr : I 34 2 = Int32.ofNat r) (hr2 : r + 2 ≤ 150) :
    am_mt X 150 [.ref (q + 57), .int v, .ref 34] (en_E I A L V W Q) = some (some (.int (v + m + a)), en_E (en_u I 34 (en_u (I 34) 2 (Int32.ofNat (r + 2)))) A (en_u L 35 (md_tpL (L 35) r [20, 10])) V W Q) := by
  rw [as_mt (n := 3) (by decide +kernel), show am_ent 3 [.ref (q + 57), .int v, .ref 34] = [some (.ref (q + 57)), some (.int v), some (.ref 34)] from rfl]
  have n0 := as_nat (show r + 0 < 2147483648 by omega)
  have p0 := as_pos (show r + 0 < 2147483648 by omega)
  have l0 : r + 0 < 160 := by omega
  have g0 : ¬ 160 ≤ r + 0 := by omega
  have y0 := as_lt (show r + 0 < 2147483648 by omega) (show 160 < 2147483648 by decide)
  have u0 : r + 0 ≤ 150 := by omega
  have n1 := as_nat (show r + 1 < 2147483648 by omega)
  have p1 := as_pos (show r + 1 < 2147483648 by omega)
  have l1 : r + 1 < 160 := by omega
  have g1 : ¬ 160 ≤ r + 1 := by omega
  have y1 := as_lt (show r + 1 < 2147483648 by omega) (show 160 < 2147483648 by decide)
  have u1 : r + 1 ≤ 150 := by omega
  have n2 := as_nat (show r + 2 < 2147483648 by omega)
  have p2 := as_pos (show r + 2 < 2147483648 by omega)
  have l2 : r + 2 < 160 := by omega
  have g2 : ¬ 160 ≤ r + 2 := by omega
  have y2 := as_lt (show r + 2 < 2147483648 by omega) (show 160 < 2147483648 by decide)
  have u2 : r + 2 ≤ 150 := by omega
  simp only [Nat.add_zero] at n0 p0 l0 g0 y0 u0
  have c148 := fun (I : Nat → Nat → Int32) (L : Nat → List Int64) (x : Int32) (h1 : (L 35).length = 160) (h2 : I 34 2 = Int32.ofNat r) (h3 : r < 160) => ce_148 (X := X) (I := I) (A := A) (L := L) (V := V) (W := W) (Q := Q) (x := x) h1 h2 h3
  have w1 := fun (I : Nat → Nat → Int32) (L : Nat → List Int64) (v : Int32) (h1 : (L 35).length = 160) (h2 : I 34 2 = Int32.ofNat (r + 1)) (h3 : r + 1 + 1 ≤ 150) => cl_151_8 (X := X) (I := I) (A := A) (L := L) (V := V) (W := W) (Q := Q) (v := v) (r := r + 1) hQ h1 h2 h3
  simp only [q150_0, q150_0n, q150_1, q150_3, q150_6, q150_7, q150_8, q150_8n, q150_9, q150_12, q150_13, q150_16, q150_17, en_c34, en_f34_0, en_f34_1, en_p34_1, en_f34_2, en_p34_2, en_a35, en_l35, en_s35, as_10, as_01, Nat.reduceBEq, Nat.reduceEqDiff, ↓reduceIte, Option.bind_some, Option.getD_some, Option.isSome_some, Option.isSome_none, Bool.false_eq_true, Option.toList, List.nil_append, List.cons_append, List.lookup, Option.isSome, List.getElem?_cons_zero, List.getElem?_cons_succ, beq_self_eq_true, if_true, true_or, or_true, or_false, false_or, am_kl, true_and, and_true, and_false, false_and, if_false, not_true_eq_false, not_false_eq_true, as_b0, as_b1, as_em, as_ne, List.length_cons, List.length_nil, Nat.reduceAdd, Int32.reduceLT, Int32.reduceLE, Int32.reduceAdd, Int32.reduceSub, Int32.neg_neg, Int32.reduceMul, Int32.reduceToNatClampNeg, Nat.reduceLeDiff, Nat.reduceLT, List.set_cons_zero, List.set_cons_succ, List.length_set, en_at, en_uu, en_gd, hr, h35, en_clsQ hQ, en_gfQ0 hQ, en_gfQ1 hQ, c148, as_add1, Nat.add_assoc, Int32.reduceToNatClampNeg, md_tpL, md_tpL_len, en_gdL, n0, p0, l0, g0, y0, u0, n1, p1, l1, g1, y1, u1, n2, p2, l2, g2, y2, u2, w1]

set_option maxRecDepth 100000 in
theorem cl_150_4 {X : List Int32} {I : Nat → Nat → Int32} {A : Nat → List Int32} {L : Nat → List Int64} {V : Nat → List Value} {W : Value} {Q : am_Mem} {q r : Nat} {m a v : Int32} (hQ : Q[q]? = some (.inr (.inr (.inr (4, [.int m, .int a]))))) (h35 : (L 35).length = 160) (hr : I 34 2 = Int32.ofNat r) (hr2 : r + 2 ≤ 150) :
    am_mt X 150 [.ref (q + 57), .int v, .ref 34] (en_E I A L V W Q) = some (some (.int (v + m + a)), en_E (en_u I 34 (en_u (I 34) 2 (Int32.ofNat (r + 2)))) A (en_u L 35 (md_tpL (L 35) r [20, 10])) V W Q) := by
  rw [as_mt (n := 3) (by decide +kernel), show am_ent 3 [.ref (q + 57), .int v, .ref 34] = [some (.ref (q + 57)), some (.int v), some (.ref 34)] from rfl]
  have n0 := as_nat (show r + 0 < 2147483648 by omega)
  have p0 := as_pos (show r + 0 < 2147483648 by omega)
  have l0 : r + 0 < 160 := by omega
  have g0 : ¬ 160 ≤ r + 0 := by omega
  have y0 := as_lt (show r + 0 < 2147483648 by omega) (show 160 < 2147483648 by decide)
  have u0 : r + 0 ≤ 150 := by omega
  have n1 := as_nat (show r + 1 < 2147483648 by omega)
  have p1 := as_pos (show r + 1 < 2147483648 by omega)
  have l1 : r + 1 < 160 := by omega
  have g1 : ¬ 160 ≤ r + 1 := by omega
  have y1 := as_lt (show r + 1 < 2147483648 by omega) (show 160 < 2147483648 by decide)
  have u1 : r + 1 ≤ 150 := by omega
  have n2 := as_nat (show r + 2 < 2147483648 by omega)
  have p2 := as_pos (show r + 2 < 2147483648 by omega)
  have l2 : r + 2 < 160 := by omega
  have g2 : ¬ 160 ≤ r + 2 := by omega
  have y2 := as_lt (show r + 2 < 2147483648 by omega) (show 160 < 2147483648 by decide)
  have u2 : r + 2 ≤ 150 := by omega
  simp only [Nat.add_zero] at n0 p0 l0 g0 y0 u0
  have c148 := fun (I : Nat → Nat → Int32) (L : Nat → List Int64) (x : Int32) (h1 : (L 35).length = 160) (h2 : I 34 2 = Int32.ofNat r) (h3 : r < 160) => ce_148 (X := X) (I := I) (A := A) (L := L) (V := V) (W := W) (Q := Q) (x := x) h1 h2 h3
  have w1 := fun (I : Nat → Nat → Int32) (L : Nat → List Int64) (v : Int32) (h1 : (L 35).length = 160) (h2 : I 34 2 = Int32.ofNat (r + 1)) (h3 : r + 1 + 1 ≤ 150) => cl_151_4 (X := X) (I := I) (A := A) (L := L) (V := V) (W := W) (Q := Q) (v := v) (r := r + 1) hQ h1 h2 h3
  simp only [q150_0, q150_0n, q150_1, q150_3, q150_6, q150_7, q150_8, q150_8n, q150_9, q150_12, q150_13, q150_16, q150_17, en_c34, en_f34_0, en_f34_1, en_p34_1, en_f34_2, en_p34_2, en_a35, en_l35, en_s35, as_10, as_01, Nat.reduceBEq, Nat.reduceEqDiff, ↓reduceIte, Option.bind_some, Option.getD_some, Option.isSome_some, Option.isSome_none, Bool.false_eq_true, Option.toList, List.nil_append, List.cons_append, List.lookup, Option.isSome, List.getElem?_cons_zero, List.getElem?_cons_succ, beq_self_eq_true, if_true, true_or, or_true, or_false, false_or, am_kl, true_and, and_true, and_false, false_and, if_false, not_true_eq_false, not_false_eq_true, as_b0, as_b1, as_em, as_ne, List.length_cons, List.length_nil, Nat.reduceAdd, Int32.reduceLT, Int32.reduceLE, Int32.reduceAdd, Int32.reduceSub, Int32.neg_neg, Int32.reduceMul, Int32.reduceToNatClampNeg, Nat.reduceLeDiff, Nat.reduceLT, List.set_cons_zero, List.set_cons_succ, List.length_set, en_at, en_uu, en_gd, hr, h35, en_clsQ hQ, en_gfQ0 hQ, en_gfQ1 hQ, c148, as_add1, Nat.add_assoc, Int32.reduceToNatClampNeg, md_tpL, md_tpL_len, en_gdL, n0, p0, l0, g0, y0, u0, n1, p1, l1, g1, y1, u1, n2, p2, l2, g2, y2, u2, w1]

set_option maxRecDepth 100000 in
theorem cl_147_1 {X : List Int32} {I : Nat → Nat → Int32} {A : Nat → List Int32} {L : Nat → List Int64} {V : Nat → List Value} {W : Value} {Q : am_Mem} {q r : Nat} {m a v : Int32} (hQ : Q[q]? = some (.inr (.inr (.inr (1, [.int m, .int a]))))) (h35 : (L 35).length = 160) (hr : I 34 2 = Int32.ofNat r) (hr2 : r + 3 ≤ 150) :
    am_mt X 147 [.ref (q + 57), .int v, .ref 34] (en_E I A L V W Q) = some (some (.int ((v + m - m) * 2)), en_E (en_u I 34 (en_u (I 34) 2 (Int32.ofNat (r + 3)))) A (en_u L 35 (md_tpL (L 35) r [70, 51, 10])) V W Q) := by
  rw [as_mt (n := 3) (by decide +kernel), show am_ent 3 [.ref (q + 57), .int v, .ref 34] = [some (.ref (q + 57)), some (.int v), some (.ref 34)] from rfl]
  have n0 := as_nat (show r + 0 < 2147483648 by omega)
  have p0 := as_pos (show r + 0 < 2147483648 by omega)
  have l0 : r + 0 < 160 := by omega
  have g0 : ¬ 160 ≤ r + 0 := by omega
  have y0 := as_lt (show r + 0 < 2147483648 by omega) (show 160 < 2147483648 by decide)
  have u0 : r + 0 ≤ 150 := by omega
  have n1 := as_nat (show r + 1 < 2147483648 by omega)
  have p1 := as_pos (show r + 1 < 2147483648 by omega)
  have l1 : r + 1 < 160 := by omega
  have g1 : ¬ 160 ≤ r + 1 := by omega
  have y1 := as_lt (show r + 1 < 2147483648 by omega) (show 160 < 2147483648 by decide)
  have u1 : r + 1 ≤ 150 := by omega
  have n2 := as_nat (show r + 2 < 2147483648 by omega)
  have p2 := as_pos (show r + 2 < 2147483648 by omega)
  have l2 : r + 2 < 160 := by omega
  have g2 : ¬ 160 ≤ r + 2 := by omega
  have y2 := as_lt (show r + 2 < 2147483648 by omega) (show 160 < 2147483648 by decide)
  have u2 : r + 2 ≤ 150 := by omega
  have n3 := as_nat (show r + 3 < 2147483648 by omega)
  have p3 := as_pos (show r + 3 < 2147483648 by omega)
  have l3 : r + 3 < 160 := by omega
  have g3 : ¬ 160 ≤ r + 3 := by omega
  have y3 := as_lt (show r + 3 < 2147483648 by omega) (show 160 < 2147483648 by decide)
  have u3 : r + 3 ≤ 150 := by omega
  simp only [Nat.add_zero] at n0 p0 l0 g0 y0 u0
  have c148 := fun (I : Nat → Nat → Int32) (L : Nat → List Int64) (x : Int32) (h1 : (L 35).length = 160) (h2 : I 34 2 = Int32.ofNat r) (h3 : r < 160) => ce_148 (X := X) (I := I) (A := A) (L := L) (V := V) (W := W) (Q := Q) (x := x) h1 h2 h3
  have w1 := fun (I : Nat → Nat → Int32) (L : Nat → List Int64) (v : Int32) (h1 : (L 35).length = 160) (h2 : I 34 2 = Int32.ofNat (r + 1)) (h3 : r + 1 + 2 ≤ 150) => cl_149_1 (X := X) (I := I) (A := A) (L := L) (V := V) (W := W) (Q := Q) (v := v) (r := r + 1) hQ h1 h2 h3
  simp only [q147_0, q147_0n, q147_1, q147_3, q147_6, q147_7, q147_8, q147_8n, q147_9, q147_12, q147_13, q147_14, en_c34, en_f34_0, en_f34_1, en_p34_1, en_f34_2, en_p34_2, en_a35, en_l35, en_s35, as_10, as_01, Nat.reduceBEq, Nat.reduceEqDiff, ↓reduceIte, Option.bind_some, Option.getD_some, Option.isSome_some, Option.isSome_none, Bool.false_eq_true, Option.toList, List.nil_append, List.cons_append, List.lookup, Option.isSome, List.getElem?_cons_zero, List.getElem?_cons_succ, beq_self_eq_true, if_true, true_or, or_true, or_false, false_or, am_kl, true_and, and_true, and_false, false_and, if_false, not_true_eq_false, not_false_eq_true, as_b0, as_b1, as_em, as_ne, List.length_cons, List.length_nil, Nat.reduceAdd, Int32.reduceLT, Int32.reduceLE, Int32.reduceAdd, Int32.reduceSub, Int32.neg_neg, Int32.reduceMul, Int32.reduceToNatClampNeg, Nat.reduceLeDiff, Nat.reduceLT, List.set_cons_zero, List.set_cons_succ, List.length_set, en_at, en_uu, en_gd, hr, h35, en_clsQ hQ, en_gfQ0 hQ, en_gfQ1 hQ, c148, as_add1, Nat.add_assoc, Int32.reduceToNatClampNeg, md_tpL, md_tpL_len, en_gdL, n0, p0, l0, g0, y0, u0, n1, p1, l1, g1, y1, u1, n2, p2, l2, g2, y2, u2, n3, p3, l3, g3, y3, u3, w1]

set_option maxRecDepth 100000 in
theorem cl_155_1 {X : List Int32} {I : Nat → Nat → Int32} {A : Nat → List Int32} {L : Nat → List Int64} {V : Nat → List Value} {W : Value} {Q : am_Mem} {q r : Nat} {m a v : Int32} (hQ : Q[q]? = some (.inr (.inr (.inr (1, [.int m, .int a]))))) (h35 : (L 35).length = 160) (hr : I 34 2 = Int32.ofNat r) (hr2 : r + 4 ≤ 150) :
    am_mt X 155 [.ref (q + 57), .int v, .ref 34] (en_E I A L V W Q) = some (some (.int (((v + m - m) * 2) * 2)), en_E (en_u I 34 (en_u (I 34) 2 (Int32.ofNat (r + 4)))) A (en_u L 35 (md_tpL (L 35) r [11, 70, 51, 10])) V W Q) := by
  rw [as_mt (n := 3) (by decide +kernel), show am_ent 3 [.ref (q + 57), .int v, .ref 34] = [some (.ref (q + 57)), some (.int v), some (.ref 34)] from rfl]
  have n0 := as_nat (show r + 0 < 2147483648 by omega)
  have p0 := as_pos (show r + 0 < 2147483648 by omega)
  have l0 : r + 0 < 160 := by omega
  have g0 : ¬ 160 ≤ r + 0 := by omega
  have y0 := as_lt (show r + 0 < 2147483648 by omega) (show 160 < 2147483648 by decide)
  have u0 : r + 0 ≤ 150 := by omega
  have n1 := as_nat (show r + 1 < 2147483648 by omega)
  have p1 := as_pos (show r + 1 < 2147483648 by omega)
  have l1 : r + 1 < 160 := by omega
  have g1 : ¬ 160 ≤ r + 1 := by omega
  have y1 := as_lt (show r + 1 < 2147483648 by omega) (show 160 < 2147483648 by decide)
  have u1 : r + 1 ≤ 150 := by omega
  have n2 := as_nat (show r + 2 < 2147483648 by omega)
  have p2 := as_pos (show r + 2 < 2147483648 by omega)
  have l2 : r + 2 < 160 := by omega
  have g2 : ¬ 160 ≤ r + 2 := by omega
  have y2 := as_lt (show r + 2 < 2147483648 by omega) (show 160 < 2147483648 by decide)
  have u2 : r + 2 ≤ 150 := by omega
  have n3 := as_nat (show r + 3 < 2147483648 by omega)
  have p3 := as_pos (show r + 3 < 2147483648 by omega)
  have l3 : r + 3 < 160 := by omega
  have g3 : ¬ 160 ≤ r + 3 := by omega
  have y3 := as_lt (show r + 3 < 2147483648 by omega) (show 160 < 2147483648 by decide)
  have u3 : r + 3 ≤ 150 := by omega
  have n4 := as_nat (show r + 4 < 2147483648 by omega)
  have p4 := as_pos (show r + 4 < 2147483648 by omega)
  have l4 : r + 4 < 160 := by omega
  have g4 : ¬ 160 ≤ r + 4 := by omega
  have y4 := as_lt (show r + 4 < 2147483648 by omega) (show 160 < 2147483648 by decide)
  have u4 : r + 4 ≤ 150 := by omega
  simp only [Nat.add_zero] at n0 p0 l0 g0 y0 u0
  have c148 := fun (I : Nat → Nat → Int32) (L : Nat → List Int64) (x : Int32) (h1 : (L 35).length = 160) (h2 : I 34 2 = Int32.ofNat r) (h3 : r < 160) => ce_148 (X := X) (I := I) (A := A) (L := L) (V := V) (W := W) (Q := Q) (x := x) h1 h2 h3
  have w1 := fun (I : Nat → Nat → Int32) (L : Nat → List Int64) (v : Int32) (h1 : (L 35).length = 160) (h2 : I 34 2 = Int32.ofNat (r + 1)) (h3 : r + 1 + 3 ≤ 150) => cl_147_1 (X := X) (I := I) (A := A) (L := L) (V := V) (W := W) (Q := Q) (v := v) (r := r + 1) hQ h1 h2 h3
  simp only [q155_0, q155_0n, q155_1, q155_3, q155_6, q155_7, q155_8, q155_8n, q155_9, q155_12, q155_13, q155_14, en_c34, en_f34_0, en_f34_1, en_p34_1, en_f34_2, en_p34_2, en_a35, en_l35, en_s35, as_10, as_01, Nat.reduceBEq, Nat.reduceEqDiff, ↓reduceIte, Option.bind_some, Option.getD_some, Option.isSome_some, Option.isSome_none, Bool.false_eq_true, Option.toList, List.nil_append, List.cons_append, List.lookup, Option.isSome, List.getElem?_cons_zero, List.getElem?_cons_succ, beq_self_eq_true, if_true, true_or, or_true, or_false, false_or, am_kl, true_and, and_true, and_false, false_and, if_false, not_true_eq_false, not_false_eq_true, as_b0, as_b1, as_em, as_ne, List.length_cons, List.length_nil, Nat.reduceAdd, Int32.reduceLT, Int32.reduceLE, Int32.reduceAdd, Int32.reduceSub, Int32.neg_neg, Int32.reduceMul, Int32.reduceToNatClampNeg, Nat.reduceLeDiff, Nat.reduceLT, List.set_cons_zero, List.set_cons_succ, List.length_set, en_at, en_uu, en_gd, hr, h35, en_clsQ hQ, en_gfQ0 hQ, en_gfQ1 hQ, c148, as_add1, Nat.add_assoc, Int32.reduceToNatClampNeg, md_tpL, md_tpL_len, en_gdL, n0, p0, l0, g0, y0, u0, n1, p1, l1, g1, y1, u1, n2, p2, l2, g2, y2, u2, n3, p3, l3, g3, y3, u3, n4, p4, l4, g4, y4, u4, w1]

set_option maxRecDepth 100000 in
theorem cl_155_2 {X : List Int32} {I : Nat → Nat → Int32} {A : Nat → List Int32} {L : Nat → List Int64} {V : Nat → List Value} {W : Value} {Q : am_Mem} {q r : Nat} {m a v : Int32} (hQ : Q[q]? = some (.inr (.inr (.inr (2, [.int m, .int a]))))) (h35 : (L 35).length = 160) (hr : I 34 2 = Int32.ofNat r) (hr2 : r + 2 ≤ 150) :
    am_mt X 155 [.ref (q + 57), .int v, .ref 34] (en_E I A L V W Q) = some (some (.int ((v + m) * 2)), en_E (en_u I 34 (en_u (I 34) 2 (Int32.ofNat (r + 2)))) A (en_u L 35 (md_tpL (L 35) r [11, 10])) V W Q) := by
  rw [as_mt (n := 3) (by decide +kernel), show am_ent 3 [.ref (q + 57), .int v, .ref 34] = [some (.ref (q + 57)), some (.int v), some (.ref 34)] from rfl]
  have n0 := as_nat (show r + 0 < 2147483648 by omega)
  have p0 := as_pos (show r + 0 < 2147483648 by omega)
  have l0 : r + 0 < 160 := by omega
  have g0 : ¬ 160 ≤ r + 0 := by omega
  have y0 := as_lt (show r + 0 < 2147483648 by omega) (show 160 < 2147483648 by decide)
  have u0 : r + 0 ≤ 150 := by omega
  have n1 := as_nat (show r + 1 < 2147483648 by omega)
  have p1 := as_pos (show r + 1 < 2147483648 by omega)
  have l1 : r + 1 < 160 := by omega
  have g1 : ¬ 160 ≤ r + 1 := by omega
  have y1 := as_lt (show r + 1 < 2147483648 by omega) (show 160 < 2147483648 by decide)
  have u1 : r + 1 ≤ 150 := by omega
  have n2 := as_nat (show r + 2 < 2147483648 by omega)
  have p2 := as_pos (show r + 2 < 2147483648 by omega)
  have l2 : r + 2 < 160 := by omega
  have g2 : ¬ 160 ≤ r + 2 := by omega
  have y2 := as_lt (show r + 2 < 2147483648 by omega) (show 160 < 2147483648 by decide)
  have u2 : r + 2 ≤ 150 := by omega
  simp only [Nat.add_zero] at n0 p0 l0 g0 y0 u0
  have c148 := fun (I : Nat → Nat → Int32) (L : Nat → List Int64) (x : Int32) (h1 : (L 35).length = 160) (h2 : I 34 2 = Int32.ofNat r) (h3 : r < 160) => ce_148 (X := X) (I := I) (A := A) (L := L) (V := V) (W := W) (Q := Q) (x := x) h1 h2 h3
  have w1 := fun (I : Nat → Nat → Int32) (L : Nat → List Int64) (v : Int32) (h1 : (L 35).length = 160) (h2 : I 34 2 = Int32.ofNat (r + 1)) (h3 : r + 1 + 1 ≤ 150) => cl_151_2 (X := X) (I := I) (A := A) (L := L) (V := V) (W := W) (Q := Q) (v := v) (r := r + 1) hQ h1 h2 h3
  simp only [q155_0, q155_0n, q155_1, q155_3, q155_6, q155_7, q155_8, q155_8n, q155_9, q155_12, q155_13, q155_14, en_c34, en_f34_0, en_f34_1, en_p34_1, en_f34_2, en_p34_2, en_a35, en_l35, en_s35, as_10, as_01, Nat.reduceBEq, Nat.reduceEqDiff, ↓reduceIte, Option.bind_some, Option.getD_some, Option.isSome_some, Option.isSome_none, Bool.false_eq_true, Option.toList, List.nil_append, List.cons_append, List.lookup, Option.isSome, List.getElem?_cons_zero, List.getElem?_cons_succ, beq_self_eq_true, if_true, true_or, or_true, or_false, false_or, am_kl, true_and, and_true, and_false, false_and, if_false, not_true_eq_false, not_false_eq_true, as_b0, as_b1, as_em, as_ne, List.length_cons, List.length_nil, Nat.reduceAdd, Int32.reduceLT, Int32.reduceLE, Int32.reduceAdd, Int32.reduceSub, Int32.neg_neg, Int32.reduceMul, Int32.reduceToNatClampNeg, Nat.reduceLeDiff, Nat.reduceLT, List.set_cons_zero, List.set_cons_succ, List.length_set, en_at, en_uu, en_gd, hr, h35, en_clsQ hQ, en_gfQ0 hQ, en_gfQ1 hQ, c148, as_add1, Nat.add_assoc, Int32.reduceToNatClampNeg, md_tpL, md_tpL_len, en_gdL, n0, p0, l0, g0, y0, u0, n1, p1, l1, g1, y1, u1, n2, p2, l2, g2, y2, u2, w1]

set_option maxRecDepth 100000 in
theorem cl_155_3 {X : List Int32} {I : Nat → Nat → Int32} {A : Nat → List Int32} {L : Nat → List Int64} {V : Nat → List Value} {W : Value} {Q : am_Mem} {q r : Nat} {m a v : Int32} (hQ : Q[q]? = some (.inr (.inr (.inr (3, [.int m, .int a]))))) (h35 : (L 35).length = 160) (hr : I 34 2 = Int32.ofNat r) (hr2 : r + 2 ≤ 150) :
    am_mt X 155 [.ref (q + 57), .int v, .ref 34] (en_E I A L V W Q) = some (some (.int ((v + m) * 2)), en_E (en_u I 34 (en_u (I 34) 2 (Int32.ofNat (r + 2)))) A (en_u L 35 (md_tpL (L 35) r [11, 10])) V W Q) := by
  rw [as_mt (n := 3) (by decide +kernel), show am_ent 3 [.ref (q + 57), .int v, .ref 34] = [some (.ref (q + 57)), some (.int v), some (.ref 34)] from rfl]
  have n0 := as_nat (show r + 0 < 2147483648 by omega)
  have p0 := as_pos (show r + 0 < 2147483648 by omega)
  have l0 : r + 0 < 160 := by omega
  have g0 : ¬ 160 ≤ r + 0 := by omega
  have y0 := as_lt (show r + 0 < 2147483648 by omega) (show 160 < 2147483648 by decide)
  have u0 : r + 0 ≤ 150 := by omega
  have n1 := as_nat (show r + 1 < 2147483648 by omega)
  have p1 := as_pos (show r + 1 < 2147483648 by omega)
  have l1 : r + 1 < 160 := by omega
  have g1 : ¬ 160 ≤ r + 1 := by omega
  have y1 := as_lt (show r + 1 < 2147483648 by omega) (show 160 < 2147483648 by decide)
  have u1 : r + 1 ≤ 150 := by omega
  have n2 := as_nat (show r + 2 < 2147483648 by omega)
  have p2 := as_pos (show r + 2 < 2147483648 by omega)
  have l2 : r + 2 < 160 := by omega
  have g2 : ¬ 160 ≤ r + 2 := by omega
  have y2 := as_lt (show r + 2 < 2147483648 by omega) (show 160 < 2147483648 by decide)
  have u2 : r + 2 ≤ 150 := by omega
  simp only [Nat.add_zero] at n0 p0 l0 g0 y0 u0
  have c148 := fun (I : Nat → Nat → Int32) (L : Nat → List Int64) (x : Int32) (h1 : (L 35).length = 160) (h2 : I 34 2 = Int32.ofNat r) (h3 : r < 160) => ce_148 (X := X) (I := I) (A := A) (L := L) (V := V) (W := W) (Q := Q) (x := x) h1 h2 h3
  have w1 := fun (I : Nat → Nat → Int32) (L : Nat → List Int64) (v : Int32) (h1 : (L 35).length = 160) (h2 : I 34 2 = Int32.ofNat (r + 1)) (h3 : r + 1 + 1 ≤ 150) => cl_151_3 (X := X) (I := I) (A := A) (L := L) (V := V) (W := W) (Q := Q) (v := v) (r := r + 1) hQ h1 h2 h3
  simp only [q155_0, q155_0n, q155_1, q155_3, q155_6, q155_7, q155_8, q155_8n, q155_9, q155_12, q155_13, q155_14, en_c34, en_f34_0, en_f34_1, en_p34_1, en_f34_2, en_p34_2, en_a35, en_l35, en_s35, as_10, as_01, Nat.reduceBEq, Nat.reduceEqDiff, ↓reduceIte, Option.bind_some, Option.getD_some, Option.isSome_some, Option.isSome_none, Bool.false_eq_true, Option.toList, List.nil_append, List.cons_append, List.lookup, Option.isSome, List.getElem?_cons_zero, List.getElem?_cons_succ, beq_self_eq_true, if_true, true_or, or_true, or_false, false_or, am_kl, true_and, and_true, and_false, false_and, if_false, not_true_eq_false, not_false_eq_true, as_b0, as_b1, as_em, as_ne, List.length_cons, List.length_nil, Nat.reduceAdd, Int32.reduceLT, Int32.reduceLE, Int32.reduceAdd, Int32.reduceSub, Int32.neg_neg, Int32.reduceMul, Int32.reduceToNatClampNeg, Nat.reduceLeDiff, Nat.reduceLT, List.set_cons_zero, List.set_cons_succ, List.length_set, en_at, en_uu, en_gd, hr, h35, en_clsQ hQ, en_gfQ0 hQ, en_gfQ1 hQ, c148, as_add1, Nat.add_assoc, Int32.reduceToNatClampNeg, md_tpL, md_tpL_len, en_gdL, n0, p0, l0, g0, y0, u0, n1, p1, l1, g1, y1, u1, n2, p2, l2, g2, y2, u2, w1]

set_option maxRecDepth 100000 in
theorem cl_155_4 {X : List Int32} {I : Nat → Nat → Int32} {A : Nat → List Int32} {L : Nat → List Int64} {V : Nat → List Value} {W : Value} {Q : am_Mem} {q r : Nat} {m a v : Int32} (hQ : Q[q]? = some (.inr (.inr (.inr (4, [.int m, .int a]))))) (h35 : (L 35).length = 160) (hr : I 34 2 = Int32.ofNat r) (hr2 : r + 3 ≤ 150) :
    am_mt X 155 [.ref (q + 57), .int v, .ref 34] (en_E I A L V W Q) = some (some (.int ((v + m + a) * 2)), en_E (en_u I 34 (en_u (I 34) 2 (Int32.ofNat (r + 3)))) A (en_u L 35 (md_tpL (L 35) r [11, 20, 10])) V W Q) := by
  rw [as_mt (n := 3) (by decide +kernel), show am_ent 3 [.ref (q + 57), .int v, .ref 34] = [some (.ref (q + 57)), some (.int v), some (.ref 34)] from rfl]
  have n0 := as_nat (show r + 0 < 2147483648 by omega)
  have p0 := as_pos (show r + 0 < 2147483648 by omega)
  have l0 : r + 0 < 160 := by omega
  have g0 : ¬ 160 ≤ r + 0 := by omega
  have y0 := as_lt (show r + 0 < 2147483648 by omega) (show 160 < 2147483648 by decide)
  have u0 : r + 0 ≤ 150 := by omega
  have n1 := as_nat (show r + 1 < 2147483648 by omega)
  have p1 := as_pos (show r + 1 < 2147483648 by omega)
  have l1 : r + 1 < 160 := by omega
  have g1 : ¬ 160 ≤ r + 1 := by omega
  have y1 := as_lt (show r + 1 < 2147483648 by omega) (show 160 < 2147483648 by decide)
  have u1 : r + 1 ≤ 150 := by omega
  have n2 := as_nat (show r + 2 < 2147483648 by omega)
  have p2 := as_pos (show r + 2 < 2147483648 by omega)
  have l2 : r + 2 < 160 := by omega
  have g2 : ¬ 160 ≤ r + 2 := by omega
  have y2 := as_lt (show r + 2 < 2147483648 by omega) (show 160 < 2147483648 by decide)
  have u2 : r + 2 ≤ 150 := by omega
  have n3 := as_nat (show r + 3 < 2147483648 by omega)
  have p3 := as_pos (show r + 3 < 2147483648 by omega)
  have l3 : r + 3 < 160 := by omega
  have g3 : ¬ 160 ≤ r + 3 := by omega
  have y3 := as_lt (show r + 3 < 2147483648 by omega) (show 160 < 2147483648 by decide)
  have u3 : r + 3 ≤ 150 := by omega
  simp only [Nat.add_zero] at n0 p0 l0 g0 y0 u0
  have c148 := fun (I : Nat → Nat → Int32) (L : Nat → List Int64) (x : Int32) (h1 : (L 35).length = 160) (h2 : I 34 2 = Int32.ofNat r) (h3 : r < 160) => ce_148 (X := X) (I := I) (A := A) (L := L) (V := V) (W := W) (Q := Q) (x := x) h1 h2 h3
  have w1 := fun (I : Nat → Nat → Int32) (L : Nat → List Int64) (v : Int32) (h1 : (L 35).length = 160) (h2 : I 34 2 = Int32.ofNat (r + 1)) (h3 : r + 1 + 2 ≤ 150) => cl_150_4 (X := X) (I := I) (A := A) (L := L) (V := V) (W := W) (Q := Q) (v := v) (r := r + 1) hQ h1 h2 h3
  simp only [q155_0, q155_0n, q155_1, q155_3, q155_6, q155_7, q155_8, q155_8n, q155_9, q155_12, q155_13, q155_14, en_c34, en_f34_0, en_f34_1, en_p34_1, en_f34_2, en_p34_2, en_a35, en_l35, en_s35, as_10, as_01, Nat.reduceBEq, Nat.reduceEqDiff, ↓reduceIte, Option.bind_some, Option.getD_some, Option.isSome_some, Option.isSome_none, Bool.false_eq_true, Option.toList, List.nil_append, List.cons_append, List.lookup, Option.isSome, List.getElem?_cons_zero, List.getElem?_cons_succ, beq_self_eq_true, if_true, true_or, or_true, or_false, false_or, am_kl, true_and, and_true, and_false, false_and, if_false, not_true_eq_false, not_false_eq_true, as_b0, as_b1, as_em, as_ne, List.length_cons, List.length_nil, Nat.reduceAdd, Int32.reduceLT, Int32.reduceLE, Int32.reduceAdd, Int32.reduceSub, Int32.neg_neg, Int32.reduceMul, Int32.reduceToNatClampNeg, Nat.reduceLeDiff, Nat.reduceLT, List.set_cons_zero, List.set_cons_succ, List.length_set, en_at, en_uu, en_gd, hr, h35, en_clsQ hQ, en_gfQ0 hQ, en_gfQ1 hQ, c148, as_add1, Nat.add_assoc, Int32.reduceToNatClampNeg, md_tpL, md_tpL_len, en_gdL, n0, p0, l0, g0, y0, u0, n1, p1, l1, g1, y1, u1, n2, p2, l2, g2, y2, u2, n3, p3, l3, g3, y3, u3, w1]

set_option maxRecDepth 100000 in
theorem cl_155_6 {X : List Int32} {I : Nat → Nat → Int32} {A : Nat → List Int32} {L : Nat → List Int64} {V : Nat → List Value} {W : Value} {Q : am_Mem} {q r : Nat} {m a v : Int32} (hQ : Q[q]? = some (.inr (.inr (.inr (6, [.int m, .int a]))))) (h35 : (L 35).length = 160) (hr : I 34 2 = Int32.ofNat r) (hr2 : r + 3 ≤ 150) :
    am_mt X 155 [.ref (q + 57), .int v, .ref 34] (en_E I A L V W Q) = some (some (.int ((v + m - m) * 2)), en_E (en_u I 34 (en_u (I 34) 2 (Int32.ofNat (r + 3)))) A (en_u L 35 (md_tpL (L 35) r [11, 51, 10])) V W Q) := by
  rw [as_mt (n := 3) (by decide +kernel), show am_ent 3 [.ref (q + 57), .int v, .ref 34] = [some (.ref (q + 57)), some (.int v), some (.ref 34)] from rfl]
  have n0 := as_nat (show r + 0 < 2147483648 by omega)
  have p0 := as_pos (show r + 0 < 2147483648 by omega)
  have l0 : r + 0 < 160 := by omega
  have g0 : ¬ 160 ≤ r + 0 := by omega
  have y0 := as_lt (show r + 0 < 2147483648 by omega) (show 160 < 2147483648 by decide)
  have u0 : r + 0 ≤ 150 := by omega
  have n1 := as_nat (show r + 1 < 2147483648 by omega)
  have p1 := as_pos (show r + 1 < 2147483648 by omega)
  have l1 : r + 1 < 160 := by omega
  have g1 : ¬ 160 ≤ r + 1 := by omega
  have y1 := as_lt (show r + 1 < 2147483648 by omega) (show 160 < 2147483648 by decide)
  have u1 : r + 1 ≤ 150 := by omega
  have n2 := as_nat (show r + 2 < 2147483648 by omega)
  have p2 := as_pos (show r + 2 < 2147483648 by omega)
  have l2 : r + 2 < 160 := by omega
  have g2 : ¬ 160 ≤ r + 2 := by omega
  have y2 := as_lt (show r + 2 < 2147483648 by omega) (show 160 < 2147483648 by decide)
  have u2 : r + 2 ≤ 150 := by omega
  have n3 := as_nat (show r + 3 < 2147483648 by omega)
  have p3 := as_pos (show r + 3 < 2147483648 by omega)
  have l3 : r + 3 < 160 := by omega
  have g3 : ¬ 160 ≤ r + 3 := by omega
  have y3 := as_lt (show r + 3 < 2147483648 by omega) (show 160 < 2147483648 by decide)
  have u3 : r + 3 ≤ 150 := by omega
  simp only [Nat.add_zero] at n0 p0 l0 g0 y0 u0
  have c148 := fun (I : Nat → Nat → Int32) (L : Nat → List Int64) (x : Int32) (h1 : (L 35).length = 160) (h2 : I 34 2 = Int32.ofNat r) (h3 : r < 160) => ce_148 (X := X) (I := I) (A := A) (L := L) (V := V) (W := W) (Q := Q) (x := x) h1 h2 h3
  have w1 := fun (I : Nat → Nat → Int32) (L : Nat → List Int64) (v : Int32) (h1 : (L 35).length = 160) (h2 : I 34 2 = Int32.ofNat (r + 1)) (h3 : r + 1 + 2 ≤ 150) => cl_149_6 (X := X) (I := I) (A := A) (L := L) (V := V) (W := W) (Q := Q) (v := v) (r := r + 1) hQ h1 h2 h3
  simp only [q155_0, q155_0n, q155_1, q155_3, q155_6, q155_7, q155_8, q155_8n, q155_9, q155_12, q155_13, q155_14, en_c34, en_f34_0, en_f34_1, en_p34_1, en_f34_2, en_p34_2, en_a35, en_l35, en_s35, as_10, as_01, Nat.reduceBEq, Nat.reduceEqDiff, ↓reduceIte, Option.bind_some, Option.getD_some, Option.isSome_some, Option.isSome_none, Bool.false_eq_true, Option.toList, List.nil_append, List.cons_append, List.lookup, Option.isSome, List.getElem?_cons_zero, List.getElem?_cons_succ, beq_self_eq_true, if_true, true_or, or_true, or_false, false_or, am_kl, true_and, and_true, and_false, false_and, if_false, not_true_eq_false, not_false_eq_true, as_b0, as_b1, as_em, as_ne, List.length_cons, List.length_nil, Nat.reduceAdd, Int32.reduceLT, Int32.reduceLE, Int32.reduceAdd, Int32.reduceSub, Int32.neg_neg, Int32.reduceMul, Int32.reduceToNatClampNeg, Nat.reduceLeDiff, Nat.reduceLT, List.set_cons_zero, List.set_cons_succ, List.length_set, en_at, en_uu, en_gd, hr, h35, en_clsQ hQ, en_gfQ0 hQ, en_gfQ1 hQ, c148, as_add1, Nat.add_assoc, Int32.reduceToNatClampNeg, md_tpL, md_tpL_len, en_gdL, n0, p0, l0, g0, y0, u0, n1, p1, l1, g1, y1, u1, n2, p2, l2, g2, y2, u2, n3, p3, l3, g3, y3, u3, w1]

set_option maxRecDepth 100000 in
theorem cl_155_7 {X : List Int32} {I : Nat → Nat → Int32} {A : Nat → List Int32} {L : Nat → List Int64} {V : Nat → List Value} {W : Value} {Q : am_Mem} {q r : Nat} {m a v : Int32} (hQ : Q[q]? = some (.inr (.inr (.inr (7, [.int m, .int a]))))) (h35 : (L 35).length = 160) (hr : I 34 2 = Int32.ofNat r) (hr2 : r + 3 ≤ 150) :
    am_mt X 155 [.ref (q + 57), .int v, .ref 34] (en_E I A L V W Q) = some (some (.int ((v + m + a) * 2)), en_E (en_u I 34 (en_u (I 34) 2 (Int32.ofNat (r + 3)))) A (en_u L 35 (md_tpL (L 35) r [11, 20, 10])) V W Q) := by
  rw [as_mt (n := 3) (by decide +kernel), show am_ent 3 [.ref (q + 57), .int v, .ref 34] = [some (.ref (q + 57)), some (.int v), some (.ref 34)] from rfl]
  have n0 := as_nat (show r + 0 < 2147483648 by omega)
  have p0 := as_pos (show r + 0 < 2147483648 by omega)
  have l0 : r + 0 < 160 := by omega
  have g0 : ¬ 160 ≤ r + 0 := by omega
  have y0 := as_lt (show r + 0 < 2147483648 by omega) (show 160 < 2147483648 by decide)
  have u0 : r + 0 ≤ 150 := by omega
  have n1 := as_nat (show r + 1 < 2147483648 by omega)
  have p1 := as_pos (show r + 1 < 2147483648 by omega)
  have l1 : r + 1 < 160 := by omega
  have g1 : ¬ 160 ≤ r + 1 := by omega
  have y1 := as_lt (show r + 1 < 2147483648 by omega) (show 160 < 2147483648 by decide)
  have u1 : r + 1 ≤ 150 := by omega
  have n2 := as_nat (show r + 2 < 2147483648 by omega)
  have p2 := as_pos (show r + 2 < 2147483648 by omega)
  have l2 : r + 2 < 160 := by omega
  have g2 : ¬ 160 ≤ r + 2 := by omega
  have y2 := as_lt (show r + 2 < 2147483648 by omega) (show 160 < 2147483648 by decide)
  have u2 : r + 2 ≤ 150 := by omega
  have n3 := as_nat (show r + 3 < 2147483648 by omega)
  have p3 := as_pos (show r + 3 < 2147483648 by omega)
  have l3 : r + 3 < 160 := by omega
  have g3 : ¬ 160 ≤ r + 3 := by omega
  have y3 := as_lt (show r + 3 < 2147483648 by omega) (show 160 < 2147483648 by decide)
  have u3 : r + 3 ≤ 150 := by omega
  simp only [Nat.add_zero] at n0 p0 l0 g0 y0 u0
  have c148 := fun (I : Nat → Nat → Int32) (L : Nat → List Int64) (x : Int32) (h1 : (L 35).length = 160) (h2 : I 34 2 = Int32.ofNat r) (h3 : r < 160) => ce_148 (X := X) (I := I) (A := A) (L := L) (V := V) (W := W) (Q := Q) (x := x) h1 h2 h3
  have w1 := fun (I : Nat → Nat → Int32) (L : Nat → List Int64) (v : Int32) (h1 : (L 35).length = 160) (h2 : I 34 2 = Int32.ofNat (r + 1)) (h3 : r + 1 + 2 ≤ 150) => cl_150_7 (X := X) (I := I) (A := A) (L := L) (V := V) (W := W) (Q := Q) (v := v) (r := r + 1) hQ h1 h2 h3
  simp only [q155_0, q155_0n, q155_1, q155_3, q155_6, q155_7, q155_8, q155_8n, q155_9, q155_12, q155_13, q155_14, en_c34, en_f34_0, en_f34_1, en_p34_1, en_f34_2, en_p34_2, en_a35, en_l35, en_s35, as_10, as_01, Nat.reduceBEq, Nat.reduceEqDiff, ↓reduceIte, Option.bind_some, Option.getD_some, Option.isSome_some, Option.isSome_none, Bool.false_eq_true, Option.toList, List.nil_append, List.cons_append, List.lookup, Option.isSome, List.getElem?_cons_zero, List.getElem?_cons_succ, beq_self_eq_true, if_true, true_or, or_true, or_false, false_or, am_kl, true_and, and_true, and_false, false_and, if_false, not_true_eq_false, not_false_eq_true, as_b0, as_b1, as_em, as_ne, List.length_cons, List.length_nil, Nat.reduceAdd, Int32.reduceLT, Int32.reduceLE, Int32.reduceAdd, Int32.reduceSub, Int32.neg_neg, Int32.reduceMul, Int32.reduceToNatClampNeg, Nat.reduceLeDiff, Nat.reduceLT, List.set_cons_zero, List.set_cons_succ, List.length_set, en_at, en_uu, en_gd, hr, h35, en_clsQ hQ, en_gfQ0 hQ, en_gfQ1 hQ, c148, as_add1, Nat.add_assoc, Int32.reduceToNatClampNeg, md_tpL, md_tpL_len, en_gdL, n0, p0, l0, g0, y0, u0, n1, p1, l1, g1, y1, u1, n2, p2, l2, g2, y2, u2, n3, p3, l3, g3, y3, u3, w1]

set_option maxRecDepth 100000 in
theorem cl_155_8 {X : List Int32} {I : Nat → Nat → Int32} {A : Nat → List Int32} {L : Nat → List Int64} {V : Nat → List Value} {W : Value} {Q : am_Mem} {q r : Nat} {m a v : Int32} (hQ : Q[q]? = some (.inr (.inr (.inr (8, [.int m, .int a]))))) (h35 : (L 35).length = 160) (hr : I 34 2 = Int32.ofNat r) (hr2 : r + 3 ≤ 150) :
    am_mt X 155 [.ref (q + 57), .int v, .ref 34] (en_E I A L V W Q) = some (some (.int ((v + m + a) * 2)), en_E (en_u I 34 (en_u (I 34) 2 (Int32.ofNat (r + 3)))) A (en_u L 35 (md_tpL (L 35) r [11, 20, 10])) V W Q) := by
  rw [as_mt (n := 3) (by decide +kernel), show am_ent 3 [.ref (q + 57), .int v, .ref 34] = [some (.ref (q + 57)), some (.int v), some (.ref 34)] from rfl]
  have n0 := as_nat (show r + 0 < 2147483648 by omega)
  have p0 := as_pos (show r + 0 < 2147483648 by omega)
  have l0 : r + 0 < 160 := by omega
  have g0 : ¬ 160 ≤ r + 0 := by omega
  have y0 := as_lt (show r + 0 < 2147483648 by omega) (show 160 < 2147483648 by decide)
  have u0 : r + 0 ≤ 150 := by omega
  have n1 := as_nat (show r + 1 < 2147483648 by omega)
  have p1 := as_pos (show r + 1 < 2147483648 by omega)
  have l1 : r + 1 < 160 := by omega
  have g1 : ¬ 160 ≤ r + 1 := by omega
  have y1 := as_lt (show r + 1 < 2147483648 by omega) (show 160 < 2147483648 by decide)
  have u1 : r + 1 ≤ 150 := by omega
  have n2 := as_nat (show r + 2 < 2147483648 by omega)
  have p2 := as_pos (show r + 2 < 2147483648 by omega)
  have l2 : r + 2 < 160 := by omega
  have g2 : ¬ 160 ≤ r + 2 := by omega
  have y2 := as_lt (show r + 2 < 2147483648 by omega) (show 160 < 2147483648 by decide)
  have u2 : r + 2 ≤ 150 := by omega
  have n3 := as_nat (show r + 3 < 2147483648 by omega)
  have p3 := as_pos (show r + 3 < 2147483648 by omega)
  have l3 : r + 3 < 160 := by omega
  have g3 : ¬ 160 ≤ r + 3 := by omega
  have y3 := as_lt (show r + 3 < 2147483648 by omega) (show 160 < 2147483648 by decide)
  have u3 : r + 3 ≤ 150 := by omega
  simp only [Nat.add_zero] at n0 p0 l0 g0 y0 u0
  have c148 := fun (I : Nat → Nat → Int32) (L : Nat → List Int64) (x : Int32) (h1 : (L 35).length = 160) (h2 : I 34 2 = Int32.ofNat r) (h3 : r < 160) => ce_148 (X := X) (I := I) (A := A) (L := L) (V := V) (W := W) (Q := Q) (x := x) h1 h2 h3
  have w1 := fun (I : Nat → Nat → Int32) (L : Nat → List Int64) (v : Int32) (h1 : (L 35).length = 160) (h2 : I 34 2 = Int32.ofNat (r + 1)) (h3 : r + 1 + 2 ≤ 150) => cl_150_8 (X := X) (I := I) (A := A) (L := L) (V := V) (W := W) (Q := Q) (v := v) (r := r + 1) hQ h1 h2 h3
  simp only [q155_0, q155_0n, q155_1, q155_3, q155_6, q155_7, q155_8, q155_8n, q155_9, q155_12, q155_13, q155_14, en_c34, en_f34_0, en_f34_1, en_p34_1, en_f34_2, en_p34_2, en_a35, en_l35, en_s35, as_10, as_01, Nat.reduceBEq, Nat.reduceEqDiff, ↓reduceIte, Option.bind_some, Option.getD_some, Option.isSome_some, Option.isSome_none, Bool.false_eq_true, Option.toList, List.nil_append, List.cons_append, List.lookup, Option.isSome, List.getElem?_cons_zero, List.getElem?_cons_succ, beq_self_eq_true, if_true, true_or, or_true, or_false, false_or, am_kl, true_and, and_true, and_false, false_and, if_false, not_true_eq_false, not_false_eq_true, as_b0, as_b1, as_em, as_ne, List.length_cons, List.length_nil, Nat.reduceAdd, Int32.reduceLT, Int32.reduceLE, Int32.reduceAdd, Int32.reduceSub, Int32.neg_neg, Int32.reduceMul, Int32.reduceToNatClampNeg, Nat.reduceLeDiff, Nat.reduceLT, List.set_cons_zero, List.set_cons_succ, List.length_set, en_at, en_uu, en_gd, hr, h35, en_clsQ hQ, en_gfQ0 hQ, en_gfQ1 hQ, c148, as_add1, Nat.add_assoc, Int32.reduceToNatClampNeg, md_tpL, md_tpL_len, en_gdL, n0, p0, l0, g0, y0, u0, n1, p1, l1, g1, y1, u1, n2, p2, l2, g2, y2, u2, n3, p3, l3, g3, y3, u3, w1]

set_option maxRecDepth 100000 in
theorem cl_152_1 {X : List Int32} {I : Nat → Nat → Int32} {A : Nat → List Int32} {L : Nat → List Int64} {V : Nat → List Value} {W : Value} {Q : am_Mem} {q r : Nat} {m a v : Int32} (hQ : Q[q]? = some (.inr (.inr (.inr (1, [.int m, .int a]))))) (h35 : (L 35).length = 160) (hr : I 34 2 = Int32.ofNat r) (hr2 : r + 5 ≤ 150) :
    am_mt X 152 [.ref (q + 57), .int v, .ref 34] (en_E I A L V W Q) = some (some (.int ((((v - a) + m - m) * 2) * 2)), en_E (en_u I 34 (en_u (I 34) 2 (Int32.ofNat (r + 5)))) A (en_u L 35 (md_tpL (L 35) r [71, 11, 70, 51, 10])) V W Q) := by
  rw [as_mt (n := 3) (by decide +kernel), show am_ent 3 [.ref (q + 57), .int v, .ref 34] = [some (.ref (q + 57)), some (.int v), some (.ref 34)] from rfl]
  have n0 := as_nat (show r + 0 < 2147483648 by omega)
  have p0 := as_pos (show r + 0 < 2147483648 by omega)
  have l0 : r + 0 < 160 := by omega
  have g0 : ¬ 160 ≤ r + 0 := by omega
  have y0 := as_lt (show r + 0 < 2147483648 by omega) (show 160 < 2147483648 by decide)
  have u0 : r + 0 ≤ 150 := by omega
  have n1 := as_nat (show r + 1 < 2147483648 by omega)
  have p1 := as_pos (show r + 1 < 2147483648 by omega)
  have l1 : r + 1 < 160 := by omega
  have g1 : ¬ 160 ≤ r + 1 := by omega
  have y1 := as_lt (show r + 1 < 2147483648 by omega) (show 160 < 2147483648 by decide)
  have u1 : r + 1 ≤ 150 := by omega
  have n2 := as_nat (show r + 2 < 2147483648 by omega)
  have p2 := as_pos (show r + 2 < 2147483648 by omega)
  have l2 : r + 2 < 160 := by omega
  have g2 : ¬ 160 ≤ r + 2 := by omega
  have y2 := as_lt (show r + 2 < 2147483648 by omega) (show 160 < 2147483648 by decide)
  have u2 : r + 2 ≤ 150 := by omega
  have n3 := as_nat (show r + 3 < 2147483648 by omega)
  have p3 := as_pos (show r + 3 < 2147483648 by omega)
  have l3 : r + 3 < 160 := by omega
  have g3 : ¬ 160 ≤ r + 3 := by omega
  have y3 := as_lt (show r + 3 < 2147483648 by omega) (show 160 < 2147483648 by decide)
  have u3 : r + 3 ≤ 150 := by omega
  have n4 := as_nat (show r + 4 < 2147483648 by omega)
  have p4 := as_pos (show r + 4 < 2147483648 by omega)
  have l4 : r + 4 < 160 := by omega
  have g4 : ¬ 160 ≤ r + 4 := by omega
  have y4 := as_lt (show r + 4 < 2147483648 by omega) (show 160 < 2147483648 by decide)
  have u4 : r + 4 ≤ 150 := by omega
  have n5 := as_nat (show r + 5 < 2147483648 by omega)
  have p5 := as_pos (show r + 5 < 2147483648 by omega)
  have l5 : r + 5 < 160 := by omega
  have g5 : ¬ 160 ≤ r + 5 := by omega
  have y5 := as_lt (show r + 5 < 2147483648 by omega) (show 160 < 2147483648 by decide)
  have u5 : r + 5 ≤ 150 := by omega
  simp only [Nat.add_zero] at n0 p0 l0 g0 y0 u0
  have c148 := fun (I : Nat → Nat → Int32) (L : Nat → List Int64) (x : Int32) (h1 : (L 35).length = 160) (h2 : I 34 2 = Int32.ofNat r) (h3 : r < 160) => ce_148 (X := X) (I := I) (A := A) (L := L) (V := V) (W := W) (Q := Q) (x := x) h1 h2 h3
  have w1 := fun (I : Nat → Nat → Int32) (L : Nat → List Int64) (v : Int32) (h1 : (L 35).length = 160) (h2 : I 34 2 = Int32.ofNat (r + 1)) (h3 : r + 1 + 4 ≤ 150) => cl_155_1 (X := X) (I := I) (A := A) (L := L) (V := V) (W := W) (Q := Q) (v := v) (r := r + 1) hQ h1 h2 h3
  simp only [q152_0, q152_0n, q152_1, q152_3, q152_6, q152_7, q152_8, q152_9, q152_12, q152_13, q152_13n, q152_14, q152_17, en_c34, en_f34_0, en_f34_1, en_p34_1, en_f34_2, en_p34_2, en_a35, en_l35, en_s35, as_10, as_01, Nat.reduceBEq, Nat.reduceEqDiff, ↓reduceIte, Option.bind_some, Option.getD_some, Option.isSome_some, Option.isSome_none, Bool.false_eq_true, Option.toList, List.nil_append, List.cons_append, List.lookup, Option.isSome, List.getElem?_cons_zero, List.getElem?_cons_succ, beq_self_eq_true, if_true, true_or, or_true, or_false, false_or, am_kl, true_and, and_true, and_false, false_and, if_false, not_true_eq_false, not_false_eq_true, as_b0, as_b1, as_em, as_ne, List.length_cons, List.length_nil, Nat.reduceAdd, Int32.reduceLT, Int32.reduceLE, Int32.reduceAdd, Int32.reduceSub, Int32.neg_neg, Int32.reduceMul, Int32.reduceToNatClampNeg, Nat.reduceLeDiff, Nat.reduceLT, List.set_cons_zero, List.set_cons_succ, List.length_set, en_at, en_uu, en_gd, hr, h35, en_clsQ hQ, en_gfQ0 hQ, en_gfQ1 hQ, c148, as_add1, Nat.add_assoc, Int32.reduceToNatClampNeg, md_tpL, md_tpL_len, en_gdL, n0, p0, l0, g0, y0, u0, n1, p1, l1, g1, y1, u1, n2, p2, l2, g2, y2, u2, n3, p3, l3, g3, y3, u3, n4, p4, l4, g4, y4, u4, n5, p5, l5, g5, y5, u5, w1]

set_option maxRecDepth 100000 in
theorem cl_153_2 {X : List Int32} {I : Nat → Nat → Int32} {A : Nat → List Int32} {L : Nat → List Int64} {V : Nat → List Value} {W : Value} {Q : am_Mem} {q r : Nat} {m a v : Int32} (hQ : Q[q]? = some (.inr (.inr (.inr (2, [.int m, .int a]))))) (h35 : (L 35).length = 160) (hr : I 34 2 = Int32.ofNat r) (hr2 : r + 3 ≤ 150) :
    am_mt X 153 [.ref (q + 57), .int v, .ref 34] (en_E I A L V W Q) = some (some (.int ((v + m) * 2 * 3)), en_E (en_u I 34 (en_u (I 34) 2 (Int32.ofNat (r + 3)))) A (en_u L 35 (md_tpL (L 35) r [30, 11, 10])) V W Q) := by
  rw [as_mt (n := 3) (by decide +kernel), show am_ent 3 [.ref (q + 57), .int v, .ref 34] = [some (.ref (q + 57)), some (.int v), some (.ref 34)] from rfl]
  have n0 := as_nat (show r + 0 < 2147483648 by omega)
  have p0 := as_pos (show r + 0 < 2147483648 by omega)
  have l0 : r + 0 < 160 := by omega
  have g0 : ¬ 160 ≤ r + 0 := by omega
  have y0 := as_lt (show r + 0 < 2147483648 by omega) (show 160 < 2147483648 by decide)
  have u0 : r + 0 ≤ 150 := by omega
  have n1 := as_nat (show r + 1 < 2147483648 by omega)
  have p1 := as_pos (show r + 1 < 2147483648 by omega)
  have l1 : r + 1 < 160 := by omega
  have g1 : ¬ 160 ≤ r + 1 := by omega
  have y1 := as_lt (show r + 1 < 2147483648 by omega) (show 160 < 2147483648 by decide)
  have u1 : r + 1 ≤ 150 := by omega
  have n2 := as_nat (show r + 2 < 2147483648 by omega)
  have p2 := as_pos (show r + 2 < 2147483648 by omega)
  have l2 : r + 2 < 160 := by omega
  have g2 : ¬ 160 ≤ r + 2 := by omega
  have y2 := as_lt (show r + 2 < 2147483648 by omega) (show 160 < 2147483648 by decide)
  have u2 : r + 2 ≤ 150 := by omega
  have n3 := as_nat (show r + 3 < 2147483648 by omega)
  have p3 := as_pos (show r + 3 < 2147483648 by omega)
  have l3 : r + 3 < 160 := by omega
  have g3 : ¬ 160 ≤ r + 3 := by omega
  have y3 := as_lt (show r + 3 < 2147483648 by omega) (show 160 < 2147483648 by decide)
  have u3 : r + 3 ≤ 150 := by omega
  simp only [Nat.add_zero] at n0 p0 l0 g0 y0 u0
  have c148 := fun (I : Nat → Nat → Int32) (L : Nat → List Int64) (x : Int32) (h1 : (L 35).length = 160) (h2 : I 34 2 = Int32.ofNat r) (h3 : r < 160) => ce_148 (X := X) (I := I) (A := A) (L := L) (V := V) (W := W) (Q := Q) (x := x) h1 h2 h3
  have w1 := fun (I : Nat → Nat → Int32) (L : Nat → List Int64) (v : Int32) (h1 : (L 35).length = 160) (h2 : I 34 2 = Int32.ofNat (r + 1)) (h3 : r + 1 + 2 ≤ 150) => cl_155_2 (X := X) (I := I) (A := A) (L := L) (V := V) (W := W) (Q := Q) (v := v) (r := r + 1) hQ h1 h2 h3
  simp only [q153_0, q153_0n, q153_1, q153_3, q153_6, q153_7, q153_8, q153_8n, q153_9, q153_12, q153_13, q153_14, en_c34, en_f34_0, en_f34_1, en_p34_1, en_f34_2, en_p34_2, en_a35, en_l35, en_s35, as_10, as_01, Nat.reduceBEq, Nat.reduceEqDiff, ↓reduceIte, Option.bind_some, Option.getD_some, Option.isSome_some, Option.isSome_none, Bool.false_eq_true, Option.toList, List.nil_append, List.cons_append, List.lookup, Option.isSome, List.getElem?_cons_zero, List.getElem?_cons_succ, beq_self_eq_true, if_true, true_or, or_true, or_false, false_or, am_kl, true_and, and_true, and_false, false_and, if_false, not_true_eq_false, not_false_eq_true, as_b0, as_b1, as_em, as_ne, List.length_cons, List.length_nil, Nat.reduceAdd, Int32.reduceLT, Int32.reduceLE, Int32.reduceAdd, Int32.reduceSub, Int32.neg_neg, Int32.reduceMul, Int32.reduceToNatClampNeg, Nat.reduceLeDiff, Nat.reduceLT, List.set_cons_zero, List.set_cons_succ, List.length_set, en_at, en_uu, en_gd, hr, h35, en_clsQ hQ, en_gfQ0 hQ, en_gfQ1 hQ, c148, as_add1, Nat.add_assoc, Int32.reduceToNatClampNeg, md_tpL, md_tpL_len, en_gdL, n0, p0, l0, g0, y0, u0, n1, p1, l1, g1, y1, u1, n2, p2, l2, g2, y2, u2, n3, p3, l3, g3, y3, u3, w1]

set_option maxRecDepth 100000 in
theorem cl_154_8 {X : List Int32} {I : Nat → Nat → Int32} {A : Nat → List Int32} {L : Nat → List Int64} {V : Nat → List Value} {W : Value} {Q : am_Mem} {q r : Nat} {m a v : Int32} (hQ : Q[q]? = some (.inr (.inr (.inr (8, [.int m, .int a]))))) (h35 : (L 35).length = 160) (hr : I 34 2 = Int32.ofNat r) (hr2 : r + 4 ≤ 150) :
    am_mt X 154 [.ref (q + 57), .int v, .ref 34] (en_E I A L V W Q) = some (some (.int (((v + 1) + m + a) * 2)), en_E (en_u I 34 (en_u (I 34) 2 (Int32.ofNat (r + 4)))) A (en_u L 35 (md_tpL (L 35) r [40, 11, 20, 10])) V W Q) := by
  rw [as_mt (n := 3) (by decide +kernel), show am_ent 3 [.ref (q + 57), .int v, .ref 34] = [some (.ref (q + 57)), some (.int v), some (.ref 34)] from rfl]
  have n0 := as_nat (show r + 0 < 2147483648 by omega)
  have p0 := as_pos (show r + 0 < 2147483648 by omega)
  have l0 : r + 0 < 160 := by omega
  have g0 : ¬ 160 ≤ r + 0 := by omega
  have y0 := as_lt (show r + 0 < 2147483648 by omega) (show 160 < 2147483648 by decide)
  have u0 : r + 0 ≤ 150 := by omega
  have n1 := as_nat (show r + 1 < 2147483648 by omega)
  have p1 := as_pos (show r + 1 < 2147483648 by omega)
  have l1 : r + 1 < 160 := by omega
  have g1 : ¬ 160 ≤ r + 1 := by omega
  have y1 := as_lt (show r + 1 < 2147483648 by omega) (show 160 < 2147483648 by decide)
  have u1 : r + 1 ≤ 150 := by omega
  have n2 := as_nat (show r + 2 < 2147483648 by omega)
  have p2 := as_pos (show r + 2 < 2147483648 by omega)
  have l2 : r + 2 < 160 := by omega
  have g2 : ¬ 160 ≤ r + 2 := by omega
  have y2 := as_lt (show r + 2 < 2147483648 by omega) (show 160 < 2147483648 by decide)
  have u2 : r + 2 ≤ 150 := by omega
  have n3 := as_nat (show r + 3 < 2147483648 by omega)
  have p3 := as_pos (show r + 3 < 2147483648 by omega)
  have l3 : r + 3 < 160 := by omega
  have g3 : ¬ 160 ≤ r + 3 := by omega
  have y3 := as_lt (show r + 3 < 2147483648 by omega) (show 160 < 2147483648 by decide)
  have u3 : r + 3 ≤ 150 := by omega
  have n4 := as_nat (show r + 4 < 2147483648 by omega)
  have p4 := as_pos (show r + 4 < 2147483648 by omega)
  have l4 : r + 4 < 160 := by omega
  have g4 : ¬ 160 ≤ r + 4 := by omega
  have y4 := as_lt (show r + 4 < 2147483648 by omega) (show 160 < 2147483648 by decide)
  have u4 : r + 4 ≤ 150 := by omega
  simp only [Nat.add_zero] at n0 p0 l0 g0 y0 u0
  have c148 := fun (I : Nat → Nat → Int32) (L : Nat → List Int64) (x : Int32) (h1 : (L 35).length = 160) (h2 : I 34 2 = Int32.ofNat r) (h3 : r < 160) => ce_148 (X := X) (I := I) (A := A) (L := L) (V := V) (W := W) (Q := Q) (x := x) h1 h2 h3
  have w1 := fun (I : Nat → Nat → Int32) (L : Nat → List Int64) (v : Int32) (h1 : (L 35).length = 160) (h2 : I 34 2 = Int32.ofNat (r + 1)) (h3 : r + 1 + 3 ≤ 150) => cl_155_8 (X := X) (I := I) (A := A) (L := L) (V := V) (W := W) (Q := Q) (v := v) (r := r + 1) hQ h1 h2 h3
  simp only [q154_0, q154_0n, q154_1, q154_3, q154_6, q154_7, q154_8, q154_9, q154_10, q154_10n, q154_11, q154_14, en_c34, en_f34_0, en_f34_1, en_p34_1, en_f34_2, en_p34_2, en_a35, en_l35, en_s35, as_10, as_01, Nat.reduceBEq, Nat.reduceEqDiff, ↓reduceIte, Option.bind_some, Option.getD_some, Option.isSome_some, Option.isSome_none, Bool.false_eq_true, Option.toList, List.nil_append, List.cons_append, List.lookup, Option.isSome, List.getElem?_cons_zero, List.getElem?_cons_succ, beq_self_eq_true, if_true, true_or, or_true, or_false, false_or, am_kl, true_and, and_true, and_false, false_and, if_false, not_true_eq_false, not_false_eq_true, as_b0, as_b1, as_em, as_ne, List.length_cons, List.length_nil, Nat.reduceAdd, Int32.reduceLT, Int32.reduceLE, Int32.reduceAdd, Int32.reduceSub, Int32.neg_neg, Int32.reduceMul, Int32.reduceToNatClampNeg, Nat.reduceLeDiff, Nat.reduceLT, List.set_cons_zero, List.set_cons_succ, List.length_set, en_at, en_uu, en_gd, hr, h35, en_clsQ hQ, en_gfQ0 hQ, en_gfQ1 hQ, c148, as_add1, Nat.add_assoc, Int32.reduceToNatClampNeg, md_tpL, md_tpL_len, en_gdL, n0, p0, l0, g0, y0, u0, n1, p1, l1, g1, y1, u1, n2, p2, l2, g2, y2, u2, n3, p3, l3, g3, y3, u3, n4, p4, l4, g4, y4, u4, w1]

set_option maxRecDepth 100000 in
theorem cl_158_1 {X : List Int32} {I : Nat → Nat → Int32} {A : Nat → List Int32} {L : Nat → List Int64} {V : Nat → List Value} {W : Value} {Q : am_Mem} {q r : Nat} {m a v : Int32} (hQ : Q[q]? = some (.inr (.inr (.inr (1, [.int m, .int a]))))) (h35 : (L 35).length = 160) (hr : I 34 2 = Int32.ofNat r) (hr2 : r + 9 ≤ 150) :
    am_mt X 158 [.ref (q + 57), .int v, .ref 34] (en_E I A L V W Q) = some (some (.int (((((v - a) + m - m) * 2) * 2) ^^^ (((v - a) + m - m) * 2))), en_E (en_u I 34 (en_u (I 34) 2 (Int32.ofNat (r + 9)))) A (en_u L 35 (md_tpL (L 35) r [12, 71, 11, 70, 51, 10, 70, 51, 10])) V W Q) := by
  rw [as_mt (n := 4) (by decide +kernel), show am_ent 4 [.ref (q + 57), .int v, .ref 34] = [some (.ref (q + 57)), some (.int v), some (.ref 34), none] from rfl]
  have n0 := as_nat (show r + 0 < 2147483648 by omega)
  have p0 := as_pos (show r + 0 < 2147483648 by omega)
  have l0 : r + 0 < 160 := by omega
  have g0 : ¬ 160 ≤ r + 0 := by omega
  have y0 := as_lt (show r + 0 < 2147483648 by omega) (show 160 < 2147483648 by decide)
  have u0 : r + 0 ≤ 150 := by omega
  have n1 := as_nat (show r + 1 < 2147483648 by omega)
  have p1 := as_pos (show r + 1 < 2147483648 by omega)
  have l1 : r + 1 < 160 := by omega
  have g1 : ¬ 160 ≤ r + 1 := by omega
  have y1 := as_lt (show r + 1 < 2147483648 by omega) (show 160 < 2147483648 by decide)
  have u1 : r + 1 ≤ 150 := by omega
  have n2 := as_nat (show r + 2 < 2147483648 by omega)
  have p2 := as_pos (show r + 2 < 2147483648 by omega)
  have l2 : r + 2 < 160 := by omega
  have g2 : ¬ 160 ≤ r + 2 := by omega
  have y2 := as_lt (show r + 2 < 2147483648 by omega) (show 160 < 2147483648 by decide)
  have u2 : r + 2 ≤ 150 := by omega
  have n3 := as_nat (show r + 3 < 2147483648 by omega)
  have p3 := as_pos (show r + 3 < 2147483648 by omega)
  have l3 : r + 3 < 160 := by omega
  have g3 : ¬ 160 ≤ r + 3 := by omega
  have y3 := as_lt (show r + 3 < 2147483648 by omega) (show 160 < 2147483648 by decide)
  have u3 : r + 3 ≤ 150 := by omega
  have n4 := as_nat (show r + 4 < 2147483648 by omega)
  have p4 := as_pos (show r + 4 < 2147483648 by omega)
  have l4 : r + 4 < 160 := by omega
  have g4 : ¬ 160 ≤ r + 4 := by omega
  have y4 := as_lt (show r + 4 < 2147483648 by omega) (show 160 < 2147483648 by decide)
  have u4 : r + 4 ≤ 150 := by omega
  have n5 := as_nat (show r + 5 < 2147483648 by omega)
  have p5 := as_pos (show r + 5 < 2147483648 by omega)
  have l5 : r + 5 < 160 := by omega
  have g5 : ¬ 160 ≤ r + 5 := by omega
  have y5 := as_lt (show r + 5 < 2147483648 by omega) (show 160 < 2147483648 by decide)
  have u5 : r + 5 ≤ 150 := by omega
  have n6 := as_nat (show r + 6 < 2147483648 by omega)
  have p6 := as_pos (show r + 6 < 2147483648 by omega)
  have l6 : r + 6 < 160 := by omega
  have g6 : ¬ 160 ≤ r + 6 := by omega
  have y6 := as_lt (show r + 6 < 2147483648 by omega) (show 160 < 2147483648 by decide)
  have u6 : r + 6 ≤ 150 := by omega
  have n7 := as_nat (show r + 7 < 2147483648 by omega)
  have p7 := as_pos (show r + 7 < 2147483648 by omega)
  have l7 : r + 7 < 160 := by omega
  have g7 : ¬ 160 ≤ r + 7 := by omega
  have y7 := as_lt (show r + 7 < 2147483648 by omega) (show 160 < 2147483648 by decide)
  have u7 : r + 7 ≤ 150 := by omega
  have n8 := as_nat (show r + 8 < 2147483648 by omega)
  have p8 := as_pos (show r + 8 < 2147483648 by omega)
  have l8 : r + 8 < 160 := by omega
  have g8 : ¬ 160 ≤ r + 8 := by omega
  have y8 := as_lt (show r + 8 < 2147483648 by omega) (show 160 < 2147483648 by decide)
  have u8 : r + 8 ≤ 150 := by omega
  have n9 := as_nat (show r + 9 < 2147483648 by omega)
  have p9 := as_pos (show r + 9 < 2147483648 by omega)
  have l9 : r + 9 < 160 := by omega
  have g9 : ¬ 160 ≤ r + 9 := by omega
  have y9 := as_lt (show r + 9 < 2147483648 by omega) (show 160 < 2147483648 by decide)
  have u9 : r + 9 ≤ 150 := by omega
  simp only [Nat.add_zero] at n0 p0 l0 g0 y0 u0
  have c148 := fun (I : Nat → Nat → Int32) (L : Nat → List Int64) (x : Int32) (h1 : (L 35).length = 160) (h2 : I 34 2 = Int32.ofNat r) (h3 : r < 160) => ce_148 (X := X) (I := I) (A := A) (L := L) (V := V) (W := W) (Q := Q) (x := x) h1 h2 h3
  have w1 := fun (I : Nat → Nat → Int32) (L : Nat → List Int64) (v : Int32) (h1 : (L 35).length = 160) (h2 : I 34 2 = Int32.ofNat (r + 1)) (h3 : r + 1 + 5 ≤ 150) => cl_152_1 (X := X) (I := I) (A := A) (L := L) (V := V) (W := W) (Q := Q) (v := v) (r := r + 1) hQ h1 h2 h3
  have w2 := fun (I : Nat → Nat → Int32) (L : Nat → List Int64) (v : Int32) (h1 : (L 35).length = 160) (h2 : I 34 2 = Int32.ofNat (r + 6)) (h3 : r + 6 + 3 ≤ 150) => cl_147_1 (X := X) (I := I) (A := A) (L := L) (V := V) (W := W) (Q := Q) (v := v) (r := r + 6) hQ h1 h2 h3
  simp only [q158_0, q158_0n, q158_1, q158_3, q158_6, q158_7, q158_8, q158_8n, q158_9, q158_12, q158_13, q158_14, q158_15, q158_16, q158_17, q158_20, q158_21, q158_21n, q158_22, q158_25, q158_26, en_c34, en_f34_0, en_f34_1, en_p34_1, en_f34_2, en_p34_2, en_a35, en_l35, en_s35, as_10, as_01, Nat.reduceBEq, Nat.reduceEqDiff, ↓reduceIte, Option.bind_some, Option.getD_some, Option.isSome_some, Option.isSome_none, Bool.false_eq_true, Option.toList, List.nil_append, List.cons_append, List.lookup, Option.isSome, List.getElem?_cons_zero, List.getElem?_cons_succ, beq_self_eq_true, if_true, true_or, or_true, or_false, false_or, am_kl, true_and, and_true, and_false, false_and, if_false, not_true_eq_false, not_false_eq_true, as_b0, as_b1, as_em, as_ne, List.length_cons, List.length_nil, Nat.reduceAdd, Int32.reduceLT, Int32.reduceLE, Int32.reduceAdd, Int32.reduceSub, Int32.neg_neg, Int32.reduceMul, Int32.reduceToNatClampNeg, Nat.reduceLeDiff, Nat.reduceLT, List.set_cons_zero, List.set_cons_succ, List.length_set, en_at, en_uu, en_gd, hr, h35, en_clsQ hQ, en_gfQ0 hQ, en_gfQ1 hQ, c148, as_add1, Nat.add_assoc, Int32.reduceToNatClampNeg, md_tpL, md_tpL_len, en_gdL, n0, p0, l0, g0, y0, u0, n1, p1, l1, g1, y1, u1, n2, p2, l2, g2, y2, u2, n3, p3, l3, g3, y3, u3, n4, p4, l4, g4, y4, u4, n5, p5, l5, g5, y5, u5, n6, p6, l6, g6, y6, u6, n7, p7, l7, g7, y7, u7, n8, p8, l8, g8, y8, u8, n9, p9, l9, g9, y9, u9, w1, w2]

set_option maxRecDepth 100000 in
theorem cl_158_2 {X : List Int32} {I : Nat → Nat → Int32} {A : Nat → List Int32} {L : Nat → List Int64} {V : Nat → List Value} {W : Value} {Q : am_Mem} {q r : Nat} {m a v : Int32} (hQ : Q[q]? = some (.inr (.inr (.inr (2, [.int m, .int a]))))) (h35 : (L 35).length = 160) (hr : I 34 2 = Int32.ofNat r) (hr2 : r + 5 ≤ 150) :
    am_mt X 158 [.ref (q + 57), .int v, .ref 34] (en_E I A L V W Q) = some (some (.int (((v + m) * 2 * 3) ^^^ ((v - a) + m))), en_E (en_u I 34 (en_u (I 34) 2 (Int32.ofNat (r + 5)))) A (en_u L 35 (md_tpL (L 35) r [12, 30, 11, 10, 10])) V W Q) := by
  rw [as_mt (n := 4) (by decide +kernel), show am_ent 4 [.ref (q + 57), .int v, .ref 34] = [some (.ref (q + 57)), some (.int v), some (.ref 34), none] from rfl]
  have n0 := as_nat (show r + 0 < 2147483648 by omega)
  have p0 := as_pos (show r + 0 < 2147483648 by omega)
  have l0 : r + 0 < 160 := by omega
  have g0 : ¬ 160 ≤ r + 0 := by omega
  have y0 := as_lt (show r + 0 < 2147483648 by omega) (show 160 < 2147483648 by decide)
  have u0 : r + 0 ≤ 150 := by omega
  have n1 := as_nat (show r + 1 < 2147483648 by omega)
  have p1 := as_pos (show r + 1 < 2147483648 by omega)
  have l1 : r + 1 < 160 := by omega
  have g1 : ¬ 160 ≤ r + 1 := by omega
  have y1 := as_lt (show r + 1 < 2147483648 by omega) (show 160 < 2147483648 by decide)
  have u1 : r + 1 ≤ 150 := by omega
  have n2 := as_nat (show r + 2 < 2147483648 by omega)
  have p2 := as_pos (show r + 2 < 2147483648 by omega)
  have l2 : r + 2 < 160 := by omega
  have g2 : ¬ 160 ≤ r + 2 := by omega
  have y2 := as_lt (show r + 2 < 2147483648 by omega) (show 160 < 2147483648 by decide)
  have u2 : r + 2 ≤ 150 := by omega
  have n3 := as_nat (show r + 3 < 2147483648 by omega)
  have p3 := as_pos (show r + 3 < 2147483648 by omega)
  have l3 : r + 3 < 160 := by omega
  have g3 : ¬ 160 ≤ r + 3 := by omega
  have y3 := as_lt (show r + 3 < 2147483648 by omega) (show 160 < 2147483648 by decide)
  have u3 : r + 3 ≤ 150 := by omega
  have n4 := as_nat (show r + 4 < 2147483648 by omega)
  have p4 := as_pos (show r + 4 < 2147483648 by omega)
  have l4 : r + 4 < 160 := by omega
  have g4 : ¬ 160 ≤ r + 4 := by omega
  have y4 := as_lt (show r + 4 < 2147483648 by omega) (show 160 < 2147483648 by decide)
  have u4 : r + 4 ≤ 150 := by omega
  have n5 := as_nat (show r + 5 < 2147483648 by omega)
  have p5 := as_pos (show r + 5 < 2147483648 by omega)
  have l5 : r + 5 < 160 := by omega
  have g5 : ¬ 160 ≤ r + 5 := by omega
  have y5 := as_lt (show r + 5 < 2147483648 by omega) (show 160 < 2147483648 by decide)
  have u5 : r + 5 ≤ 150 := by omega
  simp only [Nat.add_zero] at n0 p0 l0 g0 y0 u0
  have c148 := fun (I : Nat → Nat → Int32) (L : Nat → List Int64) (x : Int32) (h1 : (L 35).length = 160) (h2 : I 34 2 = Int32.ofNat r) (h3 : r < 160) => ce_148 (X := X) (I := I) (A := A) (L := L) (V := V) (W := W) (Q := Q) (x := x) h1 h2 h3
  have w1 := fun (I : Nat → Nat → Int32) (L : Nat → List Int64) (v : Int32) (h1 : (L 35).length = 160) (h2 : I 34 2 = Int32.ofNat (r + 1)) (h3 : r + 1 + 3 ≤ 150) => cl_153_2 (X := X) (I := I) (A := A) (L := L) (V := V) (W := W) (Q := Q) (v := v) (r := r + 1) hQ h1 h2 h3
  have w2 := fun (I : Nat → Nat → Int32) (L : Nat → List Int64) (v : Int32) (h1 : (L 35).length = 160) (h2 : I 34 2 = Int32.ofNat (r + 4)) (h3 : r + 4 + 1 ≤ 150) => cl_151_2 (X := X) (I := I) (A := A) (L := L) (V := V) (W := W) (Q := Q) (v := v) (r := r + 4) hQ h1 h2 h3
  simp only [q158_0, q158_0n, q158_1, q158_3, q158_6, q158_7, q158_8, q158_8n, q158_9, q158_12, q158_13, q158_14, q158_15, q158_16, q158_17, q158_20, q158_21, q158_21n, q158_22, q158_25, q158_26, en_c34, en_f34_0, en_f34_1, en_p34_1, en_f34_2, en_p34_2, en_a35, en_l35, en_s35, as_10, as_01, Nat.reduceBEq, Nat.reduceEqDiff, ↓reduceIte, Option.bind_some, Option.getD_some, Option.isSome_some, Option.isSome_none, Bool.false_eq_true, Option.toList, List.nil_append, List.cons_append, List.lookup, Option.isSome, List.getElem?_cons_zero, List.getElem?_cons_succ, beq_self_eq_true, if_true, true_or, or_true, or_false, false_or, am_kl, true_and, and_true, and_false, false_and, if_false, not_true_eq_false, not_false_eq_true, as_b0, as_b1, as_em, as_ne, List.length_cons, List.length_nil, Nat.reduceAdd, Int32.reduceLT, Int32.reduceLE, Int32.reduceAdd, Int32.reduceSub, Int32.neg_neg, Int32.reduceMul, Int32.reduceToNatClampNeg, Nat.reduceLeDiff, Nat.reduceLT, List.set_cons_zero, List.set_cons_succ, List.length_set, en_at, en_uu, en_gd, hr, h35, en_clsQ hQ, en_gfQ0 hQ, en_gfQ1 hQ, c148, as_add1, Nat.add_assoc, Int32.reduceToNatClampNeg, md_tpL, md_tpL_len, en_gdL, n0, p0, l0, g0, y0, u0, n1, p1, l1, g1, y1, u1, n2, p2, l2, g2, y2, u2, n3, p3, l3, g3, y3, u3, n4, p4, l4, g4, y4, u4, n5, p5, l5, g5, y5, u5, w1, w2]

set_option maxRecDepth 100000 in
theorem cl_158_3 {X : List Int32} {I : Nat → Nat → Int32} {A : Nat → List Int32} {L : Nat → List Int64} {V : Nat → List Value} {W : Value} {Q : am_Mem} {q r : Nat} {m a v : Int32} (hQ : Q[q]? = some (.inr (.inr (.inr (3, [.int m, .int a]))))) (h35 : (L 35).length = 160) (hr : I 34 2 = Int32.ofNat r) (hr2 : r + 4 ≤ 150) :
    am_mt X 158 [.ref (q + 57), .int v, .ref 34] (en_E I A L V W Q) = some (some (.int (((v + m) * 2) ^^^ ((v - a) + m))), en_E (en_u I 34 (en_u (I 34) 2 (Int32.ofNat (r + 4)))) A (en_u L 35 (md_tpL (L 35) r [12, 11, 10, 10])) V W Q) := by
  rw [as_mt (n := 4) (by decide +kernel), show am_ent 4 [.ref (q + 57), .int v, .ref 34] = [some (.ref (q + 57)), some (.int v), some (.ref 34), none] from rfl]
  have n0 := as_nat (show r + 0 < 2147483648 by omega)
  have p0 := as_pos (show r + 0 < 2147483648 by omega)
  have l0 : r + 0 < 160 := by omega
  have g0 : ¬ 160 ≤ r + 0 := by omega
  have y0 := as_lt (show r + 0 < 2147483648 by omega) (show 160 < 2147483648 by decide)
  have u0 : r + 0 ≤ 150 := by omega
  have n1 := as_nat (show r + 1 < 2147483648 by omega)
  have p1 := as_pos (show r + 1 < 2147483648 by omega)
  have l1 : r + 1 < 160 := by omega
  have g1 : ¬ 160 ≤ r + 1 := by omega
  have y1 := as_lt (show r + 1 < 2147483648 by omega) (show 160 < 2147483648 by decide)
  have u1 : r + 1 ≤ 150 := by omega
  have n2 := as_nat (show r + 2 < 2147483648 by omega)
  have p2 := as_pos (show r + 2 < 2147483648 by omega)
  have l2 : r + 2 < 160 := by omega
  have g2 : ¬ 160 ≤ r + 2 := by omega
  have y2 := as_lt (show r + 2 < 2147483648 by omega) (show 160 < 2147483648 by decide)
  have u2 : r + 2 ≤ 150 := by omega
  have n3 := as_nat (show r + 3 < 2147483648 by omega)
  have p3 := as_pos (show r + 3 < 2147483648 by omega)
  have l3 : r + 3 < 160 := by omega
  have g3 : ¬ 160 ≤ r + 3 := by omega
  have y3 := as_lt (show r + 3 < 2147483648 by omega) (show 160 < 2147483648 by decide)
  have u3 : r + 3 ≤ 150 := by omega
  have n4 := as_nat (show r + 4 < 2147483648 by omega)
  have p4 := as_pos (show r + 4 < 2147483648 by omega)
  have l4 : r + 4 < 160 := by omega
  have g4 : ¬ 160 ≤ r + 4 := by omega
  have y4 := as_lt (show r + 4 < 2147483648 by omega) (show 160 < 2147483648 by decide)
  have u4 : r + 4 ≤ 150 := by omega
  simp only [Nat.add_zero] at n0 p0 l0 g0 y0 u0
  have c148 := fun (I : Nat → Nat → Int32) (L : Nat → List Int64) (x : Int32) (h1 : (L 35).length = 160) (h2 : I 34 2 = Int32.ofNat r) (h3 : r < 160) => ce_148 (X := X) (I := I) (A := A) (L := L) (V := V) (W := W) (Q := Q) (x := x) h1 h2 h3
  have w1 := fun (I : Nat → Nat → Int32) (L : Nat → List Int64) (v : Int32) (h1 : (L 35).length = 160) (h2 : I 34 2 = Int32.ofNat (r + 1)) (h3 : r + 1 + 2 ≤ 150) => cl_155_3 (X := X) (I := I) (A := A) (L := L) (V := V) (W := W) (Q := Q) (v := v) (r := r + 1) hQ h1 h2 h3
  have w2 := fun (I : Nat → Nat → Int32) (L : Nat → List Int64) (v : Int32) (h1 : (L 35).length = 160) (h2 : I 34 2 = Int32.ofNat (r + 3)) (h3 : r + 3 + 1 ≤ 150) => cl_151_3 (X := X) (I := I) (A := A) (L := L) (V := V) (W := W) (Q := Q) (v := v) (r := r + 3) hQ h1 h2 h3
  simp only [q158_0, q158_0n, q158_1, q158_3, q158_6, q158_7, q158_8, q158_8n, q158_9, q158_12, q158_13, q158_14, q158_15, q158_16, q158_17, q158_20, q158_21, q158_21n, q158_22, q158_25, q158_26, en_c34, en_f34_0, en_f34_1, en_p34_1, en_f34_2, en_p34_2, en_a35, en_l35, en_s35, as_10, as_01, Nat.reduceBEq, Nat.reduceEqDiff, ↓reduceIte, Option.bind_some, Option.getD_some, Option.isSome_some, Option.isSome_none, Bool.false_eq_true, Option.toList, List.nil_append, List.cons_append, List.lookup, Option.isSome, List.getElem?_cons_zero, List.getElem?_cons_succ, beq_self_eq_true, if_true, true_or, or_true, or_false, false_or, am_kl, true_and, and_true, and_false, false_and, if_false, not_true_eq_false, not_false_eq_true, as_b0, as_b1, as_em, as_ne, List.length_cons, List.length_nil, Nat.reduceAdd, Int32.reduceLT, Int32.reduceLE, Int32.reduceAdd, Int32.reduceSub, Int32.neg_neg, Int32.reduceMul, Int32.reduceToNatClampNeg, Nat.reduceLeDiff, Nat.reduceLT, List.set_cons_zero, List.set_cons_succ, List.length_set, en_at, en_uu, en_gd, hr, h35, en_clsQ hQ, en_gfQ0 hQ, en_gfQ1 hQ, c148, as_add1, Nat.add_assoc, Int32.reduceToNatClampNeg, md_tpL, md_tpL_len, en_gdL, n0, p0, l0, g0, y0, u0, n1, p1, l1, g1, y1, u1, n2, p2, l2, g2, y2, u2, n3, p3, l3, g3, y3, u3, n4, p4, l4, g4, y4, u4, w1, w2]

set_option maxRecDepth 100000 in
theorem cl_158_4 {X : List Int32} {I : Nat → Nat → Int32} {A : Nat → List Int32} {L : Nat → List Int64} {V : Nat → List Value} {W : Value} {Q : am_Mem} {q r : Nat} {m a v : Int32} (hQ : Q[q]? = some (.inr (.inr (.inr (4, [.int m, .int a]))))) (h35 : (L 35).length = 160) (hr : I 34 2 = Int32.ofNat r) (hr2 : r + 6 ≤ 150) :
    am_mt X 158 [.ref (q + 57), .int v, .ref 34] (en_E I A L V W Q) = some (some (.int (((v + m + a) * 2) ^^^ ((v - a) + m + a))), en_E (en_u I 34 (en_u (I 34) 2 (Int32.ofNat (r + 6)))) A (en_u L 35 (md_tpL (L 35) r [12, 11, 20, 10, 20, 10])) V W Q) := by
  rw [as_mt (n := 4) (by decide +kernel), show am_ent 4 [.ref (q + 57), .int v, .ref 34] = [some (.ref (q + 57)), some (.int v), some (.ref 34), none] from rfl]
  have n0 := as_nat (show r + 0 < 2147483648 by omega)
  have p0 := as_pos (show r + 0 < 2147483648 by omega)
  have l0 : r + 0 < 160 := by omega
  have g0 : ¬ 160 ≤ r + 0 := by omega
  have y0 := as_lt (show r + 0 < 2147483648 by omega) (show 160 < 2147483648 by decide)
  have u0 : r + 0 ≤ 150 := by omega
  have n1 := as_nat (show r + 1 < 2147483648 by omega)
  have p1 := as_pos (show r + 1 < 2147483648 by omega)
  have l1 : r + 1 < 160 := by omega
  have g1 : ¬ 160 ≤ r + 1 := by omega
  have y1 := as_lt (show r + 1 < 2147483648 by omega) (show 160 < 2147483648 by decide)
  have u1 : r + 1 ≤ 150 := by omega
  have n2 := as_nat (show r + 2 < 2147483648 by omega)
  have p2 := as_pos (show r + 2 < 2147483648 by omega)
  have l2 : r + 2 < 160 := by omega
  have g2 : ¬ 160 ≤ r + 2 := by omega
  have y2 := as_lt (show r + 2 < 2147483648 by omega) (show 160 < 2147483648 by decide)
  have u2 : r + 2 ≤ 150 := by omega
  have n3 := as_nat (show r + 3 < 2147483648 by omega)
  have p3 := as_pos (show r + 3 < 2147483648 by omega)
  have l3 : r + 3 < 160 := by omega
  have g3 : ¬ 160 ≤ r + 3 := by omega
  have y3 := as_lt (show r + 3 < 2147483648 by omega) (show 160 < 2147483648 by decide)
  have u3 : r + 3 ≤ 150 := by omega
  have n4 := as_nat (show r + 4 < 2147483648 by omega)
  have p4 := as_pos (show r + 4 < 2147483648 by omega)
  have l4 : r + 4 < 160 := by omega
  have g4 : ¬ 160 ≤ r + 4 := by omega
  have y4 := as_lt (show r + 4 < 2147483648 by omega) (show 160 < 2147483648 by decide)
  have u4 : r + 4 ≤ 150 := by omega
  have n5 := as_nat (show r + 5 < 2147483648 by omega)
  have p5 := as_pos (show r + 5 < 2147483648 by omega)
  have l5 : r + 5 < 160 := by omega
  have g5 : ¬ 160 ≤ r + 5 := by omega
  have y5 := as_lt (show r + 5 < 2147483648 by omega) (show 160 < 2147483648 by decide)
  have u5 : r + 5 ≤ 150 := by omega
  have n6 := as_nat (show r + 6 < 2147483648 by omega)
  have p6 := as_pos (show r + 6 < 2147483648 by omega)
  have l6 : r + 6 < 160 := by omega
  have g6 : ¬ 160 ≤ r + 6 := by omega
  have y6 := as_lt (show r + 6 < 2147483648 by omega) (show 160 < 2147483648 by decide)
  have u6 : r + 6 ≤ 150 := by omega
  simp only [Nat.add_zero] at n0 p0 l0 g0 y0 u0
  have c148 := fun (I : Nat → Nat → Int32) (L : Nat → List Int64) (x : Int32) (h1 : (L 35).length = 160) (h2 : I 34 2 = Int32.ofNat r) (h3 : r < 160) => ce_148 (X := X) (I := I) (A := A) (L := L) (V := V) (W := W) (Q := Q) (x := x) h1 h2 h3
  have w1 := fun (I : Nat → Nat → Int32) (L : Nat → List Int64) (v : Int32) (h1 : (L 35).length = 160) (h2 : I 34 2 = Int32.ofNat (r + 1)) (h3 : r + 1 + 3 ≤ 150) => cl_155_4 (X := X) (I := I) (A := A) (L := L) (V := V) (W := W) (Q := Q) (v := v) (r := r + 1) hQ h1 h2 h3
  have w2 := fun (I : Nat → Nat → Int32) (L : Nat → List Int64) (v : Int32) (h1 : (L 35).length = 160) (h2 : I 34 2 = Int32.ofNat (r + 4)) (h3 : r + 4 + 2 ≤ 150) => cl_150_4 (X := X) (I := I) (A := A) (L := L) (V := V) (W := W) (Q := Q) (v := v) (r := r + 4) hQ h1 h2 h3
  simp only [q158_0, q158_0n, q158_1, q158_3, q158_6, q158_7, q158_8, q158_8n, q158_9, q158_12, q158_13, q158_14, q158_15, q158_16, q158_17, q158_20, q158_21, q158_21n, q158_22, q158_25, q158_26, en_c34, en_f34_0, en_f34_1, en_p34_1, en_f34_2, en_p34_2, en_a35, en_l35, en_s35, as_10, as_01, Nat.reduceBEq, Nat.reduceEqDiff, ↓reduceIte, Option.bind_some, Option.getD_some, Option.isSome_some, Option.isSome_none, Bool.false_eq_true, Option.toList, List.nil_append, List.cons_append, List.lookup, Option.isSome, List.getElem?_cons_zero, List.getElem?_cons_succ, beq_self_eq_true, if_true, true_or, or_true, or_false, false_or, am_kl, true_and, and_true, and_false, false_and, if_false, not_true_eq_false, not_false_eq_true, as_b0, as_b1, as_em, as_ne, List.length_cons, List.length_nil, Nat.reduceAdd, Int32.reduceLT, Int32.reduceLE, Int32.reduceAdd, Int32.reduceSub, Int32.neg_neg, Int32.reduceMul, Int32.reduceToNatClampNeg, Nat.reduceLeDiff, Nat.reduceLT, List.set_cons_zero, List.set_cons_succ, List.length_set, en_at, en_uu, en_gd, hr, h35, en_clsQ hQ, en_gfQ0 hQ, en_gfQ1 hQ, c148, as_add1, Nat.add_assoc, Int32.reduceToNatClampNeg, md_tpL, md_tpL_len, en_gdL, n0, p0, l0, g0, y0, u0, n1, p1, l1, g1, y1, u1, n2, p2, l2, g2, y2, u2, n3, p3, l3, g3, y3, u3, n4, p4, l4, g4, y4, u4, n5, p5, l5, g5, y5, u5, n6, p6, l6, g6, y6, u6, w1, w2]

set_option maxRecDepth 100000 in
theorem cl_158_6 {X : List Int32} {I : Nat → Nat → Int32} {A : Nat → List Int32} {L : Nat → List Int64} {V : Nat → List Value} {W : Value} {Q : am_Mem} {q r : Nat} {m a v : Int32} (hQ : Q[q]? = some (.inr (.inr (.inr (6, [.int m, .int a]))))) (h35 : (L 35).length = 160) (hr : I 34 2 = Int32.ofNat r) (hr2 : r + 6 ≤ 150) :
    am_mt X 158 [.ref (q + 57), .int v, .ref 34] (en_E I A L V W Q) = some (some (.int (((v + m - m) * 2) ^^^ ((v - a) + m - m))), en_E (en_u I 34 (en_u (I 34) 2 (Int32.ofNat (r + 6)))) A (en_u L 35 (md_tpL (L 35) r [12, 11, 51, 10, 51, 10])) V W Q) := by
  rw [as_mt (n := 4) (by decide +kernel), show am_ent 4 [.ref (q + 57), .int v, .ref 34] = [some (.ref (q + 57)), some (.int v), some (.ref 34), none] from rfl]
  have n0 := as_nat (show r + 0 < 2147483648 by omega)
  have p0 := as_pos (show r + 0 < 2147483648 by omega)
  have l0 : r + 0 < 160 := by omega
  have g0 : ¬ 160 ≤ r + 0 := by omega
  have y0 := as_lt (show r + 0 < 2147483648 by omega) (show 160 < 2147483648 by decide)
  have u0 : r + 0 ≤ 150 := by omega
  have n1 := as_nat (show r + 1 < 2147483648 by omega)
  have p1 := as_pos (show r + 1 < 2147483648 by omega)
  have l1 : r + 1 < 160 := by omega
  have g1 : ¬ 160 ≤ r + 1 := by omega
  have y1 := as_lt (show r + 1 < 2147483648 by omega) (show 160 < 2147483648 by decide)
  have u1 : r + 1 ≤ 150 := by omega
  have n2 := as_nat (show r + 2 < 2147483648 by omega)
  have p2 := as_pos (show r + 2 < 2147483648 by omega)
  have l2 : r + 2 < 160 := by omega
  have g2 : ¬ 160 ≤ r + 2 := by omega
  have y2 := as_lt (show r + 2 < 2147483648 by omega) (show 160 < 2147483648 by decide)
  have u2 : r + 2 ≤ 150 := by omega
  have n3 := as_nat (show r + 3 < 2147483648 by omega)
  have p3 := as_pos (show r + 3 < 2147483648 by omega)
  have l3 : r + 3 < 160 := by omega
  have g3 : ¬ 160 ≤ r + 3 := by omega
  have y3 := as_lt (show r + 3 < 2147483648 by omega) (show 160 < 2147483648 by decide)
  have u3 : r + 3 ≤ 150 := by omega
  have n4 := as_nat (show r + 4 < 2147483648 by omega)
  have p4 := as_pos (show r + 4 < 2147483648 by omega)
  have l4 : r + 4 < 160 := by omega
  have g4 : ¬ 160 ≤ r + 4 := by omega
  have y4 := as_lt (show r + 4 < 2147483648 by omega) (show 160 < 2147483648 by decide)
  have u4 : r + 4 ≤ 150 := by omega
  have n5 := as_nat (show r + 5 < 2147483648 by omega)
  have p5 := as_pos (show r + 5 < 2147483648 by omega)
  have l5 : r + 5 < 160 := by omega
  have g5 : ¬ 160 ≤ r + 5 := by omega
  have y5 := as_lt (show r + 5 < 2147483648 by omega) (show 160 < 2147483648 by decide)
  have u5 : r + 5 ≤ 150 := by omega
  have n6 := as_nat (show r + 6 < 2147483648 by omega)
  have p6 := as_pos (show r + 6 < 2147483648 by omega)
  have l6 : r + 6 < 160 := by omega
  have g6 : ¬ 160 ≤ r + 6 := by omega
  have y6 := as_lt (show r + 6 < 2147483648 by omega) (show 160 < 2147483648 by decide)
  have u6 : r + 6 ≤ 150 := by omega
  simp only [Nat.add_zero] at n0 p0 l0 g0 y0 u0
  have c148 := fun (I : Nat → Nat → Int32) (L : Nat → List Int64) (x : Int32) (h1 : (L 35).length = 160) (h2 : I 34 2 = Int32.ofNat r) (h3 : r < 160) => ce_148 (X := X) (I := I) (A := A) (L := L) (V := V) (W := W) (Q := Q) (x := x) h1 h2 h3
  have w1 := fun (I : Nat → Nat → Int32) (L : Nat → List Int64) (v : Int32) (h1 : (L 35).length = 160) (h2 : I 34 2 = Int32.ofNat (r + 1)) (h3 : r + 1 + 3 ≤ 150) => cl_155_6 (X := X) (I := I) (A := A) (L := L) (V := V) (W := W) (Q := Q) (v := v) (r := r + 1) hQ h1 h2 h3
  have w2 := fun (I : Nat → Nat → Int32) (L : Nat → List Int64) (v : Int32) (h1 : (L 35).length = 160) (h2 : I 34 2 = Int32.ofNat (r + 4)) (h3 : r + 4 + 2 ≤ 150) => cl_149_6 (X := X) (I := I) (A := A) (L := L) (V := V) (W := W) (Q := Q) (v := v) (r := r + 4) hQ h1 h2 h3
  simp only [q158_0, q158_0n, q158_1, q158_3, q158_6, q158_7, q158_8, q158_8n, q158_9, q158_12, q158_13, q158_14, q158_15, q158_16, q158_17, q158_20, q158_21, q158_21n, q158_22, q158_25, q158_26, en_c34, en_f34_0, en_f34_1, en_p34_1, en_f34_2, en_p34_2, en_a35, en_l35, en_s35, as_10, as_01, Nat.reduceBEq, Nat.reduceEqDiff, ↓reduceIte, Option.bind_some, Option.getD_some, Option.isSome_some, Option.isSome_none, Bool.false_eq_true, Option.toList, List.nil_append, List.cons_append, List.lookup, Option.isSome, List.getElem?_cons_zero, List.getElem?_cons_succ, beq_self_eq_true, if_true, true_or, or_true, or_false, false_or, am_kl, true_and, and_true, and_false, false_and, if_false, not_true_eq_false, not_false_eq_true, as_b0, as_b1, as_em, as_ne, List.length_cons, List.length_nil, Nat.reduceAdd, Int32.reduceLT, Int32.reduceLE, Int32.reduceAdd, Int32.reduceSub, Int32.neg_neg, Int32.reduceMul, Int32.reduceToNatClampNeg, Nat.reduceLeDiff, Nat.reduceLT, List.set_cons_zero, List.set_cons_succ, List.length_set, en_at, en_uu, en_gd, hr, h35, en_clsQ hQ, en_gfQ0 hQ, en_gfQ1 hQ, c148, as_add1, Nat.add_assoc, Int32.reduceToNatClampNeg, md_tpL, md_tpL_len, en_gdL, n0, p0, l0, g0, y0, u0, n1, p1, l1, g1, y1, u1, n2, p2, l2, g2, y2, u2, n3, p3, l3, g3, y3, u3, n4, p4, l4, g4, y4, u4, n5, p5, l5, g5, y5, u5, n6, p6, l6, g6, y6, u6, w1, w2]

set_option maxRecDepth 100000 in
theorem cl_158_7 {X : List Int32} {I : Nat → Nat → Int32} {A : Nat → List Int32} {L : Nat → List Int64} {V : Nat → List Value} {W : Value} {Q : am_Mem} {q r : Nat} {m a v : Int32} (hQ : Q[q]? = some (.inr (.inr (.inr (7, [.int m, .int a]))))) (h35 : (L 35).length = 160) (hr : I 34 2 = Int32.ofNat r) (hr2 : r + 6 ≤ 150) :
    am_mt X 158 [.ref (q + 57), .int v, .ref 34] (en_E I A L V W Q) = some (some (.int (((v + m + a) * 2) ^^^ ((v - a) + m + a))), en_E (en_u I 34 (en_u (I 34) 2 (Int32.ofNat (r + 6)))) A (en_u L 35 (md_tpL (L 35) r [12, 11, 20, 10, 20, 10])) V W Q) := by
  rw [as_mt (n := 4) (by decide +kernel), show am_ent 4 [.ref (q + 57), .int v, .ref 34] = [some (.ref (q + 57)), some (.int v), some (.ref 34), none] from rfl]
  have n0 := as_nat (show r + 0 < 2147483648 by omega)
  have p0 := as_pos (show r + 0 < 2147483648 by omega)
  have l0 : r + 0 < 160 := by omega
  have g0 : ¬ 160 ≤ r + 0 := by omega
  have y0 := as_lt (show r + 0 < 2147483648 by omega) (show 160 < 2147483648 by decide)
  have u0 : r + 0 ≤ 150 := by omega
  have n1 := as_nat (show r + 1 < 2147483648 by omega)
  have p1 := as_pos (show r + 1 < 2147483648 by omega)
  have l1 : r + 1 < 160 := by omega
  have g1 : ¬ 160 ≤ r + 1 := by omega
  have y1 := as_lt (show r + 1 < 2147483648 by omega) (show 160 < 2147483648 by decide)
  have u1 : r + 1 ≤ 150 := by omega
  have n2 := as_nat (show r + 2 < 2147483648 by omega)
  have p2 := as_pos (show r + 2 < 2147483648 by omega)
  have l2 : r + 2 < 160 := by omega
  have g2 : ¬ 160 ≤ r + 2 := by omega
  have y2 := as_lt (show r + 2 < 2147483648 by omega) (show 160 < 2147483648 by decide)
  have u2 : r + 2 ≤ 150 := by omega
  have n3 := as_nat (show r + 3 < 2147483648 by omega)
  have p3 := as_pos (show r + 3 < 2147483648 by omega)
  have l3 : r + 3 < 160 := by omega
  have g3 : ¬ 160 ≤ r + 3 := by omega
  have y3 := as_lt (show r + 3 < 2147483648 by omega) (show 160 < 2147483648 by decide)
  have u3 : r + 3 ≤ 150 := by omega
  have n4 := as_nat (show r + 4 < 2147483648 by omega)
  have p4 := as_pos (show r + 4 < 2147483648 by omega)
  have l4 : r + 4 < 160 := by omega
  have g4 : ¬ 160 ≤ r + 4 := by omega
  have y4 := as_lt (show r + 4 < 2147483648 by omega) (show 160 < 2147483648 by decide)
  have u4 : r + 4 ≤ 150 := by omega
  have n5 := as_nat (show r + 5 < 2147483648 by omega)
  have p5 := as_pos (show r + 5 < 2147483648 by omega)
  have l5 : r + 5 < 160 := by omega
  have g5 : ¬ 160 ≤ r + 5 := by omega
  have y5 := as_lt (show r + 5 < 2147483648 by omega) (show 160 < 2147483648 by decide)
  have u5 : r + 5 ≤ 150 := by omega
  have n6 := as_nat (show r + 6 < 2147483648 by omega)
  have p6 := as_pos (show r + 6 < 2147483648 by omega)
  have l6 : r + 6 < 160 := by omega
  have g6 : ¬ 160 ≤ r + 6 := by omega
  have y6 := as_lt (show r + 6 < 2147483648 by omega) (show 160 < 2147483648 by decide)
  have u6 : r + 6 ≤ 150 := by omega
  simp only [Nat.add_zero] at n0 p0 l0 g0 y0 u0
  have c148 := fun (I : Nat → Nat → Int32) (L : Nat → List Int64) (x : Int32) (h1 : (L 35).length = 160) (h2 : I 34 2 = Int32.ofNat r) (h3 : r < 160) => ce_148 (X := X) (I := I) (A := A) (L := L) (V := V) (W := W) (Q := Q) (x := x) h1 h2 h3
  have w1 := fun (I : Nat → Nat → Int32) (L : Nat → List Int64) (v : Int32) (h1 : (L 35).length = 160) (h2 : I 34 2 = Int32.ofNat (r + 1)) (h3 : r + 1 + 3 ≤ 150) => cl_155_7 (X := X) (I := I) (A := A) (L := L) (V := V) (W := W) (Q := Q) (v := v) (r := r + 1) hQ h1 h2 h3
  have w2 := fun (I : Nat → Nat → Int32) (L : Nat → List Int64) (v : Int32) (h1 : (L 35).length = 160) (h2 : I 34 2 = Int32.ofNat (r + 4)) (h3 : r + 4 + 2 ≤ 150) => cl_150_7 (X := X) (I := I) (A := A) (L := L) (V := V) (W := W) (Q := Q) (v := v) (r := r + 4) hQ h1 h2 h3
  simp only [q158_0, q158_0n, q158_1, q158_3, q158_6, q158_7, q158_8, q158_8n, q158_9, q158_12, q158_13, q158_14, q158_15, q158_16, q158_17, q158_20, q158_21, q158_21n, q158_22, q158_25, q158_26, en_c34, en_f34_0, en_f34_1, en_p34_1, en_f34_2, en_p34_2, en_a35, en_l35, en_s35, as_10, as_01, Nat.reduceBEq, Nat.reduceEqDiff, ↓reduceIte, Option.bind_some, Option.getD_some, Option.isSome_some, Option.isSome_none, Bool.false_eq_true, Option.toList, List.nil_append, List.cons_append, List.lookup, Option.isSome, List.getElem?_cons_zero, List.getElem?_cons_succ, beq_self_eq_true, if_true, true_or, or_true, or_false, false_or, am_kl, true_and, and_true, and_false, false_and, if_false, not_true_eq_false, not_false_eq_true, as_b0, as_b1, as_em, as_ne, List.length_cons, List.length_nil, Nat.reduceAdd, Int32.reduceLT, Int32.reduceLE, Int32.reduceAdd, Int32.reduceSub, Int32.neg_neg, Int32.reduceMul, Int32.reduceToNatClampNeg, Nat.reduceLeDiff, Nat.reduceLT, List.set_cons_zero, List.set_cons_succ, List.length_set, en_at, en_uu, en_gd, hr, h35, en_clsQ hQ, en_gfQ0 hQ, en_gfQ1 hQ, c148, as_add1, Nat.add_assoc, Int32.reduceToNatClampNeg, md_tpL, md_tpL_len, en_gdL, n0, p0, l0, g0, y0, u0, n1, p1, l1, g1, y1, u1, n2, p2, l2, g2, y2, u2, n3, p3, l3, g3, y3, u3, n4, p4, l4, g4, y4, u4, n5, p5, l5, g5, y5, u5, n6, p6, l6, g6, y6, u6, w1, w2]

set_option maxRecDepth 100000 in
theorem cl_158_8 {X : List Int32} {I : Nat → Nat → Int32} {A : Nat → List Int32} {L : Nat → List Int64} {V : Nat → List Value} {W : Value} {Q : am_Mem} {q r : Nat} {m a v : Int32} (hQ : Q[q]? = some (.inr (.inr (.inr (8, [.int m, .int a]))))) (h35 : (L 35).length = 160) (hr : I 34 2 = Int32.ofNat r) (hr2 : r + 7 ≤ 150) :
    am_mt X 158 [.ref (q + 57), .int v, .ref 34] (en_E I A L V W Q) = some (some (.int ((((v + 1) + m + a) * 2) ^^^ ((v - a) + m + a))), en_E (en_u I 34 (en_u (I 34) 2 (Int32.ofNat (r + 7)))) A (en_u L 35 (md_tpL (L 35) r [12, 40, 11, 20, 10, 20, 10])) V W Q) := by
  rw [as_mt (n := 4) (by decide +kernel), show am_ent 4 [.ref (q + 57), .int v, .ref 34] = [some (.ref (q + 57)), some (.int v), some (.ref 34), none] from rfl]
  have n0 := as_nat (show r + 0 < 2147483648 by omega)
  have p0 := as_pos (show r + 0 < 2147483648 by omega)
  have l0 : r + 0 < 160 := by omega
  have g0 : ¬ 160 ≤ r + 0 := by omega
  have y0 := as_lt (show r + 0 < 2147483648 by omega) (show 160 < 2147483648 by decide)
  have u0 : r + 0 ≤ 150 := by omega
  have n1 := as_nat (show r + 1 < 2147483648 by omega)
  have p1 := as_pos (show r + 1 < 2147483648 by omega)
  have l1 : r + 1 < 160 := by omega
  have g1 : ¬ 160 ≤ r + 1 := by omega
  have y1 := as_lt (show r + 1 < 2147483648 by omega) (show 160 < 2147483648 by decide)
  have u1 : r + 1 ≤ 150 := by omega
  have n2 := as_nat (show r + 2 < 2147483648 by omega)
  have p2 := as_pos (show r + 2 < 2147483648 by omega)
  have l2 : r + 2 < 160 := by omega
  have g2 : ¬ 160 ≤ r + 2 := by omega
  have y2 := as_lt (show r + 2 < 2147483648 by omega) (show 160 < 2147483648 by decide)
  have u2 : r + 2 ≤ 150 := by omega
  have n3 := as_nat (show r + 3 < 2147483648 by omega)
  have p3 := as_pos (show r + 3 < 2147483648 by omega)
  have l3 : r + 3 < 160 := by omega
  have g3 : ¬ 160 ≤ r + 3 := by omega
  have y3 := as_lt (show r + 3 < 2147483648 by omega) (show 160 < 2147483648 by decide)
  have u3 : r + 3 ≤ 150 := by omega
  have n4 := as_nat (show r + 4 < 2147483648 by omega)
  have p4 := as_pos (show r + 4 < 2147483648 by omega)
  have l4 : r + 4 < 160 := by omega
  have g4 : ¬ 160 ≤ r + 4 := by omega
  have y4 := as_lt (show r + 4 < 2147483648 by omega) (show 160 < 2147483648 by decide)
  have u4 : r + 4 ≤ 150 := by omega
  have n5 := as_nat (show r + 5 < 2147483648 by omega)
  have p5 := as_pos (show r + 5 < 2147483648 by omega)
  have l5 : r + 5 < 160 := by omega
  have g5 : ¬ 160 ≤ r + 5 := by omega
  have y5 := as_lt (show r + 5 < 2147483648 by omega) (show 160 < 2147483648 by decide)
  have u5 : r + 5 ≤ 150 := by omega
  have n6 := as_nat (show r + 6 < 2147483648 by omega)
  have p6 := as_pos (show r + 6 < 2147483648 by omega)
  have l6 : r + 6 < 160 := by omega
  have g6 : ¬ 160 ≤ r + 6 := by omega
  have y6 := as_lt (show r + 6 < 2147483648 by omega) (show 160 < 2147483648 by decide)
  have u6 : r + 6 ≤ 150 := by omega
  have n7 := as_nat (show r + 7 < 2147483648 by omega)
  have p7 := as_pos (show r + 7 < 2147483648 by omega)
  have l7 : r + 7 < 160 := by omega
  have g7 : ¬ 160 ≤ r + 7 := by omega
  have y7 := as_lt (show r + 7 < 2147483648 by omega) (show 160 < 2147483648 by decide)
  have u7 : r + 7 ≤ 150 := by omega
  simp only [Nat.add_zero] at n0 p0 l0 g0 y0 u0
  have c148 := fun (I : Nat → Nat → Int32) (L : Nat → List Int64) (x : Int32) (h1 : (L 35).length = 160) (h2 : I 34 2 = Int32.ofNat r) (h3 : r < 160) => ce_148 (X := X) (I := I) (A := A) (L := L) (V := V) (W := W) (Q := Q) (x := x) h1 h2 h3
  have w1 := fun (I : Nat → Nat → Int32) (L : Nat → List Int64) (v : Int32) (h1 : (L 35).length = 160) (h2 : I 34 2 = Int32.ofNat (r + 1)) (h3 : r + 1 + 4 ≤ 150) => cl_154_8 (X := X) (I := I) (A := A) (L := L) (V := V) (W := W) (Q := Q) (v := v) (r := r + 1) hQ h1 h2 h3
  have w2 := fun (I : Nat → Nat → Int32) (L : Nat → List Int64) (v : Int32) (h1 : (L 35).length = 160) (h2 : I 34 2 = Int32.ofNat (r + 5)) (h3 : r + 5 + 2 ≤ 150) => cl_150_8 (X := X) (I := I) (A := A) (L := L) (V := V) (W := W) (Q := Q) (v := v) (r := r + 5) hQ h1 h2 h3
  simp only [q158_0, q158_0n, q158_1, q158_3, q158_6, q158_7, q158_8, q158_8n, q158_9, q158_12, q158_13, q158_14, q158_15, q158_16, q158_17, q158_20, q158_21, q158_21n, q158_22, q158_25, q158_26, en_c34, en_f34_0, en_f34_1, en_p34_1, en_f34_2, en_p34_2, en_a35, en_l35, en_s35, as_10, as_01, Nat.reduceBEq, Nat.reduceEqDiff, ↓reduceIte, Option.bind_some, Option.getD_some, Option.isSome_some, Option.isSome_none, Bool.false_eq_true, Option.toList, List.nil_append, List.cons_append, List.lookup, Option.isSome, List.getElem?_cons_zero, List.getElem?_cons_succ, beq_self_eq_true, if_true, true_or, or_true, or_false, false_or, am_kl, true_and, and_true, and_false, false_and, if_false, not_true_eq_false, not_false_eq_true, as_b0, as_b1, as_em, as_ne, List.length_cons, List.length_nil, Nat.reduceAdd, Int32.reduceLT, Int32.reduceLE, Int32.reduceAdd, Int32.reduceSub, Int32.neg_neg, Int32.reduceMul, Int32.reduceToNatClampNeg, Nat.reduceLeDiff, Nat.reduceLT, List.set_cons_zero, List.set_cons_succ, List.length_set, en_at, en_uu, en_gd, hr, h35, en_clsQ hQ, en_gfQ0 hQ, en_gfQ1 hQ, c148, as_add1, Nat.add_assoc, Int32.reduceToNatClampNeg, md_tpL, md_tpL_len, en_gdL, n0, p0, l0, g0, y0, u0, n1, p1, l1, g1, y1, u1, n2, p2, l2, g2, y2, u2, n3, p3, l3, g3, y3, u3, n4, p4, l4, g4, y4, u4, n5, p5, l5, g5, y5, u5, n6, p6, l6, g6, y6, u6, n7, p7, l7, g7, y7, u7, w1, w2]

set_option maxRecDepth 100000 in
theorem cl_156_6 {X : List Int32} {I : Nat → Nat → Int32} {A : Nat → List Int32} {L : Nat → List Int64} {V : Nat → List Value} {W : Value} {Q : am_Mem} {q r : Nat} {m a v : Int32} (hQ : Q[q]? = some (.inr (.inr (.inr (6, [.int m, .int a]))))) (h35 : (L 35).length = 160) (hr : I 34 2 = Int32.ofNat r) (hr2 : r + 7 ≤ 150) :
    am_mt X 156 [.ref (q + 57), .int v, .ref 34] (en_E I A L V W Q) = some (some (.int (-(((v + m - m) * 2) ^^^ ((v - a) + m - m)))), en_E (en_u I 34 (en_u (I 34) 2 (Int32.ofNat (r + 7)))) A (en_u L 35 (md_tpL (L 35) r [50, 12, 11, 51, 10, 51, 10])) V W Q) := by
  rw [as_mt (n := 3) (by decide +kernel), show am_ent 3 [.ref (q + 57), .int v, .ref 34] = [some (.ref (q + 57)), some (.int v), some (.ref 34)] from rfl]
  have n0 := as_nat (show r + 0 < 2147483648 by omega)
  have p0 := as_pos (show r + 0 < 2147483648 by omega)
  have l0 : r + 0 < 160 := by omega
  have g0 : ¬ 160 ≤ r + 0 := by omega
  have y0 := as_lt (show r + 0 < 2147483648 by omega) (show 160 < 2147483648 by decide)
  have u0 : r + 0 ≤ 150 := by omega
  have n1 := as_nat (show r + 1 < 2147483648 by omega)
  have p1 := as_pos (show r + 1 < 2147483648 by omega)
  have l1 : r + 1 < 160 := by omega
  have g1 : ¬ 160 ≤ r + 1 := by omega
  have y1 := as_lt (show r + 1 < 2147483648 by omega) (show 160 < 2147483648 by decide)
  have u1 : r + 1 ≤ 150 := by omega
  have n2 := as_nat (show r + 2 < 2147483648 by omega)
  have p2 := as_pos (show r + 2 < 2147483648 by omega)
  have l2 : r + 2 < 160 := by omega
  have g2 : ¬ 160 ≤ r + 2 := by omega
  have y2 := as_lt (show r + 2 < 2147483648 by omega) (show 160 < 2147483648 by decide)
  have u2 : r + 2 ≤ 150 := by omega
  have n3 := as_nat (show r + 3 < 2147483648 by omega)
  have p3 := as_pos (show r + 3 < 2147483648 by omega)
  have l3 : r + 3 < 160 := by omega
  have g3 : ¬ 160 ≤ r + 3 := by omega
  have y3 := as_lt (show r + 3 < 2147483648 by omega) (show 160 < 2147483648 by decide)
  have u3 : r + 3 ≤ 150 := by omega
  have n4 := as_nat (show r + 4 < 2147483648 by omega)
  have p4 := as_pos (show r + 4 < 2147483648 by omega)
  have l4 : r + 4 < 160 := by omega
  have g4 : ¬ 160 ≤ r + 4 := by omega
  have y4 := as_lt (show r + 4 < 2147483648 by omega) (show 160 < 2147483648 by decide)
  have u4 : r + 4 ≤ 150 := by omega
  have n5 := as_nat (show r + 5 < 2147483648 by omega)
  have p5 := as_pos (show r + 5 < 2147483648 by omega)
  have l5 : r + 5 < 160 := by omega
  have g5 : ¬ 160 ≤ r + 5 := by omega
  have y5 := as_lt (show r + 5 < 2147483648 by omega) (show 160 < 2147483648 by decide)
  have u5 : r + 5 ≤ 150 := by omega
  have n6 := as_nat (show r + 6 < 2147483648 by omega)
  have p6 := as_pos (show r + 6 < 2147483648 by omega)
  have l6 : r + 6 < 160 := by omega
  have g6 : ¬ 160 ≤ r + 6 := by omega
  have y6 := as_lt (show r + 6 < 2147483648 by omega) (show 160 < 2147483648 by decide)
  have u6 : r + 6 ≤ 150 := by omega
  have n7 := as_nat (show r + 7 < 2147483648 by omega)
  have p7 := as_pos (show r + 7 < 2147483648 by omega)
  have l7 : r + 7 < 160 := by omega
  have g7 : ¬ 160 ≤ r + 7 := by omega
  have y7 := as_lt (show r + 7 < 2147483648 by omega) (show 160 < 2147483648 by decide)
  have u7 : r + 7 ≤ 150 := by omega
  simp only [Nat.add_zero] at n0 p0 l0 g0 y0 u0
  have c148 := fun (I : Nat → Nat → Int32) (L : Nat → List Int64) (x : Int32) (h1 : (L 35).length = 160) (h2 : I 34 2 = Int32.ofNat r) (h3 : r < 160) => ce_148 (X := X) (I := I) (A := A) (L := L) (V := V) (W := W) (Q := Q) (x := x) h1 h2 h3
  have w1 := fun (I : Nat → Nat → Int32) (L : Nat → List Int64) (v : Int32) (h1 : (L 35).length = 160) (h2 : I 34 2 = Int32.ofNat (r + 1)) (h3 : r + 1 + 6 ≤ 150) => cl_158_6 (X := X) (I := I) (A := A) (L := L) (V := V) (W := W) (Q := Q) (v := v) (r := r + 1) hQ h1 h2 h3
  simp only [q156_0, q156_0n, q156_1, q156_3, q156_6, q156_7, q156_8, q156_8n, q156_9, q156_12, q156_13, en_c34, en_f34_0, en_f34_1, en_p34_1, en_f34_2, en_p34_2, en_a35, en_l35, en_s35, as_10, as_01, Nat.reduceBEq, Nat.reduceEqDiff, ↓reduceIte, Option.bind_some, Option.getD_some, Option.isSome_some, Option.isSome_none, Bool.false_eq_true, Option.toList, List.nil_append, List.cons_append, List.lookup, Option.isSome, List.getElem?_cons_zero, List.getElem?_cons_succ, beq_self_eq_true, if_true, true_or, or_true, or_false, false_or, am_kl, true_and, and_true, and_false, false_and, if_false, not_true_eq_false, not_false_eq_true, as_b0, as_b1, as_em, as_ne, List.length_cons, List.length_nil, Nat.reduceAdd, Int32.reduceLT, Int32.reduceLE, Int32.reduceAdd, Int32.reduceSub, Int32.neg_neg, Int32.reduceMul, Int32.reduceToNatClampNeg, Nat.reduceLeDiff, Nat.reduceLT, List.set_cons_zero, List.set_cons_succ, List.length_set, en_at, en_uu, en_gd, hr, h35, en_clsQ hQ, en_gfQ0 hQ, en_gfQ1 hQ, c148, as_add1, Nat.add_assoc, Int32.reduceToNatClampNeg, md_tpL, md_tpL_len, en_gdL, n0, p0, l0, g0, y0, u0, n1, p1, l1, g1, y1, u1, n2, p2, l2, g2, y2, u2, n3, p3, l3, g3, y3, u3, n4, p4, l4, g4, y4, u4, n5, p5, l5, g5, y5, u5, n6, p6, l6, g6, y6, u6, n7, p7, l7, g7, y7, u7, w1]

set_option maxRecDepth 100000 in
theorem cl_156_1 {X : List Int32} {I : Nat → Nat → Int32} {A : Nat → List Int32} {L : Nat → List Int64} {V : Nat → List Value} {W : Value} {Q : am_Mem} {q r : Nat} {m a v : Int32} (hQ : Q[q]? = some (.inr (.inr (.inr (1, [.int m, .int a]))))) (h35 : (L 35).length = 160) (hr : I 34 2 = Int32.ofNat r) (hr2 : r + 10 ≤ 150) :
    am_mt X 156 [.ref (q + 57), .int v, .ref 34] (en_E I A L V W Q) = some (some (.int (-(((((v - a) + m - m) * 2) * 2) ^^^ (((v - a) + m - m) * 2)))), en_E (en_u I 34 (en_u (I 34) 2 (Int32.ofNat (r + 10)))) A (en_u L 35 (md_tpL (L 35) r [50, 12, 71, 11, 70, 51, 10, 70, 51, 10])) V W Q) := by
  rw [as_mt (n := 3) (by decide +kernel), show am_ent 3 [.ref (q + 57), .int v, .ref 34] = [some (.ref (q + 57)), some (.int v), some (.ref 34)] from rfl]
  have n0 := as_nat (show r + 0 < 2147483648 by omega)
  have p0 := as_pos (show r + 0 < 2147483648 by omega)
  have l0 : r + 0 < 160 := by omega
  have g0 : ¬ 160 ≤ r + 0 := by omega
  have y0 := as_lt (show r + 0 < 2147483648 by omega) (show 160 < 2147483648 by decide)
  have u0 : r + 0 ≤ 150 := by omega
  have n1 := as_nat (show r + 1 < 2147483648 by omega)
  have p1 := as_pos (show r + 1 < 2147483648 by omega)
  have l1 : r + 1 < 160 := by omega
  have g1 : ¬ 160 ≤ r + 1 := by omega
  have y1 := as_lt (show r + 1 < 2147483648 by omega) (show 160 < 2147483648 by decide)
  have u1 : r + 1 ≤ 150 := by omega
  have n2 := as_nat (show r + 2 < 2147483648 by omega)
  have p2 := as_pos (show r + 2 < 2147483648 by omega)
  have l2 : r + 2 < 160 := by omega
  have g2 : ¬ 160 ≤ r + 2 := by omega
  have y2 := as_lt (show r + 2 < 2147483648 by omega) (show 160 < 2147483648 by decide)
  have u2 : r + 2 ≤ 150 := by omega
  have n3 := as_nat (show r + 3 < 2147483648 by omega)
  have p3 := as_pos (show r + 3 < 2147483648 by omega)
  have l3 : r + 3 < 160 := by omega
  have g3 : ¬ 160 ≤ r + 3 := by omega
  have y3 := as_lt (show r + 3 < 2147483648 by omega) (show 160 < 2147483648 by decide)
  have u3 : r + 3 ≤ 150 := by omega
  have n4 := as_nat (show r + 4 < 2147483648 by omega)
  have p4 := as_pos (show r + 4 < 2147483648 by omega)
  have l4 : r + 4 < 160 := by omega
  have g4 : ¬ 160 ≤ r + 4 := by omega
  have y4 := as_lt (show r + 4 < 2147483648 by omega) (show 160 < 2147483648 by decide)
  have u4 : r + 4 ≤ 150 := by omega
  have n5 := as_nat (show r + 5 < 2147483648 by omega)
  have p5 := as_pos (show r + 5 < 2147483648 by omega)
  have l5 : r + 5 < 160 := by omega
  have g5 : ¬ 160 ≤ r + 5 := by omega
  have y5 := as_lt (show r + 5 < 2147483648 by omega) (show 160 < 2147483648 by decide)
  have u5 : r + 5 ≤ 150 := by omega
  have n6 := as_nat (show r + 6 < 2147483648 by omega)
  have p6 := as_pos (show r + 6 < 2147483648 by omega)
  have l6 : r + 6 < 160 := by omega
  have g6 : ¬ 160 ≤ r + 6 := by omega
  have y6 := as_lt (show r + 6 < 2147483648 by omega) (show 160 < 2147483648 by decide)
  have u6 : r + 6 ≤ 150 := by omega
  have n7 := as_nat (show r + 7 < 2147483648 by omega)
  have p7 := as_pos (show r + 7 < 2147483648 by omega)
  have l7 : r + 7 < 160 := by omega
  have g7 : ¬ 160 ≤ r + 7 := by omega
  have y7 := as_lt (show r + 7 < 2147483648 by omega) (show 160 < 2147483648 by decide)
  have u7 : r + 7 ≤ 150 := by omega
  have n8 := as_nat (show r + 8 < 2147483648 by omega)
  have p8 := as_pos (show r + 8 < 2147483648 by omega)
  have l8 : r + 8 < 160 := by omega
  have g8 : ¬ 160 ≤ r + 8 := by omega
  have y8 := as_lt (show r + 8 < 2147483648 by omega) (show 160 < 2147483648 by decide)
  have u8 : r + 8 ≤ 150 := by omega
  have n9 := as_nat (show r + 9 < 2147483648 by omega)
  have p9 := as_pos (show r + 9 < 2147483648 by omega)
  have l9 : r + 9 < 160 := by omega
  have g9 : ¬ 160 ≤ r + 9 := by omega
  have y9 := as_lt (show r + 9 < 2147483648 by omega) (show 160 < 2147483648 by decide)
  have u9 : r + 9 ≤ 150 := by omega
  have n10 := as_nat (show r + 10 < 2147483648 by omega)
  have p10 := as_pos (show r + 10 < 2147483648 by omega)
  have l10 : r + 10 < 160 := by omega
  have g10 : ¬ 160 ≤ r + 10 := by omega
  have y10 := as_lt (show r + 10 < 2147483648 by omega) (show 160 < 2147483648 by decide)
  have u10 : r + 10 ≤ 150 := by omega
  simp only [Nat.add_zero] at n0 p0 l0 g0 y0 u0
  have c148 := fun (I : Nat → Nat → Int32) (L : Nat → List Int64) (x : Int32) (h1 : (L 35).length = 160) (h2 : I 34 2 = Int32.ofNat r) (h3 : r < 160) => ce_148 (X := X) (I := I) (A := A) (L := L) (V := V) (W := W) (Q := Q) (x := x) h1 h2 h3
  have w1 := fun (I : Nat → Nat → Int32) (L : Nat → List Int64) (v : Int32) (h1 : (L 35).length = 160) (h2 : I 34 2 = Int32.ofNat (r + 1)) (h3 : r + 1 + 9 ≤ 150) => cl_158_1 (X := X) (I := I) (A := A) (L := L) (V := V) (W := W) (Q := Q) (v := v) (r := r + 1) hQ h1 h2 h3
  simp only [q156_0, q156_0n, q156_1, q156_3, q156_6, q156_7, q156_8, q156_8n, q156_9, q156_12, q156_13, en_c34, en_f34_0, en_f34_1, en_p34_1, en_f34_2, en_p34_2, en_a35, en_l35, en_s35, as_10, as_01, Nat.reduceBEq, Nat.reduceEqDiff, ↓reduceIte, Option.bind_some, Option.getD_some, Option.isSome_some, Option.isSome_none, Bool.false_eq_true, Option.toList, List.nil_append, List.cons_append, List.lookup, Option.isSome, List.getElem?_cons_zero, List.getElem?_cons_succ, beq_self_eq_true, if_true, true_or, or_true, or_false, false_or, am_kl, true_and, and_true, and_false, false_and, if_false, not_true_eq_false, not_false_eq_true, as_b0, as_b1, as_em, as_ne, List.length_cons, List.length_nil, Nat.reduceAdd, Int32.reduceLT, Int32.reduceLE, Int32.reduceAdd, Int32.reduceSub, Int32.neg_neg, Int32.reduceMul, Int32.reduceToNatClampNeg, Nat.reduceLeDiff, Nat.reduceLT, List.set_cons_zero, List.set_cons_succ, List.length_set, en_at, en_uu, en_gd, hr, h35, en_clsQ hQ, en_gfQ0 hQ, en_gfQ1 hQ, c148, as_add1, Nat.add_assoc, Int32.reduceToNatClampNeg, md_tpL, md_tpL_len, en_gdL, n0, p0, l0, g0, y0, u0, n1, p1, l1, g1, y1, u1, n2, p2, l2, g2, y2, u2, n3, p3, l3, g3, y3, u3, n4, p4, l4, g4, y4, u4, n5, p5, l5, g5, y5, u5, n6, p6, l6, g6, y6, u6, n7, p7, l7, g7, y7, u7, n8, p8, l8, g8, y8, u8, n9, p9, l9, g9, y9, u9, n10, p10, l10, g10, y10, u10, w1]

set_option maxRecDepth 100000 in
theorem cl_157_4 {X : List Int32} {I : Nat → Nat → Int32} {A : Nat → List Int32} {L : Nat → List Int64} {V : Nat → List Value} {W : Value} {Q : am_Mem} {q r : Nat} {m a v : Int32} (hQ : Q[q]? = some (.inr (.inr (.inr (4, [.int m, .int a]))))) (h35 : (L 35).length = 160) (hr : I 34 2 = Int32.ofNat r) (hr2 : r + 7 ≤ 150) :
    am_mt X 157 [.ref (q + 57), .int v, .ref 34] (en_E I A L V W Q) = some (some (.int ((((v + m + a) * 2) ^^^ ((v - a) + m + a)) ^^^ 5)), en_E (en_u I 34 (en_u (I 34) 2 (Int32.ofNat (r + 7)))) A (en_u L 35 (md_tpL (L 35) r [60, 12, 11, 20, 10, 20, 10])) V W Q) := by
  rw [as_mt (n := 3) (by decide +kernel), show am_ent 3 [.ref (q + 57), .int v, .ref 34] = [some (.ref (q + 57)), some (.int v), some (.ref 34)] from rfl]
  have n0 := as_nat (show r + 0 < 2147483648 by omega)
  have p0 := as_pos (show r + 0 < 2147483648 by omega)
  have l0 : r + 0 < 160 := by omega
  have g0 : ¬ 160 ≤ r + 0 := by omega
  have y0 := as_lt (show r + 0 < 2147483648 by omega) (show 160 < 2147483648 by decide)
  have u0 : r + 0 ≤ 150 := by omega
  have n1 := as_nat (show r + 1 < 2147483648 by omega)
  have p1 := as_pos (show r + 1 < 2147483648 by omega)
  have l1 : r + 1 < 160 := by omega
  have g1 : ¬ 160 ≤ r + 1 := by omega
  have y1 := as_lt (show r + 1 < 2147483648 by omega) (show 160 < 2147483648 by decide)
  have u1 : r + 1 ≤ 150 := by omega
  have n2 := as_nat (show r + 2 < 2147483648 by omega)
  have p2 := as_pos (show r + 2 < 2147483648 by omega)
  have l2 : r + 2 < 160 := by omega
  have g2 : ¬ 160 ≤ r + 2 := by omega
  have y2 := as_lt (show r + 2 < 2147483648 by omega) (show 160 < 2147483648 by decide)
  have u2 : r + 2 ≤ 150 := by omega
  have n3 := as_nat (show r + 3 < 2147483648 by omega)
  have p3 := as_pos (show r + 3 < 2147483648 by omega)
  have l3 : r + 3 < 160 := by omega
  have g3 : ¬ 160 ≤ r + 3 := by omega
  have y3 := as_lt (show r + 3 < 2147483648 by omega) (show 160 < 2147483648 by decide)
  have u3 : r + 3 ≤ 150 := by omega
  have n4 := as_nat (show r + 4 < 2147483648 by omega)
  have p4 := as_pos (show r + 4 < 2147483648 by omega)
  have l4 : r + 4 < 160 := by omega
  have g4 : ¬ 160 ≤ r + 4 := by omega
  have y4 := as_lt (show r + 4 < 2147483648 by omega) (show 160 < 2147483648 by decide)
  have u4 : r + 4 ≤ 150 := by omega
  have n5 := as_nat (show r + 5 < 2147483648 by omega)
  have p5 := as_pos (show r + 5 < 2147483648 by omega)
  have l5 : r + 5 < 160 := by omega
  have g5 : ¬ 160 ≤ r + 5 := by omega
  have y5 := as_lt (show r + 5 < 2147483648 by omega) (show 160 < 2147483648 by decide)
  have u5 : r + 5 ≤ 150 := by omega
  have n6 := as_nat (show r + 6 < 2147483648 by omega)
  have p6 := as_pos (show r + 6 < 2147483648 by omega)
  have l6 : r + 6 < 160 := by omega
  have g6 : ¬ 160 ≤ r + 6 := by omega
  have y6 := as_lt (show r + 6 < 2147483648 by omega) (show 160 < 2147483648 by decide)
  have u6 : r + 6 ≤ 150 := by omega
  have n7 := as_nat (show r + 7 < 2147483648 by omega)
  have p7 := as_pos (show r + 7 < 2147483648 by omega)
  have l7 : r + 7 < 160 := by omega
  have g7 : ¬ 160 ≤ r + 7 := by omega
  have y7 := as_lt (show r + 7 < 2147483648 by omega) (show 160 < 2147483648 by decide)
  have u7 : r + 7 ≤ 150 := by omega
  simp only [Nat.add_zero] at n0 p0 l0 g0 y0 u0
  have c148 := fun (I : Nat → Nat → Int32) (L : Nat → List Int64) (x : Int32) (h1 : (L 35).length = 160) (h2 : I 34 2 = Int32.ofNat r) (h3 : r < 160) => ce_148 (X := X) (I := I) (A := A) (L := L) (V := V) (W := W) (Q := Q) (x := x) h1 h2 h3
  have w1 := fun (I : Nat → Nat → Int32) (L : Nat → List Int64) (v : Int32) (h1 : (L 35).length = 160) (h2 : I 34 2 = Int32.ofNat (r + 1)) (h3 : r + 1 + 6 ≤ 150) => cl_158_4 (X := X) (I := I) (A := A) (L := L) (V := V) (W := W) (Q := Q) (v := v) (r := r + 1) hQ h1 h2 h3
  simp only [q157_0, q157_0n, q157_1, q157_3, q157_6, q157_7, q157_8, q157_8n, q157_9, q157_12, q157_13, q157_14, en_c34, en_f34_0, en_f34_1, en_p34_1, en_f34_2, en_p34_2, en_a35, en_l35, en_s35, as_10, as_01, Nat.reduceBEq, Nat.reduceEqDiff, ↓reduceIte, Option.bind_some, Option.getD_some, Option.isSome_some, Option.isSome_none, Bool.false_eq_true, Option.toList, List.nil_append, List.cons_append, List.lookup, Option.isSome, List.getElem?_cons_zero, List.getElem?_cons_succ, beq_self_eq_true, if_true, true_or, or_true, or_false, false_or, am_kl, true_and, and_true, and_false, false_and, if_false, not_true_eq_false, not_false_eq_true, as_b0, as_b1, as_em, as_ne, List.length_cons, List.length_nil, Nat.reduceAdd, Int32.reduceLT, Int32.reduceLE, Int32.reduceAdd, Int32.reduceSub, Int32.neg_neg, Int32.reduceMul, Int32.reduceToNatClampNeg, Nat.reduceLeDiff, Nat.reduceLT, List.set_cons_zero, List.set_cons_succ, List.length_set, en_at, en_uu, en_gd, hr, h35, en_clsQ hQ, en_gfQ0 hQ, en_gfQ1 hQ, c148, as_add1, Nat.add_assoc, Int32.reduceToNatClampNeg, md_tpL, md_tpL_len, en_gdL, n0, p0, l0, g0, y0, u0, n1, p1, l1, g1, y1, u1, n2, p2, l2, g2, y2, u2, n3, p3, l3, g3, y3, u3, n4, p4, l4, g4, y4, u4, n5, p5, l5, g5, y5, u5, n6, p6, l6, g6, y6, u6, n7, p7, l7, g7, y7, u7, w1]

theorem md_stTR {X : List Int32} {mc mm : Nat} {as : List Value} {I : Nat → Nat → Int32} {A : Nat → List Int32} {L : Nat → List Int64} {V : Nat → List Value} {W : Value} {Q : am_Mem} {v : Value} {n : Nat} {l : List Int64} {a : List Int32} (hR : md_RX I A L V Q) (h1 : am_mt X mc (.ref 0 :: as) (en_E I A L V W Q) = some (some v, en_E (en_u I 34 (en_u (en_u (I 34) 1 0) 2 (Int32.ofNat n))) A (en_u L 35 l) V W Q)) (h2 : am_mt X mm (.ref 36 :: as) (en_E (en_u I 34 (en_u (en_u (I 34) 1 0) 2 (Int32.ofNat n))) A (en_u L 35 l) V W Q) = some (some v, en_E (en_u (en_u I 34 (en_u (en_u (I 34) 1 0) 2 (Int32.ofNat n))) 36 (en_u (I 36) 40 (Int32.ofNat n))) (en_u A 56 a) (en_u L 35 l) V W Q)) (hn : n ≤ 20) (hl : l.length = 160) (ha : a.length = 20) (he : ∀ i, i < n → (l.getD i 0).toInt32 = a.getD i 0) : md_Stp X mc mm as I A L V W Q := by
  refine ⟨_, _, _, _, _, _, _, _, _, _, _, _, _, h1, h2, ?_, by omega⟩
  obtain ⟨pl, pd, pl2, pd2, r1, r2, r3, r4, r5, r6, r7, r8⟩ := hR
  refine ⟨pl, pd, pl2, pd2, ?_⟩
  unfold md_R
  simp only [en_at, ↓reduceIte, Nat.reduceEqDiff, md_SHS_I, md_SHS_A, md_SHS_L, md_TM_A, Nat.reduceLT, or_true, true_or, or_false, false_or, not_false_eq_true, not_true_eq_false]
  obtain ⟨q1, q2, q3⟩ := r1
  refine ⟨⟨?_, ?_, q3⟩, r2, r3, r4, r5, ⟨hl, ha, n, hn, rfl, rfl, he⟩, r7, r8⟩
  · obtain ⟨E0, E1, E2, E3, E4, E5, E6, E7, E8, E9, E10, E11, E12⟩ := q1
    unfold md_EQ; simp only [en_at, ↓reduceIte, Nat.reduceEqDiff, E0, E1, E2, E3, E4, E5, E6, E7, E8, E9, E10, E11, E12, and_self]
  · unfold md_rg at q2 ⊢; simp only [en_at, ↓reduceIte, Nat.reduceEqDiff]; exact q2
theorem as_z00 : Int32.ofNat 0 = 0 := rfl
set_option maxRecDepth 100000 in
theorem sp_act {X : List Int32} {I : Nat → Nat → Int32} {A : Nat → List Int32} {L : Nat → List Int64} {V : Nat → List Value} {W : Value} {Q : am_Mem} {x act y : Int32} (hR : md_RX I A L V Q) : md_Stp X 146 244 [.int x, .int act, .int y] I A L V W Q := by
  have hR0 := hR
  obtain ⟨pl, pd, pl2, pd2, hR1⟩ := hR0
  have hR2 := hR1
  obtain ⟨r1, r2, r3, r4, r5, r6, r7, r8⟩ := hR1
  obtain ⟨hEQ, hrg, h40, hfl, hpd, hV, hc, hq⟩ := r1
  have hEQ0 := hEQ
  obtain ⟨E0, E1, E2, E3, E4, E5, E6, E7, E8, E9, E10, E11, E12⟩ := hEQ
  have hrg0 := hrg
  obtain ⟨⟨B, hB, hb⟩, ⟨wp, hw6, hw⟩, ⟨fo, hf9, hfo⟩, ⟨br, hbr2, hbr⟩, ⟨g, u, t, hg1, hg, hug, htg, hgl, hus, hth⟩, hsv⟩ := hrg
  have hl : pl.length ≤ 12 := by rw [hq.1]; exact hpd.2.2.1
  have hf : (A 22).length = 6 := hfl.1
  have hfl4 : md_FL (A 40) pd := by rw [h40]; exact hfl
  have h4l : (A 40).length = 6 := hfl4.1
  have h19 := r4.1
  have h37 := r4.2.1
  obtain ⟨t1, t2, n0, t3, t4, t5, -⟩ := r6
  have c12 := ce_12 (X := X) (I := I) (A := A) (L := L) (V := V) (W := W) (Q := Q) t1 t4 (by omega)
  have z30 := fun (I : Nat → Nat → Int32) (L : Nat → List Int64) (h : I 20 2 = Int32.ofNat pl.length) => ce_30_20 (X := X) (I := I) (A := A) (L := L) (V := V) (W := W) (Q := Q) (i := x) hV hl h hq hf
  have e36 : I 36 0 = I 20 2 := E0
  have z56 : en_u A 56 (A 56) = A := en_id
  have hrl : (List.replicate 160 (0 : Int64)).length = 160 := List.length_replicate
  rcases md_at_q (md_ps_E (I := I) (A := A) (L := L) (V := V) (W := W) hq) x with ⟨h1, h2⟩ | ⟨r, c, a, h1, h2, hpc, hM⟩
  · have hno : ¬ (¬ x < 0 ∧ x < I 20 2) := by
      rintro ⟨x0, x1⟩
      obtain ⟨c, a, hqq, -⟩ := md_q_of (pd := pd) x0 (by rw [← hq.1]; exact md_ntl x0 (by rw [← hc]; exact x1) (by omega))
      rw [h2] at hqq; cases hqq
    rw [hc] at hno
    exact md_stTR (v := .int 0) (n := 0) (l := List.replicate 160 0) (a := A 56) hR
      (by
          rw [as_mt (n := 5) (by decide +kernel), show am_ent 5 [.ref 0, .int x, .int act, .int y] = [some (.ref 0), some (.int x), some (.int act), some (.int y), none] from rfl]
          simp only [q146_0, q146_1, q146_4, q146_5, q146_6, q146_9, q146_10, q146_13, q146_14, q146_17, q146_17n, q146_19, q146_19n, q146_21n, q146_21, q146_24, q146_25, q146_26, q146_27, q146_52, q146_52n, q146_54, q146_55, q146_56, q146_59, q146_59n, q146_62, q146_63, q146_63n, q146_65, q146_66, q146_67, q146_70, q146_70n, q146_73, q146_74, q146_74n, q146_76, q146_77, q146_78, q146_81, q146_81n, q146_84, q146_85, q146_86, en_c0, en_f0_0, en_f0_1, en_f0_2, en_f0_3, en_f0_4, en_f0_5, en_f0_6, en_f0_7, en_f0_8, en_f0_9, en_p0_9, en_f0_10, en_p0_10, en_a2, en_l2, en_s2, en_a19, en_l19, en_s19, en_c20, en_f20_0, en_f20_1, en_f20_2, en_p20_2, en_f20_3, en_p20_3, en_f20_4, en_p20_4, en_f20_5, en_p20_5, en_f20_6, en_p20_6, en_f20_7, en_p20_7, en_f20_8, en_p20_8, en_f20_9, en_p20_9, en_f20_10, en_p20_10, en_f20_11, en_p20_11, en_f20_12, en_p20_12, en_f20_13, en_p20_13, en_f20_14, en_p20_14, en_a22, en_l22, en_s22, en_c23, en_f23_0, en_f23_1, en_f23_2, en_p23_2, en_f23_3, en_p23_3, en_f23_4, en_p23_4, en_f23_5, en_p23_5, en_f23_6, en_p23_6, en_f23_7, en_p23_7, en_f23_8, en_p23_8, en_f23_9, en_p23_9, en_f23_10, en_p23_10, en_f23_11, en_p23_11, en_f23_12, en_p23_12, en_f23_13, en_p23_13, en_f23_14, en_p23_14, en_c26, en_f26_0, en_f26_1, en_f26_2, en_p26_2, en_f26_3, en_p26_3, en_f26_4, en_p26_4, en_f26_5, en_p26_5, en_f26_6, en_p26_6, en_f26_7, en_p26_7, en_f26_8, en_p26_8, en_f26_9, en_p26_9, en_f26_10, en_p26_10, en_f26_11, en_p26_11, en_f26_12, en_p26_12, en_f26_13, en_p26_13, en_f26_14, en_p26_14, en_c34, en_f34_0, en_f34_1, en_p34_1, en_f34_2, en_p34_2, en_a35, en_l35, en_s35, as_10, as_01, Nat.reduceBEq, Nat.reduceEqDiff, ↓reduceIte, Option.bind_some, Option.getD_some, Option.isSome_some, Option.isSome_none, Bool.false_eq_true, Option.toList, List.nil_append, List.cons_append, List.lookup, Option.isSome, List.getElem?_cons_zero, List.getElem?_cons_succ, beq_self_eq_true, if_true, true_or, or_true, or_false, false_or, am_kl, true_and, and_true, and_false, false_and, if_false, not_true_eq_false, not_false_eq_true, as_b0, as_b1, as_em, as_ne, List.length_cons, List.length_nil, Nat.reduceAdd, Int32.reduceLT, Int32.reduceLE, Int32.reduceAdd, Int32.reduceSub, Int32.neg_neg, Int32.reduceMul, Int32.reduceToNatClampNeg, Nat.reduceLeDiff, Nat.reduceLT, List.set_cons_zero, List.set_cons_succ, List.length_set, en_at, en_uu, en_gd, c12, z30, hc, h1]
          rfl)
      (by
          rw [as_mt (n := 4) (by decide +kernel), show am_ent 4 [.ref 36, .int x, .int act, .int y] = [some (.ref 36), some (.int x), some (.int act), some (.int y)] from rfl]
          simp only [q244_0, q244_1, q244_2, q244_5, q244_6, q244_7, q244_10, q244_13, q244_14, q244_17, q244_18, q244_19, q244_22, q244_23, q244_24, q244_25, q244_28, q244_29, q244_30, q244_31, q244_34, q244_37, q244_38, q244_39, q244_42, q244_43, q244_44, q244_45, q244_48, q244_51, q244_52, q244_53, q244_54, q244_57, en_c36, en_f36_0, en_p36_0, en_f36_1, en_p36_1, en_f36_2, en_p36_2, en_f36_3, en_p36_3, en_f36_4, en_p36_4, en_f36_5, en_p36_5, en_f36_6, en_p36_6, en_f36_7, en_p36_7, en_f36_8, en_p36_8, en_f36_9, en_p36_9, en_f36_10, en_p36_10, en_f36_11, en_p36_11, en_f36_12, en_p36_12, en_f36_13, en_p36_13, en_f36_14, en_f36_15, en_f36_16, en_f36_17, en_f36_18, en_f36_19, en_f36_20, en_f36_21, en_f36_22, en_f36_23, en_f36_24, en_f36_25, en_f36_26, en_f36_27, en_f36_28, en_f36_29, en_p36_29, en_f36_30, en_p36_30, en_f36_31, en_p36_31, en_f36_32, en_p36_32, en_f36_33, en_p36_33, en_f36_34, en_f36_35, en_f36_36, en_f36_37, en_f36_38, en_p36_38, en_f36_39, en_f36_40, en_p36_40, en_f36_41, en_p36_41, en_a37, en_l37, en_s37, en_a38, en_l38, en_s38, en_a39, en_l39, en_s39, en_a40, en_l40, en_s40, en_a41, en_l41, en_s41, en_a42, en_l42, en_s42, en_a43, en_l43, en_s43, en_a44, en_l44, en_s44, en_a45, en_l45, en_s45, en_a46, en_l46, en_s46, en_a47, en_l47, en_a48, en_l48, en_a49, en_l49, en_a50, en_l50, en_a51, en_l51, en_s51, en_a52, en_l52, en_s52, en_a53, en_l53, en_s53, en_a54, en_l54, en_s54, en_a55, en_l55, en_s55, en_a56, en_l56, en_s56, as_10, as_01, Nat.reduceBEq, Nat.reduceEqDiff, ↓reduceIte, Option.bind_some, Option.getD_some, Option.isSome_some, Option.isSome_none, Bool.false_eq_true, Option.toList, List.nil_append, List.cons_append, List.lookup, Option.isSome, List.getElem?_cons_zero, List.getElem?_cons_succ, beq_self_eq_true, if_true, true_or, or_true, or_false, false_or, am_kl, true_and, and_true, and_false, false_and, if_false, not_true_eq_false, not_false_eq_true, as_b0, as_b1, as_em, as_ne, List.length_cons, List.length_nil, Nat.reduceAdd, Int32.reduceLT, Int32.reduceLE, Int32.reduceAdd, Int32.reduceSub, Int32.neg_neg, Int32.reduceMul, Int32.reduceToNatClampNeg, Nat.reduceLeDiff, Nat.reduceLT, List.set_cons_zero, List.set_cons_succ, List.length_set, en_at, en_uu, en_gd, ct_172, e36, z56, hc, hno]
          rfl)
      (by decide) hrl t2 (fun i hi => absurd hi (by omega))
  · obtain ⟨hmk, x0, -⟩ := md_mk_q hpd h2
    have x1 : x < Int32.ofNat pl.length := by
      obtain ⟨k, hk, rfl⟩ := as_ofN x0
      have h3 := h2
      unfold md_q at h3
      rw [if_neg x0, as_nat hk] at h3
      refine (as_lt hk (by omega)).mpr ?_
      rw [hq.1]
      exact (List.getElem?_eq_some_iff.mp h3).1
    have hxk : ∃ k, k < 12 ∧ x = Int32.ofNat k ∧ pl[k]? = some r := by
      obtain ⟨k, hk, rfl⟩ := as_ofN x0
      unfold md_at at h1
      rw [if_neg x0, as_nat hk] at h1
      cases hp : pl[k]? with
      | none => rw [hp] at h1; cases h1
      | some r2 =>
        rw [hp] at h1
        cases h1
        exact ⟨k, by have := (List.getElem?_eq_some_iff.mp hp).1; omega, rfl, hp⟩
    obtain ⟨k, hk12, hxk, hpk⟩ := hxk
    obtain ⟨-, q, hrq, hQ0⟩ := hq.2 k r c a hpk (by
      have h3 := h2
      unfold md_q at h3
      rw [if_neg x0, hxk, as_nat (by omega)] at h3
      exact h3)
    subst hrq
    have hQ : Q[q]? = some (.inr (.inr (.inr (c, [.int x, .int a])))) := by rw [hxk]; exact hQ0
    by_cases a0 : act = 0
    · subst a0
      rcases hpc with rfl | rfl | rfl | rfl | rfl | rfl | rfl
      · have wc := fun (I : Nat → Nat → Int32) (L : Nat → List Int64) (h1 : (L 35).length = 160) (h2 : I 34 2 = Int32.ofNat 0) => cl_147_1 (X := X) (I := I) (A := A) (L := L) (V := V) (W := W) (Q := Q) (v := y) (r := 0) hQ h1 h2 (by decide)
        have wm := fun (I : Nat → Nat → Int32) (L : Nat → List Int64) (h2 : I 36 40 = Int32.ofNat 0) => ct_245 (X := X) (I := I) (A := A) (L := L) (V := V) (W := W) (Q := Q) (v := y) (r := 0) hpd ‹md_q pd x = some (1, a)› t2 h2 (by decide)
        simp only [md_lb, md_lv, md_sv, md_bv, md_lb, md_sb, md_bb, List.length_cons, List.length_nil, List.cons_append, List.nil_append, Nat.zero_add, Nat.reduceAdd] at wc wm
        exact md_stTR (v := .int ((y + x - x) * 2)) (n := 3) (l := md_tpL (List.replicate 160 0) 0 [70, 51, 10]) (a := md_tp (A 56) 0 [70, 51, 10]) hR
          (by
            rw [as_mt (n := 5) (by decide +kernel), show am_ent 5 [.ref 0, .int x, .int 0, .int y] = [some (.ref 0), some (.int x), some (.int 0), some (.int y), none] from rfl]
            simp only [q146_0, q146_1, q146_4, q146_5, q146_6, q146_9, q146_10, q146_13, q146_14, q146_17, q146_17n, q146_19, q146_19n, q146_21n, q146_21, q146_24, q146_25, q146_26, q146_27, q146_52, q146_52n, q146_54, q146_55, q146_56, q146_59, q146_59n, q146_62, q146_63, q146_63n, q146_65, q146_66, q146_67, q146_70, q146_70n, q146_73, q146_74, q146_74n, q146_76, q146_77, q146_78, q146_81, q146_81n, q146_84, q146_85, q146_86, en_c0, en_f0_0, en_f0_1, en_f0_2, en_f0_3, en_f0_4, en_f0_5, en_f0_6, en_f0_7, en_f0_8, en_f0_9, en_p0_9, en_f0_10, en_p0_10, en_a2, en_l2, en_s2, en_a19, en_l19, en_s19, en_c20, en_f20_0, en_f20_1, en_f20_2, en_p20_2, en_f20_3, en_p20_3, en_f20_4, en_p20_4, en_f20_5, en_p20_5, en_f20_6, en_p20_6, en_f20_7, en_p20_7, en_f20_8, en_p20_8, en_f20_9, en_p20_9, en_f20_10, en_p20_10, en_f20_11, en_p20_11, en_f20_12, en_p20_12, en_f20_13, en_p20_13, en_f20_14, en_p20_14, en_a22, en_l22, en_s22, en_c23, en_f23_0, en_f23_1, en_f23_2, en_p23_2, en_f23_3, en_p23_3, en_f23_4, en_p23_4, en_f23_5, en_p23_5, en_f23_6, en_p23_6, en_f23_7, en_p23_7, en_f23_8, en_p23_8, en_f23_9, en_p23_9, en_f23_10, en_p23_10, en_f23_11, en_p23_11, en_f23_12, en_p23_12, en_f23_13, en_p23_13, en_f23_14, en_p23_14, en_c26, en_f26_0, en_f26_1, en_f26_2, en_p26_2, en_f26_3, en_p26_3, en_f26_4, en_p26_4, en_f26_5, en_p26_5, en_f26_6, en_p26_6, en_f26_7, en_p26_7, en_f26_8, en_p26_8, en_f26_9, en_p26_9, en_f26_10, en_p26_10, en_f26_11, en_p26_11, en_f26_12, en_p26_12, en_f26_13, en_p26_13, en_f26_14, en_p26_14, en_c34, en_f34_0, en_f34_1, en_p34_1, en_f34_2, en_p34_2, en_a35, en_l35, en_s35, as_10, as_01, Nat.reduceBEq, Nat.reduceEqDiff, ↓reduceIte, Option.bind_some, Option.getD_some, Option.isSome_some, Option.isSome_none, Bool.false_eq_true, Option.toList, List.nil_append, List.cons_append, List.lookup, Option.isSome, List.getElem?_cons_zero, List.getElem?_cons_succ, beq_self_eq_true, if_true, true_or, or_true, or_false, false_or, am_kl, true_and, and_true, and_false, false_and, if_false, not_true_eq_false, not_false_eq_true, as_b0, as_b1, as_em, as_ne, List.length_cons, List.length_nil, Nat.reduceAdd, Int32.reduceLT, Int32.reduceLE, Int32.reduceAdd, Int32.reduceSub, Int32.neg_neg, Int32.reduceMul, Int32.reduceToNatClampNeg, Nat.reduceLeDiff, Nat.reduceLT, List.set_cons_zero, List.set_cons_succ, List.length_set, en_at, en_uu, en_gd, c12, z30, hc, h1, en_clsQ hQ, wc, hrl, as_z00, as_q2_0, as_q2_1])
          (by
            rw [as_mt (n := 4) (by decide +kernel), show am_ent 4 [.ref 36, .int x, .int 0, .int y] = [some (.ref 36), some (.int x), some (.int 0), some (.int y)] from rfl]
            simp only [q244_0, q244_1, q244_2, q244_5, q244_6, q244_7, q244_10, q244_13, q244_14, q244_17, q244_18, q244_19, q244_22, q244_23, q244_24, q244_25, q244_28, q244_29, q244_30, q244_31, q244_34, q244_37, q244_38, q244_39, q244_42, q244_43, q244_44, q244_45, q244_48, q244_51, q244_52, q244_53, q244_54, q244_57, en_c36, en_f36_0, en_p36_0, en_f36_1, en_p36_1, en_f36_2, en_p36_2, en_f36_3, en_p36_3, en_f36_4, en_p36_4, en_f36_5, en_p36_5, en_f36_6, en_p36_6, en_f36_7, en_p36_7, en_f36_8, en_p36_8, en_f36_9, en_p36_9, en_f36_10, en_p36_10, en_f36_11, en_p36_11, en_f36_12, en_p36_12, en_f36_13, en_p36_13, en_f36_14, en_f36_15, en_f36_16, en_f36_17, en_f36_18, en_f36_19, en_f36_20, en_f36_21, en_f36_22, en_f36_23, en_f36_24, en_f36_25, en_f36_26, en_f36_27, en_f36_28, en_f36_29, en_p36_29, en_f36_30, en_p36_30, en_f36_31, en_p36_31, en_f36_32, en_p36_32, en_f36_33, en_p36_33, en_f36_34, en_f36_35, en_f36_36, en_f36_37, en_f36_38, en_p36_38, en_f36_39, en_f36_40, en_p36_40, en_f36_41, en_p36_41, en_a37, en_l37, en_s37, en_a38, en_l38, en_s38, en_a39, en_l39, en_s39, en_a40, en_l40, en_s40, en_a41, en_l41, en_s41, en_a42, en_l42, en_s42, en_a43, en_l43, en_s43, en_a44, en_l44, en_s44, en_a45, en_l45, en_s45, en_a46, en_l46, en_s46, en_a47, en_l47, en_a48, en_l48, en_a49, en_l49, en_a50, en_l50, en_a51, en_l51, en_s51, en_a52, en_l52, en_s52, en_a53, en_l53, en_s53, en_a54, en_l54, en_s54, en_a55, en_l55, en_s55, en_a56, en_l56, en_s56, as_10, as_01, Nat.reduceBEq, Nat.reduceEqDiff, ↓reduceIte, Option.bind_some, Option.getD_some, Option.isSome_some, Option.isSome_none, Bool.false_eq_true, Option.toList, List.nil_append, List.cons_append, List.lookup, Option.isSome, List.getElem?_cons_zero, List.getElem?_cons_succ, beq_self_eq_true, if_true, true_or, or_true, or_false, false_or, am_kl, true_and, and_true, and_false, false_and, if_false, not_true_eq_false, not_false_eq_true, as_b0, as_b1, as_em, as_ne, List.length_cons, List.length_nil, Nat.reduceAdd, Int32.reduceLT, Int32.reduceLE, Int32.reduceAdd, Int32.reduceSub, Int32.neg_neg, Int32.reduceMul, Int32.reduceToNatClampNeg, Nat.reduceLeDiff, Nat.reduceLT, List.set_cons_zero, List.set_cons_succ, List.length_set, en_at, en_uu, en_gd, ct_172, e36, hc, x0, x1, wm, as_z00, as_q2_0, as_q2_1])
          (by decide) (by rw [md_tpL_len]; exact hrl) (by rw [md_tp_len]; exact t2) (md_tp_both [70, 51, 10] _ _ 0 (by rw [hrl]; decide) (by rw [t2]; decide) (fun i hi => absurd hi (by omega)))
      · have wc := fun (I : Nat → Nat → Int32) (L : Nat → List Int64) (h1 : (L 35).length = 160) (h2 : I 34 2 = Int32.ofNat 0) => cl_151_2 (X := X) (I := I) (A := A) (L := L) (V := V) (W := W) (Q := Q) (v := y) (r := 0) hQ h1 h2 (by decide)
        have wm := fun (I : Nat → Nat → Int32) (L : Nat → List Int64) (h2 : I 36 40 = Int32.ofNat 0) => ct_245 (X := X) (I := I) (A := A) (L := L) (V := V) (W := W) (Q := Q) (v := y) (r := 0) hpd ‹md_q pd x = some (2, a)› t2 h2 (by decide)
        simp only [md_lb, md_lv, md_sv, md_bv, md_lb, md_sb, md_bb, List.length_cons, List.length_nil, List.cons_append, List.nil_append, Nat.zero_add, Nat.reduceAdd] at wc wm
        exact md_stTR (v := .int (y + x)) (n := 1) (l := md_tpL (List.replicate 160 0) 0 [10]) (a := md_tp (A 56) 0 [10]) hR
          (by
            rw [as_mt (n := 5) (by decide +kernel), show am_ent 5 [.ref 0, .int x, .int 0, .int y] = [some (.ref 0), some (.int x), some (.int 0), some (.int y), none] from rfl]
            simp only [q146_0, q146_1, q146_4, q146_5, q146_6, q146_9, q146_10, q146_13, q146_14, q146_17, q146_17n, q146_19, q146_19n, q146_21n, q146_21, q146_24, q146_25, q146_26, q146_27, q146_52, q146_52n, q146_54, q146_55, q146_56, q146_59, q146_59n, q146_62, q146_63, q146_63n, q146_65, q146_66, q146_67, q146_70, q146_70n, q146_73, q146_74, q146_74n, q146_76, q146_77, q146_78, q146_81, q146_81n, q146_84, q146_85, q146_86, en_c0, en_f0_0, en_f0_1, en_f0_2, en_f0_3, en_f0_4, en_f0_5, en_f0_6, en_f0_7, en_f0_8, en_f0_9, en_p0_9, en_f0_10, en_p0_10, en_a2, en_l2, en_s2, en_a19, en_l19, en_s19, en_c20, en_f20_0, en_f20_1, en_f20_2, en_p20_2, en_f20_3, en_p20_3, en_f20_4, en_p20_4, en_f20_5, en_p20_5, en_f20_6, en_p20_6, en_f20_7, en_p20_7, en_f20_8, en_p20_8, en_f20_9, en_p20_9, en_f20_10, en_p20_10, en_f20_11, en_p20_11, en_f20_12, en_p20_12, en_f20_13, en_p20_13, en_f20_14, en_p20_14, en_a22, en_l22, en_s22, en_c23, en_f23_0, en_f23_1, en_f23_2, en_p23_2, en_f23_3, en_p23_3, en_f23_4, en_p23_4, en_f23_5, en_p23_5, en_f23_6, en_p23_6, en_f23_7, en_p23_7, en_f23_8, en_p23_8, en_f23_9, en_p23_9, en_f23_10, en_p23_10, en_f23_11, en_p23_11, en_f23_12, en_p23_12, en_f23_13, en_p23_13, en_f23_14, en_p23_14, en_c26, en_f26_0, en_f26_1, en_f26_2, en_p26_2, en_f26_3, en_p26_3, en_f26_4, en_p26_4, en_f26_5, en_p26_5, en_f26_6, en_p26_6, en_f26_7, en_p26_7, en_f26_8, en_p26_8, en_f26_9, en_p26_9, en_f26_10, en_p26_10, en_f26_11, en_p26_11, en_f26_12, en_p26_12, en_f26_13, en_p26_13, en_f26_14, en_p26_14, en_c34, en_f34_0, en_f34_1, en_p34_1, en_f34_2, en_p34_2, en_a35, en_l35, en_s35, as_10, as_01, Nat.reduceBEq, Nat.reduceEqDiff, ↓reduceIte, Option.bind_some, Option.getD_some, Option.isSome_some, Option.isSome_none, Bool.false_eq_true, Option.toList, List.nil_append, List.cons_append, List.lookup, Option.isSome, List.getElem?_cons_zero, List.getElem?_cons_succ, beq_self_eq_true, if_true, true_or, or_true, or_false, false_or, am_kl, true_and, and_true, and_false, false_and, if_false, not_true_eq_false, not_false_eq_true, as_b0, as_b1, as_em, as_ne, List.length_cons, List.length_nil, Nat.reduceAdd, Int32.reduceLT, Int32.reduceLE, Int32.reduceAdd, Int32.reduceSub, Int32.neg_neg, Int32.reduceMul, Int32.reduceToNatClampNeg, Nat.reduceLeDiff, Nat.reduceLT, List.set_cons_zero, List.set_cons_succ, List.length_set, en_at, en_uu, en_gd, c12, z30, hc, h1, en_clsQ hQ, wc, hrl, as_z00, as_q2_0, as_q2_1])
          (by
            rw [as_mt (n := 4) (by decide +kernel), show am_ent 4 [.ref 36, .int x, .int 0, .int y] = [some (.ref 36), some (.int x), some (.int 0), some (.int y)] from rfl]
            simp only [q244_0, q244_1, q244_2, q244_5, q244_6, q244_7, q244_10, q244_13, q244_14, q244_17, q244_18, q244_19, q244_22, q244_23, q244_24, q244_25, q244_28, q244_29, q244_30, q244_31, q244_34, q244_37, q244_38, q244_39, q244_42, q244_43, q244_44, q244_45, q244_48, q244_51, q244_52, q244_53, q244_54, q244_57, en_c36, en_f36_0, en_p36_0, en_f36_1, en_p36_1, en_f36_2, en_p36_2, en_f36_3, en_p36_3, en_f36_4, en_p36_4, en_f36_5, en_p36_5, en_f36_6, en_p36_6, en_f36_7, en_p36_7, en_f36_8, en_p36_8, en_f36_9, en_p36_9, en_f36_10, en_p36_10, en_f36_11, en_p36_11, en_f36_12, en_p36_12, en_f36_13, en_p36_13, en_f36_14, en_f36_15, en_f36_16, en_f36_17, en_f36_18, en_f36_19, en_f36_20, en_f36_21, en_f36_22, en_f36_23, en_f36_24, en_f36_25, en_f36_26, en_f36_27, en_f36_28, en_f36_29, en_p36_29, en_f36_30, en_p36_30, en_f36_31, en_p36_31, en_f36_32, en_p36_32, en_f36_33, en_p36_33, en_f36_34, en_f36_35, en_f36_36, en_f36_37, en_f36_38, en_p36_38, en_f36_39, en_f36_40, en_p36_40, en_f36_41, en_p36_41, en_a37, en_l37, en_s37, en_a38, en_l38, en_s38, en_a39, en_l39, en_s39, en_a40, en_l40, en_s40, en_a41, en_l41, en_s41, en_a42, en_l42, en_s42, en_a43, en_l43, en_s43, en_a44, en_l44, en_s44, en_a45, en_l45, en_s45, en_a46, en_l46, en_s46, en_a47, en_l47, en_a48, en_l48, en_a49, en_l49, en_a50, en_l50, en_a51, en_l51, en_s51, en_a52, en_l52, en_s52, en_a53, en_l53, en_s53, en_a54, en_l54, en_s54, en_a55, en_l55, en_s55, en_a56, en_l56, en_s56, as_10, as_01, Nat.reduceBEq, Nat.reduceEqDiff, ↓reduceIte, Option.bind_some, Option.getD_some, Option.isSome_some, Option.isSome_none, Bool.false_eq_true, Option.toList, List.nil_append, List.cons_append, List.lookup, Option.isSome, List.getElem?_cons_zero, List.getElem?_cons_succ, beq_self_eq_true, if_true, true_or, or_true, or_false, false_or, am_kl, true_and, and_true, and_false, false_and, if_false, not_true_eq_false, not_false_eq_true, as_b0, as_b1, as_em, as_ne, List.length_cons, List.length_nil, Nat.reduceAdd, Int32.reduceLT, Int32.reduceLE, Int32.reduceAdd, Int32.reduceSub, Int32.neg_neg, Int32.reduceMul, Int32.reduceToNatClampNeg, Nat.reduceLeDiff, Nat.reduceLT, List.set_cons_zero, List.set_cons_succ, List.length_set, en_at, en_uu, en_gd, ct_172, e36, hc, x0, x1, wm, as_z00, as_q2_0, as_q2_1])
          (by decide) (by rw [md_tpL_len]; exact hrl) (by rw [md_tp_len]; exact t2) (md_tp_both [10] _ _ 0 (by rw [hrl]; decide) (by rw [t2]; decide) (fun i hi => absurd hi (by omega)))
      · have wc := fun (I : Nat → Nat → Int32) (L : Nat → List Int64) (h1 : (L 35).length = 160) (h2 : I 34 2 = Int32.ofNat 0) => cl_151_3 (X := X) (I := I) (A := A) (L := L) (V := V) (W := W) (Q := Q) (v := y) (r := 0) hQ h1 h2 (by decide)
        have wm := fun (I : Nat → Nat → Int32) (L : Nat → List Int64) (h2 : I 36 40 = Int32.ofNat 0) => ct_245 (X := X) (I := I) (A := A) (L := L) (V := V) (W := W) (Q := Q) (v := y) (r := 0) hpd ‹md_q pd x = some (3, a)› t2 h2 (by decide)
        simp only [md_lb, md_lv, md_sv, md_bv, md_lb, md_sb, md_bb, List.length_cons, List.length_nil, List.cons_append, List.nil_append, Nat.zero_add, Nat.reduceAdd] at wc wm
        exact md_stTR (v := .int (y + x)) (n := 1) (l := md_tpL (List.replicate 160 0) 0 [10]) (a := md_tp (A 56) 0 [10]) hR
          (by
            rw [as_mt (n := 5) (by decide +kernel), show am_ent 5 [.ref 0, .int x, .int 0, .int y] = [some (.ref 0), some (.int x), some (.int 0), some (.int y), none] from rfl]
            simp only [q146_0, q146_1, q146_4, q146_5, q146_6, q146_9, q146_10, q146_13, q146_14, q146_17, q146_17n, q146_19, q146_19n, q146_21n, q146_21, q146_24, q146_25, q146_26, q146_27, q146_52, q146_52n, q146_54, q146_55, q146_56, q146_59, q146_59n, q146_62, q146_63, q146_63n, q146_65, q146_66, q146_67, q146_70, q146_70n, q146_73, q146_74, q146_74n, q146_76, q146_77, q146_78, q146_81, q146_81n, q146_84, q146_85, q146_86, en_c0, en_f0_0, en_f0_1, en_f0_2, en_f0_3, en_f0_4, en_f0_5, en_f0_6, en_f0_7, en_f0_8, en_f0_9, en_p0_9, en_f0_10, en_p0_10, en_a2, en_l2, en_s2, en_a19, en_l19, en_s19, en_c20, en_f20_0, en_f20_1, en_f20_2, en_p20_2, en_f20_3, en_p20_3, en_f20_4, en_p20_4, en_f20_5, en_p20_5, en_f20_6, en_p20_6, en_f20_7, en_p20_7, en_f20_8, en_p20_8, en_f20_9, en_p20_9, en_f20_10, en_p20_10, en_f20_11, en_p20_11, en_f20_12, en_p20_12, en_f20_13, en_p20_13, en_f20_14, en_p20_14, en_a22, en_l22, en_s22, en_c23, en_f23_0, en_f23_1, en_f23_2, en_p23_2, en_f23_3, en_p23_3, en_f23_4, en_p23_4, en_f23_5, en_p23_5, en_f23_6, en_p23_6, en_f23_7, en_p23_7, en_f23_8, en_p23_8, en_f23_9, en_p23_9, en_f23_10, en_p23_10, en_f23_11, en_p23_11, en_f23_12, en_p23_12, en_f23_13, en_p23_13, en_f23_14, en_p23_14, en_c26, en_f26_0, en_f26_1, en_f26_2, en_p26_2, en_f26_3, en_p26_3, en_f26_4, en_p26_4, en_f26_5, en_p26_5, en_f26_6, en_p26_6, en_f26_7, en_p26_7, en_f26_8, en_p26_8, en_f26_9, en_p26_9, en_f26_10, en_p26_10, en_f26_11, en_p26_11, en_f26_12, en_p26_12, en_f26_13, en_p26_13, en_f26_14, en_p26_14, en_c34, en_f34_0, en_f34_1, en_p34_1, en_f34_2, en_p34_2, en_a35, en_l35, en_s35, as_10, as_01, Nat.reduceBEq, Nat.reduceEqDiff, ↓reduceIte, Option.bind_some, Option.getD_some, Option.isSome_some, Option.isSome_none, Bool.false_eq_true, Option.toList, List.nil_append, List.cons_append, List.lookup, Option.isSome, List.getElem?_cons_zero, List.getElem?_cons_succ, beq_self_eq_true, if_true, true_or, or_true, or_false, false_or, am_kl, true_and, and_true, and_false, false_and, if_false, not_true_eq_false, not_false_eq_true, as_b0, as_b1, as_em, as_ne, List.length_cons, List.length_nil, Nat.reduceAdd, Int32.reduceLT, Int32.reduceLE, Int32.reduceAdd, Int32.reduceSub, Int32.neg_neg, Int32.reduceMul, Int32.reduceToNatClampNeg, Nat.reduceLeDiff, Nat.reduceLT, List.set_cons_zero, List.set_cons_succ, List.length_set, en_at, en_uu, en_gd, c12, z30, hc, h1, en_clsQ hQ, wc, hrl, as_z00, as_q2_0, as_q2_1])
          (by
            rw [as_mt (n := 4) (by decide +kernel), show am_ent 4 [.ref 36, .int x, .int 0, .int y] = [some (.ref 36), some (.int x), some (.int 0), some (.int y)] from rfl]
            simp only [q244_0, q244_1, q244_2, q244_5, q244_6, q244_7, q244_10, q244_13, q244_14, q244_17, q244_18, q244_19, q244_22, q244_23, q244_24, q244_25, q244_28, q244_29, q244_30, q244_31, q244_34, q244_37, q244_38, q244_39, q244_42, q244_43, q244_44, q244_45, q244_48, q244_51, q244_52, q244_53, q244_54, q244_57, en_c36, en_f36_0, en_p36_0, en_f36_1, en_p36_1, en_f36_2, en_p36_2, en_f36_3, en_p36_3, en_f36_4, en_p36_4, en_f36_5, en_p36_5, en_f36_6, en_p36_6, en_f36_7, en_p36_7, en_f36_8, en_p36_8, en_f36_9, en_p36_9, en_f36_10, en_p36_10, en_f36_11, en_p36_11, en_f36_12, en_p36_12, en_f36_13, en_p36_13, en_f36_14, en_f36_15, en_f36_16, en_f36_17, en_f36_18, en_f36_19, en_f36_20, en_f36_21, en_f36_22, en_f36_23, en_f36_24, en_f36_25, en_f36_26, en_f36_27, en_f36_28, en_f36_29, en_p36_29, en_f36_30, en_p36_30, en_f36_31, en_p36_31, en_f36_32, en_p36_32, en_f36_33, en_p36_33, en_f36_34, en_f36_35, en_f36_36, en_f36_37, en_f36_38, en_p36_38, en_f36_39, en_f36_40, en_p36_40, en_f36_41, en_p36_41, en_a37, en_l37, en_s37, en_a38, en_l38, en_s38, en_a39, en_l39, en_s39, en_a40, en_l40, en_s40, en_a41, en_l41, en_s41, en_a42, en_l42, en_s42, en_a43, en_l43, en_s43, en_a44, en_l44, en_s44, en_a45, en_l45, en_s45, en_a46, en_l46, en_s46, en_a47, en_l47, en_a48, en_l48, en_a49, en_l49, en_a50, en_l50, en_a51, en_l51, en_s51, en_a52, en_l52, en_s52, en_a53, en_l53, en_s53, en_a54, en_l54, en_s54, en_a55, en_l55, en_s55, en_a56, en_l56, en_s56, as_10, as_01, Nat.reduceBEq, Nat.reduceEqDiff, ↓reduceIte, Option.bind_some, Option.getD_some, Option.isSome_some, Option.isSome_none, Bool.false_eq_true, Option.toList, List.nil_append, List.cons_append, List.lookup, Option.isSome, List.getElem?_cons_zero, List.getElem?_cons_succ, beq_self_eq_true, if_true, true_or, or_true, or_false, false_or, am_kl, true_and, and_true, and_false, false_and, if_false, not_true_eq_false, not_false_eq_true, as_b0, as_b1, as_em, as_ne, List.length_cons, List.length_nil, Nat.reduceAdd, Int32.reduceLT, Int32.reduceLE, Int32.reduceAdd, Int32.reduceSub, Int32.neg_neg, Int32.reduceMul, Int32.reduceToNatClampNeg, Nat.reduceLeDiff, Nat.reduceLT, List.set_cons_zero, List.set_cons_succ, List.length_set, en_at, en_uu, en_gd, ct_172, e36, hc, x0, x1, wm, as_z00, as_q2_0, as_q2_1])
          (by decide) (by rw [md_tpL_len]; exact hrl) (by rw [md_tp_len]; exact t2) (md_tp_both [10] _ _ 0 (by rw [hrl]; decide) (by rw [t2]; decide) (fun i hi => absurd hi (by omega)))
      · have wc := fun (I : Nat → Nat → Int32) (L : Nat → List Int64) (h1 : (L 35).length = 160) (h2 : I 34 2 = Int32.ofNat 0) => cl_150_4 (X := X) (I := I) (A := A) (L := L) (V := V) (W := W) (Q := Q) (v := y) (r := 0) hQ h1 h2 (by decide)
        have wm := fun (I : Nat → Nat → Int32) (L : Nat → List Int64) (h2 : I 36 40 = Int32.ofNat 0) => ct_245 (X := X) (I := I) (A := A) (L := L) (V := V) (W := W) (Q := Q) (v := y) (r := 0) hpd ‹md_q pd x = some (4, a)› t2 h2 (by decide)
        simp only [md_lb, md_lv, md_sv, md_bv, md_lb, md_sb, md_bb, List.length_cons, List.length_nil, List.cons_append, List.nil_append, Nat.zero_add, Nat.reduceAdd] at wc wm
        exact md_stTR (v := .int (y + x + a)) (n := 2) (l := md_tpL (List.replicate 160 0) 0 [20, 10]) (a := md_tp (A 56) 0 [20, 10]) hR
          (by
            rw [as_mt (n := 5) (by decide +kernel), show am_ent 5 [.ref 0, .int x, .int 0, .int y] = [some (.ref 0), some (.int x), some (.int 0), some (.int y), none] from rfl]
            simp only [q146_0, q146_1, q146_4, q146_5, q146_6, q146_9, q146_10, q146_13, q146_14, q146_17, q146_17n, q146_19, q146_19n, q146_21n, q146_21, q146_24, q146_25, q146_26, q146_27, q146_52, q146_52n, q146_54, q146_55, q146_56, q146_59, q146_59n, q146_62, q146_63, q146_63n, q146_65, q146_66, q146_67, q146_70, q146_70n, q146_73, q146_74, q146_74n, q146_76, q146_77, q146_78, q146_81, q146_81n, q146_84, q146_85, q146_86, en_c0, en_f0_0, en_f0_1, en_f0_2, en_f0_3, en_f0_4, en_f0_5, en_f0_6, en_f0_7, en_f0_8, en_f0_9, en_p0_9, en_f0_10, en_p0_10, en_a2, en_l2, en_s2, en_a19, en_l19, en_s19, en_c20, en_f20_0, en_f20_1, en_f20_2, en_p20_2, en_f20_3, en_p20_3, en_f20_4, en_p20_4, en_f20_5, en_p20_5, en_f20_6, en_p20_6, en_f20_7, en_p20_7, en_f20_8, en_p20_8, en_f20_9, en_p20_9, en_f20_10, en_p20_10, en_f20_11, en_p20_11, en_f20_12, en_p20_12, en_f20_13, en_p20_13, en_f20_14, en_p20_14, en_a22, en_l22, en_s22, en_c23, en_f23_0, en_f23_1, en_f23_2, en_p23_2, en_f23_3, en_p23_3, en_f23_4, en_p23_4, en_f23_5, en_p23_5, en_f23_6, en_p23_6, en_f23_7, en_p23_7, en_f23_8, en_p23_8, en_f23_9, en_p23_9, en_f23_10, en_p23_10, en_f23_11, en_p23_11, en_f23_12, en_p23_12, en_f23_13, en_p23_13, en_f23_14, en_p23_14, en_c26, en_f26_0, en_f26_1, en_f26_2, en_p26_2, en_f26_3, en_p26_3, en_f26_4, en_p26_4, en_f26_5, en_p26_5, en_f26_6, en_p26_6, en_f26_7, en_p26_7, en_f26_8, en_p26_8, en_f26_9, en_p26_9, en_f26_10, en_p26_10, en_f26_11, en_p26_11, en_f26_12, en_p26_12, en_f26_13, en_p26_13, en_f26_14, en_p26_14, en_c34, en_f34_0, en_f34_1, en_p34_1, en_f34_2, en_p34_2, en_a35, en_l35, en_s35, as_10, as_01, Nat.reduceBEq, Nat.reduceEqDiff, ↓reduceIte, Option.bind_some, Option.getD_some, Option.isSome_some, Option.isSome_none, Bool.false_eq_true, Option.toList, List.nil_append, List.cons_append, List.lookup, Option.isSome, List.getElem?_cons_zero, List.getElem?_cons_succ, beq_self_eq_true, if_true, true_or, or_true, or_false, false_or, am_kl, true_and, and_true, and_false, false_and, if_false, not_true_eq_false, not_false_eq_true, as_b0, as_b1, as_em, as_ne, List.length_cons, List.length_nil, Nat.reduceAdd, Int32.reduceLT, Int32.reduceLE, Int32.reduceAdd, Int32.reduceSub, Int32.neg_neg, Int32.reduceMul, Int32.reduceToNatClampNeg, Nat.reduceLeDiff, Nat.reduceLT, List.set_cons_zero, List.set_cons_succ, List.length_set, en_at, en_uu, en_gd, c12, z30, hc, h1, en_clsQ hQ, wc, hrl, as_z00, as_q2_0, as_q2_1])
          (by
            rw [as_mt (n := 4) (by decide +kernel), show am_ent 4 [.ref 36, .int x, .int 0, .int y] = [some (.ref 36), some (.int x), some (.int 0), some (.int y)] from rfl]
            simp only [q244_0, q244_1, q244_2, q244_5, q244_6, q244_7, q244_10, q244_13, q244_14, q244_17, q244_18, q244_19, q244_22, q244_23, q244_24, q244_25, q244_28, q244_29, q244_30, q244_31, q244_34, q244_37, q244_38, q244_39, q244_42, q244_43, q244_44, q244_45, q244_48, q244_51, q244_52, q244_53, q244_54, q244_57, en_c36, en_f36_0, en_p36_0, en_f36_1, en_p36_1, en_f36_2, en_p36_2, en_f36_3, en_p36_3, en_f36_4, en_p36_4, en_f36_5, en_p36_5, en_f36_6, en_p36_6, en_f36_7, en_p36_7, en_f36_8, en_p36_8, en_f36_9, en_p36_9, en_f36_10, en_p36_10, en_f36_11, en_p36_11, en_f36_12, en_p36_12, en_f36_13, en_p36_13, en_f36_14, en_f36_15, en_f36_16, en_f36_17, en_f36_18, en_f36_19, en_f36_20, en_f36_21, en_f36_22, en_f36_23, en_f36_24, en_f36_25, en_f36_26, en_f36_27, en_f36_28, en_f36_29, en_p36_29, en_f36_30, en_p36_30, en_f36_31, en_p36_31, en_f36_32, en_p36_32, en_f36_33, en_p36_33, en_f36_34, en_f36_35, en_f36_36, en_f36_37, en_f36_38, en_p36_38, en_f36_39, en_f36_40, en_p36_40, en_f36_41, en_p36_41, en_a37, en_l37, en_s37, en_a38, en_l38, en_s38, en_a39, en_l39, en_s39, en_a40, en_l40, en_s40, en_a41, en_l41, en_s41, en_a42, en_l42, en_s42, en_a43, en_l43, en_s43, en_a44, en_l44, en_s44, en_a45, en_l45, en_s45, en_a46, en_l46, en_s46, en_a47, en_l47, en_a48, en_l48, en_a49, en_l49, en_a50, en_l50, en_a51, en_l51, en_s51, en_a52, en_l52, en_s52, en_a53, en_l53, en_s53, en_a54, en_l54, en_s54, en_a55, en_l55, en_s55, en_a56, en_l56, en_s56, as_10, as_01, Nat.reduceBEq, Nat.reduceEqDiff, ↓reduceIte, Option.bind_some, Option.getD_some, Option.isSome_some, Option.isSome_none, Bool.false_eq_true, Option.toList, List.nil_append, List.cons_append, List.lookup, Option.isSome, List.getElem?_cons_zero, List.getElem?_cons_succ, beq_self_eq_true, if_true, true_or, or_true, or_false, false_or, am_kl, true_and, and_true, and_false, false_and, if_false, not_true_eq_false, not_false_eq_true, as_b0, as_b1, as_em, as_ne, List.length_cons, List.length_nil, Nat.reduceAdd, Int32.reduceLT, Int32.reduceLE, Int32.reduceAdd, Int32.reduceSub, Int32.neg_neg, Int32.reduceMul, Int32.reduceToNatClampNeg, Nat.reduceLeDiff, Nat.reduceLT, List.set_cons_zero, List.set_cons_succ, List.length_set, en_at, en_uu, en_gd, ct_172, e36, hc, x0, x1, wm, as_z00, as_q2_0, as_q2_1])
          (by decide) (by rw [md_tpL_len]; exact hrl) (by rw [md_tp_len]; exact t2) (md_tp_both [20, 10] _ _ 0 (by rw [hrl]; decide) (by rw [t2]; decide) (fun i hi => absurd hi (by omega)))
      · have wc := fun (I : Nat → Nat → Int32) (L : Nat → List Int64) (h1 : (L 35).length = 160) (h2 : I 34 2 = Int32.ofNat 0) => cl_149_6 (X := X) (I := I) (A := A) (L := L) (V := V) (W := W) (Q := Q) (v := y) (r := 0) hQ h1 h2 (by decide)
        have wm := fun (I : Nat → Nat → Int32) (L : Nat → List Int64) (h2 : I 36 40 = Int32.ofNat 0) => ct_245 (X := X) (I := I) (A := A) (L := L) (V := V) (W := W) (Q := Q) (v := y) (r := 0) hpd ‹md_q pd x = some (6, a)› t2 h2 (by decide)
        simp only [md_lb, md_lv, md_sv, md_bv, md_lb, md_sb, md_bb, List.length_cons, List.length_nil, List.cons_append, List.nil_append, Nat.zero_add, Nat.reduceAdd] at wc wm
        exact md_stTR (v := .int (y + x - x)) (n := 2) (l := md_tpL (List.replicate 160 0) 0 [51, 10]) (a := md_tp (A 56) 0 [51, 10]) hR
          (by
            rw [as_mt (n := 5) (by decide +kernel), show am_ent 5 [.ref 0, .int x, .int 0, .int y] = [some (.ref 0), some (.int x), some (.int 0), some (.int y), none] from rfl]
            simp only [q146_0, q146_1, q146_4, q146_5, q146_6, q146_9, q146_10, q146_13, q146_14, q146_17, q146_17n, q146_19, q146_19n, q146_21n, q146_21, q146_24, q146_25, q146_26, q146_27, q146_52, q146_52n, q146_54, q146_55, q146_56, q146_59, q146_59n, q146_62, q146_63, q146_63n, q146_65, q146_66, q146_67, q146_70, q146_70n, q146_73, q146_74, q146_74n, q146_76, q146_77, q146_78, q146_81, q146_81n, q146_84, q146_85, q146_86, en_c0, en_f0_0, en_f0_1, en_f0_2, en_f0_3, en_f0_4, en_f0_5, en_f0_6, en_f0_7, en_f0_8, en_f0_9, en_p0_9, en_f0_10, en_p0_10, en_a2, en_l2, en_s2, en_a19, en_l19, en_s19, en_c20, en_f20_0, en_f20_1, en_f20_2, en_p20_2, en_f20_3, en_p20_3, en_f20_4, en_p20_4, en_f20_5, en_p20_5, en_f20_6, en_p20_6, en_f20_7, en_p20_7, en_f20_8, en_p20_8, en_f20_9, en_p20_9, en_f20_10, en_p20_10, en_f20_11, en_p20_11, en_f20_12, en_p20_12, en_f20_13, en_p20_13, en_f20_14, en_p20_14, en_a22, en_l22, en_s22, en_c23, en_f23_0, en_f23_1, en_f23_2, en_p23_2, en_f23_3, en_p23_3, en_f23_4, en_p23_4, en_f23_5, en_p23_5, en_f23_6, en_p23_6, en_f23_7, en_p23_7, en_f23_8, en_p23_8, en_f23_9, en_p23_9, en_f23_10, en_p23_10, en_f23_11, en_p23_11, en_f23_12, en_p23_12, en_f23_13, en_p23_13, en_f23_14, en_p23_14, en_c26, en_f26_0, en_f26_1, en_f26_2, en_p26_2, en_f26_3, en_p26_3, en_f26_4, en_p26_4, en_f26_5, en_p26_5, en_f26_6, en_p26_6, en_f26_7, en_p26_7, en_f26_8, en_p26_8, en_f26_9, en_p26_9, en_f26_10, en_p26_10, en_f26_11, en_p26_11, en_f26_12, en_p26_12, en_f26_13, en_p26_13, en_f26_14, en_p26_14, en_c34, en_f34_0, en_f34_1, en_p34_1, en_f34_2, en_p34_2, en_a35, en_l35, en_s35, as_10, as_01, Nat.reduceBEq, Nat.reduceEqDiff, ↓reduceIte, Option.bind_some, Option.getD_some, Option.isSome_some, Option.isSome_none, Bool.false_eq_true, Option.toList, List.nil_append, List.cons_append, List.lookup, Option.isSome, List.getElem?_cons_zero, List.getElem?_cons_succ, beq_self_eq_true, if_true, true_or, or_true, or_false, false_or, am_kl, true_and, and_true, and_false, false_and, if_false, not_true_eq_false, not_false_eq_true, as_b0, as_b1, as_em, as_ne, List.length_cons, List.length_nil, Nat.reduceAdd, Int32.reduceLT, Int32.reduceLE, Int32.reduceAdd, Int32.reduceSub, Int32.neg_neg, Int32.reduceMul, Int32.reduceToNatClampNeg, Nat.reduceLeDiff, Nat.reduceLT, List.set_cons_zero, List.set_cons_succ, List.length_set, en_at, en_uu, en_gd, c12, z30, hc, h1, en_clsQ hQ, wc, hrl, as_z00, as_q2_0, as_q2_1])
          (by
            rw [as_mt (n := 4) (by decide +kernel), show am_ent 4 [.ref 36, .int x, .int 0, .int y] = [some (.ref 36), some (.int x), some (.int 0), some (.int y)] from rfl]
            simp only [q244_0, q244_1, q244_2, q244_5, q244_6, q244_7, q244_10, q244_13, q244_14, q244_17, q244_18, q244_19, q244_22, q244_23, q244_24, q244_25, q244_28, q244_29, q244_30, q244_31, q244_34, q244_37, q244_38, q244_39, q244_42, q244_43, q244_44, q244_45, q244_48, q244_51, q244_52, q244_53, q244_54, q244_57, en_c36, en_f36_0, en_p36_0, en_f36_1, en_p36_1, en_f36_2, en_p36_2, en_f36_3, en_p36_3, en_f36_4, en_p36_4, en_f36_5, en_p36_5, en_f36_6, en_p36_6, en_f36_7, en_p36_7, en_f36_8, en_p36_8, en_f36_9, en_p36_9, en_f36_10, en_p36_10, en_f36_11, en_p36_11, en_f36_12, en_p36_12, en_f36_13, en_p36_13, en_f36_14, en_f36_15, en_f36_16, en_f36_17, en_f36_18, en_f36_19, en_f36_20, en_f36_21, en_f36_22, en_f36_23, en_f36_24, en_f36_25, en_f36_26, en_f36_27, en_f36_28, en_f36_29, en_p36_29, en_f36_30, en_p36_30, en_f36_31, en_p36_31, en_f36_32, en_p36_32, en_f36_33, en_p36_33, en_f36_34, en_f36_35, en_f36_36, en_f36_37, en_f36_38, en_p36_38, en_f36_39, en_f36_40, en_p36_40, en_f36_41, en_p36_41, en_a37, en_l37, en_s37, en_a38, en_l38, en_s38, en_a39, en_l39, en_s39, en_a40, en_l40, en_s40, en_a41, en_l41, en_s41, en_a42, en_l42, en_s42, en_a43, en_l43, en_s43, en_a44, en_l44, en_s44, en_a45, en_l45, en_s45, en_a46, en_l46, en_s46, en_a47, en_l47, en_a48, en_l48, en_a49, en_l49, en_a50, en_l50, en_a51, en_l51, en_s51, en_a52, en_l52, en_s52, en_a53, en_l53, en_s53, en_a54, en_l54, en_s54, en_a55, en_l55, en_s55, en_a56, en_l56, en_s56, as_10, as_01, Nat.reduceBEq, Nat.reduceEqDiff, ↓reduceIte, Option.bind_some, Option.getD_some, Option.isSome_some, Option.isSome_none, Bool.false_eq_true, Option.toList, List.nil_append, List.cons_append, List.lookup, Option.isSome, List.getElem?_cons_zero, List.getElem?_cons_succ, beq_self_eq_true, if_true, true_or, or_true, or_false, false_or, am_kl, true_and, and_true, and_false, false_and, if_false, not_true_eq_false, not_false_eq_true, as_b0, as_b1, as_em, as_ne, List.length_cons, List.length_nil, Nat.reduceAdd, Int32.reduceLT, Int32.reduceLE, Int32.reduceAdd, Int32.reduceSub, Int32.neg_neg, Int32.reduceMul, Int32.reduceToNatClampNeg, Nat.reduceLeDiff, Nat.reduceLT, List.set_cons_zero, List.set_cons_succ, List.length_set, en_at, en_uu, en_gd, ct_172, e36, hc, x0, x1, wm, as_z00, as_q2_0, as_q2_1])
          (by decide) (by rw [md_tpL_len]; exact hrl) (by rw [md_tp_len]; exact t2) (md_tp_both [51, 10] _ _ 0 (by rw [hrl]; decide) (by rw [t2]; decide) (fun i hi => absurd hi (by omega)))
      · have wc := fun (I : Nat → Nat → Int32) (L : Nat → List Int64) (h1 : (L 35).length = 160) (h2 : I 34 2 = Int32.ofNat 0) => cl_150_7 (X := X) (I := I) (A := A) (L := L) (V := V) (W := W) (Q := Q) (v := y) (r := 0) hQ h1 h2 (by decide)
        have wm := fun (I : Nat → Nat → Int32) (L : Nat → List Int64) (h2 : I 36 40 = Int32.ofNat 0) => ct_245 (X := X) (I := I) (A := A) (L := L) (V := V) (W := W) (Q := Q) (v := y) (r := 0) hpd ‹md_q pd x = some (7, a)› t2 h2 (by decide)
        simp only [md_lb, md_lv, md_sv, md_bv, md_lb, md_sb, md_bb, List.length_cons, List.length_nil, List.cons_append, List.nil_append, Nat.zero_add, Nat.reduceAdd] at wc wm
        exact md_stTR (v := .int (y + x + a)) (n := 2) (l := md_tpL (List.replicate 160 0) 0 [20, 10]) (a := md_tp (A 56) 0 [20, 10]) hR
          (by
            rw [as_mt (n := 5) (by decide +kernel), show am_ent 5 [.ref 0, .int x, .int 0, .int y] = [some (.ref 0), some (.int x), some (.int 0), some (.int y), none] from rfl]
            simp only [q146_0, q146_1, q146_4, q146_5, q146_6, q146_9, q146_10, q146_13, q146_14, q146_17, q146_17n, q146_19, q146_19n, q146_21n, q146_21, q146_24, q146_25, q146_26, q146_27, q146_52, q146_52n, q146_54, q146_55, q146_56, q146_59, q146_59n, q146_62, q146_63, q146_63n, q146_65, q146_66, q146_67, q146_70, q146_70n, q146_73, q146_74, q146_74n, q146_76, q146_77, q146_78, q146_81, q146_81n, q146_84, q146_85, q146_86, en_c0, en_f0_0, en_f0_1, en_f0_2, en_f0_3, en_f0_4, en_f0_5, en_f0_6, en_f0_7, en_f0_8, en_f0_9, en_p0_9, en_f0_10, en_p0_10, en_a2, en_l2, en_s2, en_a19, en_l19, en_s19, en_c20, en_f20_0, en_f20_1, en_f20_2, en_p20_2, en_f20_3, en_p20_3, en_f20_4, en_p20_4, en_f20_5, en_p20_5, en_f20_6, en_p20_6, en_f20_7, en_p20_7, en_f20_8, en_p20_8, en_f20_9, en_p20_9, en_f20_10, en_p20_10, en_f20_11, en_p20_11, en_f20_12, en_p20_12, en_f20_13, en_p20_13, en_f20_14, en_p20_14, en_a22, en_l22, en_s22, en_c23, en_f23_0, en_f23_1, en_f23_2, en_p23_2, en_f23_3, en_p23_3, en_f23_4, en_p23_4, en_f23_5, en_p23_5, en_f23_6, en_p23_6, en_f23_7, en_p23_7, en_f23_8, en_p23_8, en_f23_9, en_p23_9, en_f23_10, en_p23_10, en_f23_11, en_p23_11, en_f23_12, en_p23_12, en_f23_13, en_p23_13, en_f23_14, en_p23_14, en_c26, en_f26_0, en_f26_1, en_f26_2, en_p26_2, en_f26_3, en_p26_3, en_f26_4, en_p26_4, en_f26_5, en_p26_5, en_f26_6, en_p26_6, en_f26_7, en_p26_7, en_f26_8, en_p26_8, en_f26_9, en_p26_9, en_f26_10, en_p26_10, en_f26_11, en_p26_11, en_f26_12, en_p26_12, en_f26_13, en_p26_13, en_f26_14, en_p26_14, en_c34, en_f34_0, en_f34_1, en_p34_1, en_f34_2, en_p34_2, en_a35, en_l35, en_s35, as_10, as_01, Nat.reduceBEq, Nat.reduceEqDiff, ↓reduceIte, Option.bind_some, Option.getD_some, Option.isSome_some, Option.isSome_none, Bool.false_eq_true, Option.toList, List.nil_append, List.cons_append, List.lookup, Option.isSome, List.getElem?_cons_zero, List.getElem?_cons_succ, beq_self_eq_true, if_true, true_or, or_true, or_false, false_or, am_kl, true_and, and_true, and_false, false_and, if_false, not_true_eq_false, not_false_eq_true, as_b0, as_b1, as_em, as_ne, List.length_cons, List.length_nil, Nat.reduceAdd, Int32.reduceLT, Int32.reduceLE, Int32.reduceAdd, Int32.reduceSub, Int32.neg_neg, Int32.reduceMul, Int32.reduceToNatClampNeg, Nat.reduceLeDiff, Nat.reduceLT, List.set_cons_zero, List.set_cons_succ, List.length_set, en_at, en_uu, en_gd, c12, z30, hc, h1, en_clsQ hQ, wc, hrl, as_z00, as_q2_0, as_q2_1])
          (by
            rw [as_mt (n := 4) (by decide +kernel), show am_ent 4 [.ref 36, .int x, .int 0, .int y] = [some (.ref 36), some (.int x), some (.int 0), some (.int y)] from rfl]
            simp only [q244_0, q244_1, q244_2, q244_5, q244_6, q244_7, q244_10, q244_13, q244_14, q244_17, q244_18, q244_19, q244_22, q244_23, q244_24, q244_25, q244_28, q244_29, q244_30, q244_31, q244_34, q244_37, q244_38, q244_39, q244_42, q244_43, q244_44, q244_45, q244_48, q244_51, q244_52, q244_53, q244_54, q244_57, en_c36, en_f36_0, en_p36_0, en_f36_1, en_p36_1, en_f36_2, en_p36_2, en_f36_3, en_p36_3, en_f36_4, en_p36_4, en_f36_5, en_p36_5, en_f36_6, en_p36_6, en_f36_7, en_p36_7, en_f36_8, en_p36_8, en_f36_9, en_p36_9, en_f36_10, en_p36_10, en_f36_11, en_p36_11, en_f36_12, en_p36_12, en_f36_13, en_p36_13, en_f36_14, en_f36_15, en_f36_16, en_f36_17, en_f36_18, en_f36_19, en_f36_20, en_f36_21, en_f36_22, en_f36_23, en_f36_24, en_f36_25, en_f36_26, en_f36_27, en_f36_28, en_f36_29, en_p36_29, en_f36_30, en_p36_30, en_f36_31, en_p36_31, en_f36_32, en_p36_32, en_f36_33, en_p36_33, en_f36_34, en_f36_35, en_f36_36, en_f36_37, en_f36_38, en_p36_38, en_f36_39, en_f36_40, en_p36_40, en_f36_41, en_p36_41, en_a37, en_l37, en_s37, en_a38, en_l38, en_s38, en_a39, en_l39, en_s39, en_a40, en_l40, en_s40, en_a41, en_l41, en_s41, en_a42, en_l42, en_s42, en_a43, en_l43, en_s43, en_a44, en_l44, en_s44, en_a45, en_l45, en_s45, en_a46, en_l46, en_s46, en_a47, en_l47, en_a48, en_l48, en_a49, en_l49, en_a50, en_l50, en_a51, en_l51, en_s51, en_a52, en_l52, en_s52, en_a53, en_l53, en_s53, en_a54, en_l54, en_s54, en_a55, en_l55, en_s55, en_a56, en_l56, en_s56, as_10, as_01, Nat.reduceBEq, Nat.reduceEqDiff, ↓reduceIte, Option.bind_some, Option.getD_some, Option.isSome_some, Option.isSome_none, Bool.false_eq_true, Option.toList, List.nil_append, List.cons_append, List.lookup, Option.isSome, List.getElem?_cons_zero, List.getElem?_cons_succ, beq_self_eq_true, if_true, true_or, or_true, or_false, false_or, am_kl, true_and, and_true, and_false, false_and, if_false, not_true_eq_false, not_false_eq_true, as_b0, as_b1, as_em, as_ne, List.length_cons, List.length_nil, Nat.reduceAdd, Int32.reduceLT, Int32.reduceLE, Int32.reduceAdd, Int32.reduceSub, Int32.neg_neg, Int32.reduceMul, Int32.reduceToNatClampNeg, Nat.reduceLeDiff, Nat.reduceLT, List.set_cons_zero, List.set_cons_succ, List.length_set, en_at, en_uu, en_gd, ct_172, e36, hc, x0, x1, wm, as_z00, as_q2_0, as_q2_1])
          (by decide) (by rw [md_tpL_len]; exact hrl) (by rw [md_tp_len]; exact t2) (md_tp_both [20, 10] _ _ 0 (by rw [hrl]; decide) (by rw [t2]; decide) (fun i hi => absurd hi (by omega)))
      · have wc := fun (I : Nat → Nat → Int32) (L : Nat → List Int64) (h1 : (L 35).length = 160) (h2 : I 34 2 = Int32.ofNat 0) => cl_150_8 (X := X) (I := I) (A := A) (L := L) (V := V) (W := W) (Q := Q) (v := y) (r := 0) hQ h1 h2 (by decide)
        have wm := fun (I : Nat → Nat → Int32) (L : Nat → List Int64) (h2 : I 36 40 = Int32.ofNat 0) => ct_245 (X := X) (I := I) (A := A) (L := L) (V := V) (W := W) (Q := Q) (v := y) (r := 0) hpd ‹md_q pd x = some (8, a)› t2 h2 (by decide)
        simp only [md_lb, md_lv, md_sv, md_bv, md_lb, md_sb, md_bb, List.length_cons, List.length_nil, List.cons_append, List.nil_append, Nat.zero_add, Nat.reduceAdd] at wc wm
        exact md_stTR (v := .int (y + x + a)) (n := 2) (l := md_tpL (List.replicate 160 0) 0 [20, 10]) (a := md_tp (A 56) 0 [20, 10]) hR
          (by
            rw [as_mt (n := 5) (by decide +kernel), show am_ent 5 [.ref 0, .int x, .int 0, .int y] = [some (.ref 0), some (.int x), some (.int 0), some (.int y), none] from rfl]
            simp only [q146_0, q146_1, q146_4, q146_5, q146_6, q146_9, q146_10, q146_13, q146_14, q146_17, q146_17n, q146_19, q146_19n, q146_21n, q146_21, q146_24, q146_25, q146_26, q146_27, q146_52, q146_52n, q146_54, q146_55, q146_56, q146_59, q146_59n, q146_62, q146_63, q146_63n, q146_65, q146_66, q146_67, q146_70, q146_70n, q146_73, q146_74, q146_74n, q146_76, q146_77, q146_78, q146_81, q146_81n, q146_84, q146_85, q146_86, en_c0, en_f0_0, en_f0_1, en_f0_2, en_f0_3, en_f0_4, en_f0_5, en_f0_6, en_f0_7, en_f0_8, en_f0_9, en_p0_9, en_f0_10, en_p0_10, en_a2, en_l2, en_s2, en_a19, en_l19, en_s19, en_c20, en_f20_0, en_f20_1, en_f20_2, en_p20_2, en_f20_3, en_p20_3, en_f20_4, en_p20_4, en_f20_5, en_p20_5, en_f20_6, en_p20_6, en_f20_7, en_p20_7, en_f20_8, en_p20_8, en_f20_9, en_p20_9, en_f20_10, en_p20_10, en_f20_11, en_p20_11, en_f20_12, en_p20_12, en_f20_13, en_p20_13, en_f20_14, en_p20_14, en_a22, en_l22, en_s22, en_c23, en_f23_0, en_f23_1, en_f23_2, en_p23_2, en_f23_3, en_p23_3, en_f23_4, en_p23_4, en_f23_5, en_p23_5, en_f23_6, en_p23_6, en_f23_7, en_p23_7, en_f23_8, en_p23_8, en_f23_9, en_p23_9, en_f23_10, en_p23_10, en_f23_11, en_p23_11, en_f23_12, en_p23_12, en_f23_13, en_p23_13, en_f23_14, en_p23_14, en_c26, en_f26_0, en_f26_1, en_f26_2, en_p26_2, en_f26_3, en_p26_3, en_f26_4, en_p26_4, en_f26_5, en_p26_5, en_f26_6, en_p26_6, en_f26_7, en_p26_7, en_f26_8, en_p26_8, en_f26_9, en_p26_9, en_f26_10, en_p26_10, en_f26_11, en_p26_11, en_f26_12, en_p26_12, en_f26_13, en_p26_13, en_f26_14, en_p26_14, en_c34, en_f34_0, en_f34_1, en_p34_1, en_f34_2, en_p34_2, en_a35, en_l35, en_s35, as_10, as_01, Nat.reduceBEq, Nat.reduceEqDiff, ↓reduceIte, Option.bind_some, Option.getD_some, Option.isSome_some, Option.isSome_none, Bool.false_eq_true, Option.toList, List.nil_append, List.cons_append, List.lookup, Option.isSome, List.getElem?_cons_zero, List.getElem?_cons_succ, beq_self_eq_true, if_true, true_or, or_true, or_false, false_or, am_kl, true_and, and_true, and_false, false_and, if_false, not_true_eq_false, not_false_eq_true, as_b0, as_b1, as_em, as_ne, List.length_cons, List.length_nil, Nat.reduceAdd, Int32.reduceLT, Int32.reduceLE, Int32.reduceAdd, Int32.reduceSub, Int32.neg_neg, Int32.reduceMul, Int32.reduceToNatClampNeg, Nat.reduceLeDiff, Nat.reduceLT, List.set_cons_zero, List.set_cons_succ, List.length_set, en_at, en_uu, en_gd, c12, z30, hc, h1, en_clsQ hQ, wc, hrl, as_z00, as_q2_0, as_q2_1])
          (by
            rw [as_mt (n := 4) (by decide +kernel), show am_ent 4 [.ref 36, .int x, .int 0, .int y] = [some (.ref 36), some (.int x), some (.int 0), some (.int y)] from rfl]
            simp only [q244_0, q244_1, q244_2, q244_5, q244_6, q244_7, q244_10, q244_13, q244_14, q244_17, q244_18, q244_19, q244_22, q244_23, q244_24, q244_25, q244_28, q244_29, q244_30, q244_31, q244_34, q244_37, q244_38, q244_39, q244_42, q244_43, q244_44, q244_45, q244_48, q244_51, q244_52, q244_53, q244_54, q244_57, en_c36, en_f36_0, en_p36_0, en_f36_1, en_p36_1, en_f36_2, en_p36_2, en_f36_3, en_p36_3, en_f36_4, en_p36_4, en_f36_5, en_p36_5, en_f36_6, en_p36_6, en_f36_7, en_p36_7, en_f36_8, en_p36_8, en_f36_9, en_p36_9, en_f36_10, en_p36_10, en_f36_11, en_p36_11, en_f36_12, en_p36_12, en_f36_13, en_p36_13, en_f36_14, en_f36_15, en_f36_16, en_f36_17, en_f36_18, en_f36_19, en_f36_20, en_f36_21, en_f36_22, en_f36_23, en_f36_24, en_f36_25, en_f36_26, en_f36_27, en_f36_28, en_f36_29, en_p36_29, en_f36_30, en_p36_30, en_f36_31, en_p36_31, en_f36_32, en_p36_32, en_f36_33, en_p36_33, en_f36_34, en_f36_35, en_f36_36, en_f36_37, en_f36_38, en_p36_38, en_f36_39, en_f36_40, en_p36_40, en_f36_41, en_p36_41, en_a37, en_l37, en_s37, en_a38, en_l38, en_s38, en_a39, en_l39, en_s39, en_a40, en_l40, en_s40, en_a41, en_l41, en_s41, en_a42, en_l42, en_s42, en_a43, en_l43, en_s43, en_a44, en_l44, en_s44, en_a45, en_l45, en_s45, en_a46, en_l46, en_s46, en_a47, en_l47, en_a48, en_l48, en_a49, en_l49, en_a50, en_l50, en_a51, en_l51, en_s51, en_a52, en_l52, en_s52, en_a53, en_l53, en_s53, en_a54, en_l54, en_s54, en_a55, en_l55, en_s55, en_a56, en_l56, en_s56, as_10, as_01, Nat.reduceBEq, Nat.reduceEqDiff, ↓reduceIte, Option.bind_some, Option.getD_some, Option.isSome_some, Option.isSome_none, Bool.false_eq_true, Option.toList, List.nil_append, List.cons_append, List.lookup, Option.isSome, List.getElem?_cons_zero, List.getElem?_cons_succ, beq_self_eq_true, if_true, true_or, or_true, or_false, false_or, am_kl, true_and, and_true, and_false, false_and, if_false, not_true_eq_false, not_false_eq_true, as_b0, as_b1, as_em, as_ne, List.length_cons, List.length_nil, Nat.reduceAdd, Int32.reduceLT, Int32.reduceLE, Int32.reduceAdd, Int32.reduceSub, Int32.neg_neg, Int32.reduceMul, Int32.reduceToNatClampNeg, Nat.reduceLeDiff, Nat.reduceLT, List.set_cons_zero, List.set_cons_succ, List.length_set, en_at, en_uu, en_gd, ct_172, e36, hc, x0, x1, wm, as_z00, as_q2_0, as_q2_1])
          (by decide) (by rw [md_tpL_len]; exact hrl) (by rw [md_tp_len]; exact t2) (md_tp_both [20, 10] _ _ 0 (by rw [hrl]; decide) (by rw [t2]; decide) (fun i hi => absurd hi (by omega)))
    · by_cases a1 : act = 1
      · subst a1
        rcases hpc with rfl | rfl | rfl | rfl | rfl | rfl | rfl
        · have wc := fun (I : Nat → Nat → Int32) (L : Nat → List Int64) (h1 : (L 35).length = 160) (h2 : I 34 2 = Int32.ofNat 0) => cl_152_1 (X := X) (I := I) (A := A) (L := L) (V := V) (W := W) (Q := Q) (v := y) (r := 0) hQ h1 h2 (by decide)
          have wm := fun (I : Nat → Nat → Int32) (L : Nat → List Int64) (h2 : I 36 40 = Int32.ofNat 0) => ct_248 (X := X) (I := I) (A := A) (L := L) (V := V) (W := W) (Q := Q) (v := y) (r := 0) hpd ‹md_q pd x = some (1, a)› t2 h2 (by decide)
          simp only [md_sb, md_lv, md_sv, md_bv, md_lb, md_sb, md_bb, List.length_cons, List.length_nil, List.cons_append, List.nil_append, Nat.zero_add, Nat.reduceAdd] at wc wm
          exact md_stTR (v := .int ((((y - a) + x - x) * 2) * 2)) (n := 5) (l := md_tpL (List.replicate 160 0) 0 [71, 11, 70, 51, 10]) (a := md_tp (A 56) 0 [71, 11, 70, 51, 10]) hR
            (by
              rw [as_mt (n := 5) (by decide +kernel), show am_ent 5 [.ref 0, .int x, .int 1, .int y] = [some (.ref 0), some (.int x), some (.int 1), some (.int y), none] from rfl]
              simp only [q146_0, q146_1, q146_4, q146_5, q146_6, q146_9, q146_10, q146_13, q146_14, q146_17, q146_17n, q146_19, q146_19n, q146_21n, q146_21, q146_24, q146_25, q146_26, q146_27, q146_52, q146_52n, q146_54, q146_55, q146_56, q146_59, q146_59n, q146_62, q146_63, q146_63n, q146_65, q146_66, q146_67, q146_70, q146_70n, q146_73, q146_74, q146_74n, q146_76, q146_77, q146_78, q146_81, q146_81n, q146_84, q146_85, q146_86, en_c0, en_f0_0, en_f0_1, en_f0_2, en_f0_3, en_f0_4, en_f0_5, en_f0_6, en_f0_7, en_f0_8, en_f0_9, en_p0_9, en_f0_10, en_p0_10, en_a2, en_l2, en_s2, en_a19, en_l19, en_s19, en_c20, en_f20_0, en_f20_1, en_f20_2, en_p20_2, en_f20_3, en_p20_3, en_f20_4, en_p20_4, en_f20_5, en_p20_5, en_f20_6, en_p20_6, en_f20_7, en_p20_7, en_f20_8, en_p20_8, en_f20_9, en_p20_9, en_f20_10, en_p20_10, en_f20_11, en_p20_11, en_f20_12, en_p20_12, en_f20_13, en_p20_13, en_f20_14, en_p20_14, en_a22, en_l22, en_s22, en_c23, en_f23_0, en_f23_1, en_f23_2, en_p23_2, en_f23_3, en_p23_3, en_f23_4, en_p23_4, en_f23_5, en_p23_5, en_f23_6, en_p23_6, en_f23_7, en_p23_7, en_f23_8, en_p23_8, en_f23_9, en_p23_9, en_f23_10, en_p23_10, en_f23_11, en_p23_11, en_f23_12, en_p23_12, en_f23_13, en_p23_13, en_f23_14, en_p23_14, en_c26, en_f26_0, en_f26_1, en_f26_2, en_p26_2, en_f26_3, en_p26_3, en_f26_4, en_p26_4, en_f26_5, en_p26_5, en_f26_6, en_p26_6, en_f26_7, en_p26_7, en_f26_8, en_p26_8, en_f26_9, en_p26_9, en_f26_10, en_p26_10, en_f26_11, en_p26_11, en_f26_12, en_p26_12, en_f26_13, en_p26_13, en_f26_14, en_p26_14, en_c34, en_f34_0, en_f34_1, en_p34_1, en_f34_2, en_p34_2, en_a35, en_l35, en_s35, as_10, as_01, Nat.reduceBEq, Nat.reduceEqDiff, ↓reduceIte, Option.bind_some, Option.getD_some, Option.isSome_some, Option.isSome_none, Bool.false_eq_true, Option.toList, List.nil_append, List.cons_append, List.lookup, Option.isSome, List.getElem?_cons_zero, List.getElem?_cons_succ, beq_self_eq_true, if_true, true_or, or_true, or_false, false_or, am_kl, true_and, and_true, and_false, false_and, if_false, not_true_eq_false, not_false_eq_true, as_b0, as_b1, as_em, as_ne, List.length_cons, List.length_nil, Nat.reduceAdd, Int32.reduceLT, Int32.reduceLE, Int32.reduceAdd, Int32.reduceSub, Int32.neg_neg, Int32.reduceMul, Int32.reduceToNatClampNeg, Nat.reduceLeDiff, Nat.reduceLT, List.set_cons_zero, List.set_cons_succ, List.length_set, en_at, en_uu, en_gd, c12, z30, hc, h1, en_clsQ hQ, wc, hrl, as_z00, as_q2_0, as_q2_1])
            (by
              rw [as_mt (n := 4) (by decide +kernel), show am_ent 4 [.ref 36, .int x, .int 1, .int y] = [some (.ref 36), some (.int x), some (.int 1), some (.int y)] from rfl]
              simp only [q244_0, q244_1, q244_2, q244_5, q244_6, q244_7, q244_10, q244_13, q244_14, q244_17, q244_18, q244_19, q244_22, q244_23, q244_24, q244_25, q244_28, q244_29, q244_30, q244_31, q244_34, q244_37, q244_38, q244_39, q244_42, q244_43, q244_44, q244_45, q244_48, q244_51, q244_52, q244_53, q244_54, q244_57, en_c36, en_f36_0, en_p36_0, en_f36_1, en_p36_1, en_f36_2, en_p36_2, en_f36_3, en_p36_3, en_f36_4, en_p36_4, en_f36_5, en_p36_5, en_f36_6, en_p36_6, en_f36_7, en_p36_7, en_f36_8, en_p36_8, en_f36_9, en_p36_9, en_f36_10, en_p36_10, en_f36_11, en_p36_11, en_f36_12, en_p36_12, en_f36_13, en_p36_13, en_f36_14, en_f36_15, en_f36_16, en_f36_17, en_f36_18, en_f36_19, en_f36_20, en_f36_21, en_f36_22, en_f36_23, en_f36_24, en_f36_25, en_f36_26, en_f36_27, en_f36_28, en_f36_29, en_p36_29, en_f36_30, en_p36_30, en_f36_31, en_p36_31, en_f36_32, en_p36_32, en_f36_33, en_p36_33, en_f36_34, en_f36_35, en_f36_36, en_f36_37, en_f36_38, en_p36_38, en_f36_39, en_f36_40, en_p36_40, en_f36_41, en_p36_41, en_a37, en_l37, en_s37, en_a38, en_l38, en_s38, en_a39, en_l39, en_s39, en_a40, en_l40, en_s40, en_a41, en_l41, en_s41, en_a42, en_l42, en_s42, en_a43, en_l43, en_s43, en_a44, en_l44, en_s44, en_a45, en_l45, en_s45, en_a46, en_l46, en_s46, en_a47, en_l47, en_a48, en_l48, en_a49, en_l49, en_a50, en_l50, en_a51, en_l51, en_s51, en_a52, en_l52, en_s52, en_a53, en_l53, en_s53, en_a54, en_l54, en_s54, en_a55, en_l55, en_s55, en_a56, en_l56, en_s56, as_10, as_01, Nat.reduceBEq, Nat.reduceEqDiff, ↓reduceIte, Option.bind_some, Option.getD_some, Option.isSome_some, Option.isSome_none, Bool.false_eq_true, Option.toList, List.nil_append, List.cons_append, List.lookup, Option.isSome, List.getElem?_cons_zero, List.getElem?_cons_succ, beq_self_eq_true, if_true, true_or, or_true, or_false, false_or, am_kl, true_and, and_true, and_false, false_and, if_false, not_true_eq_false, not_false_eq_true, as_b0, as_b1, as_em, as_ne, List.length_cons, List.length_nil, Nat.reduceAdd, Int32.reduceLT, Int32.reduceLE, Int32.reduceAdd, Int32.reduceSub, Int32.neg_neg, Int32.reduceMul, Int32.reduceToNatClampNeg, Nat.reduceLeDiff, Nat.reduceLT, List.set_cons_zero, List.set_cons_succ, List.length_set, en_at, en_uu, en_gd, ct_172, e36, hc, x0, x1, wm, as_z00, as_q2_0, as_q2_1])
            (by decide) (by rw [md_tpL_len]; exact hrl) (by rw [md_tp_len]; exact t2) (md_tp_both [71, 11, 70, 51, 10] _ _ 0 (by rw [hrl]; decide) (by rw [t2]; decide) (fun i hi => absurd hi (by omega)))
        · have wc := fun (I : Nat → Nat → Int32) (L : Nat → List Int64) (h1 : (L 35).length = 160) (h2 : I 34 2 = Int32.ofNat 0) => cl_153_2 (X := X) (I := I) (A := A) (L := L) (V := V) (W := W) (Q := Q) (v := y) (r := 0) hQ h1 h2 (by decide)
          have wm := fun (I : Nat → Nat → Int32) (L : Nat → List Int64) (h2 : I 36 40 = Int32.ofNat 0) => ct_248 (X := X) (I := I) (A := A) (L := L) (V := V) (W := W) (Q := Q) (v := y) (r := 0) hpd ‹md_q pd x = some (2, a)› t2 h2 (by decide)
          simp only [md_sb, md_lv, md_sv, md_bv, md_lb, md_sb, md_bb, List.length_cons, List.length_nil, List.cons_append, List.nil_append, Nat.zero_add, Nat.reduceAdd] at wc wm
          exact md_stTR (v := .int ((y + x) * 2 * 3)) (n := 3) (l := md_tpL (List.replicate 160 0) 0 [30, 11, 10]) (a := md_tp (A 56) 0 [30, 11, 10]) hR
            (by
              rw [as_mt (n := 5) (by decide +kernel), show am_ent 5 [.ref 0, .int x, .int 1, .int y] = [some (.ref 0), some (.int x), some (.int 1), some (.int y), none] from rfl]
              simp only [q146_0, q146_1, q146_4, q146_5, q146_6, q146_9, q146_10, q146_13, q146_14, q146_17, q146_17n, q146_19, q146_19n, q146_21n, q146_21, q146_24, q146_25, q146_26, q146_27, q146_52, q146_52n, q146_54, q146_55, q146_56, q146_59, q146_59n, q146_62, q146_63, q146_63n, q146_65, q146_66, q146_67, q146_70, q146_70n, q146_73, q146_74, q146_74n, q146_76, q146_77, q146_78, q146_81, q146_81n, q146_84, q146_85, q146_86, en_c0, en_f0_0, en_f0_1, en_f0_2, en_f0_3, en_f0_4, en_f0_5, en_f0_6, en_f0_7, en_f0_8, en_f0_9, en_p0_9, en_f0_10, en_p0_10, en_a2, en_l2, en_s2, en_a19, en_l19, en_s19, en_c20, en_f20_0, en_f20_1, en_f20_2, en_p20_2, en_f20_3, en_p20_3, en_f20_4, en_p20_4, en_f20_5, en_p20_5, en_f20_6, en_p20_6, en_f20_7, en_p20_7, en_f20_8, en_p20_8, en_f20_9, en_p20_9, en_f20_10, en_p20_10, en_f20_11, en_p20_11, en_f20_12, en_p20_12, en_f20_13, en_p20_13, en_f20_14, en_p20_14, en_a22, en_l22, en_s22, en_c23, en_f23_0, en_f23_1, en_f23_2, en_p23_2, en_f23_3, en_p23_3, en_f23_4, en_p23_4, en_f23_5, en_p23_5, en_f23_6, en_p23_6, en_f23_7, en_p23_7, en_f23_8, en_p23_8, en_f23_9, en_p23_9, en_f23_10, en_p23_10, en_f23_11, en_p23_11, en_f23_12, en_p23_12, en_f23_13, en_p23_13, en_f23_14, en_p23_14, en_c26, en_f26_0, en_f26_1, en_f26_2, en_p26_2, en_f26_3, en_p26_3, en_f26_4, en_p26_4, en_f26_5, en_p26_5, en_f26_6, en_p26_6, en_f26_7, en_p26_7, en_f26_8, en_p26_8, en_f26_9, en_p26_9, en_f26_10, en_p26_10, en_f26_11, en_p26_11, en_f26_12, en_p26_12, en_f26_13, en_p26_13, en_f26_14, en_p26_14, en_c34, en_f34_0, en_f34_1, en_p34_1, en_f34_2, en_p34_2, en_a35, en_l35, en_s35, as_10, as_01, Nat.reduceBEq, Nat.reduceEqDiff, ↓reduceIte, Option.bind_some, Option.getD_some, Option.isSome_some, Option.isSome_none, Bool.false_eq_true, Option.toList, List.nil_append, List.cons_append, List.lookup, Option.isSome, List.getElem?_cons_zero, List.getElem?_cons_succ, beq_self_eq_true, if_true, true_or, or_true, or_false, false_or, am_kl, true_and, and_true, and_false, false_and, if_false, not_true_eq_false, not_false_eq_true, as_b0, as_b1, as_em, as_ne, List.length_cons, List.length_nil, Nat.reduceAdd, Int32.reduceLT, Int32.reduceLE, Int32.reduceAdd, Int32.reduceSub, Int32.neg_neg, Int32.reduceMul, Int32.reduceToNatClampNeg, Nat.reduceLeDiff, Nat.reduceLT, List.set_cons_zero, List.set_cons_succ, List.length_set, en_at, en_uu, en_gd, c12, z30, hc, h1, en_clsQ hQ, wc, hrl, as_z00, as_q2_0, as_q2_1])
            (by
              rw [as_mt (n := 4) (by decide +kernel), show am_ent 4 [.ref 36, .int x, .int 1, .int y] = [some (.ref 36), some (.int x), some (.int 1), some (.int y)] from rfl]
              simp only [q244_0, q244_1, q244_2, q244_5, q244_6, q244_7, q244_10, q244_13, q244_14, q244_17, q244_18, q244_19, q244_22, q244_23, q244_24, q244_25, q244_28, q244_29, q244_30, q244_31, q244_34, q244_37, q244_38, q244_39, q244_42, q244_43, q244_44, q244_45, q244_48, q244_51, q244_52, q244_53, q244_54, q244_57, en_c36, en_f36_0, en_p36_0, en_f36_1, en_p36_1, en_f36_2, en_p36_2, en_f36_3, en_p36_3, en_f36_4, en_p36_4, en_f36_5, en_p36_5, en_f36_6, en_p36_6, en_f36_7, en_p36_7, en_f36_8, en_p36_8, en_f36_9, en_p36_9, en_f36_10, en_p36_10, en_f36_11, en_p36_11, en_f36_12, en_p36_12, en_f36_13, en_p36_13, en_f36_14, en_f36_15, en_f36_16, en_f36_17, en_f36_18, en_f36_19, en_f36_20, en_f36_21, en_f36_22, en_f36_23, en_f36_24, en_f36_25, en_f36_26, en_f36_27, en_f36_28, en_f36_29, en_p36_29, en_f36_30, en_p36_30, en_f36_31, en_p36_31, en_f36_32, en_p36_32, en_f36_33, en_p36_33, en_f36_34, en_f36_35, en_f36_36, en_f36_37, en_f36_38, en_p36_38, en_f36_39, en_f36_40, en_p36_40, en_f36_41, en_p36_41, en_a37, en_l37, en_s37, en_a38, en_l38, en_s38, en_a39, en_l39, en_s39, en_a40, en_l40, en_s40, en_a41, en_l41, en_s41, en_a42, en_l42, en_s42, en_a43, en_l43, en_s43, en_a44, en_l44, en_s44, en_a45, en_l45, en_s45, en_a46, en_l46, en_s46, en_a47, en_l47, en_a48, en_l48, en_a49, en_l49, en_a50, en_l50, en_a51, en_l51, en_s51, en_a52, en_l52, en_s52, en_a53, en_l53, en_s53, en_a54, en_l54, en_s54, en_a55, en_l55, en_s55, en_a56, en_l56, en_s56, as_10, as_01, Nat.reduceBEq, Nat.reduceEqDiff, ↓reduceIte, Option.bind_some, Option.getD_some, Option.isSome_some, Option.isSome_none, Bool.false_eq_true, Option.toList, List.nil_append, List.cons_append, List.lookup, Option.isSome, List.getElem?_cons_zero, List.getElem?_cons_succ, beq_self_eq_true, if_true, true_or, or_true, or_false, false_or, am_kl, true_and, and_true, and_false, false_and, if_false, not_true_eq_false, not_false_eq_true, as_b0, as_b1, as_em, as_ne, List.length_cons, List.length_nil, Nat.reduceAdd, Int32.reduceLT, Int32.reduceLE, Int32.reduceAdd, Int32.reduceSub, Int32.neg_neg, Int32.reduceMul, Int32.reduceToNatClampNeg, Nat.reduceLeDiff, Nat.reduceLT, List.set_cons_zero, List.set_cons_succ, List.length_set, en_at, en_uu, en_gd, ct_172, e36, hc, x0, x1, wm, as_z00, as_q2_0, as_q2_1])
            (by decide) (by rw [md_tpL_len]; exact hrl) (by rw [md_tp_len]; exact t2) (md_tp_both [30, 11, 10] _ _ 0 (by rw [hrl]; decide) (by rw [t2]; decide) (fun i hi => absurd hi (by omega)))
        · have wc := fun (I : Nat → Nat → Int32) (L : Nat → List Int64) (h1 : (L 35).length = 160) (h2 : I 34 2 = Int32.ofNat 0) => cl_155_3 (X := X) (I := I) (A := A) (L := L) (V := V) (W := W) (Q := Q) (v := y) (r := 0) hQ h1 h2 (by decide)
          have wm := fun (I : Nat → Nat → Int32) (L : Nat → List Int64) (h2 : I 36 40 = Int32.ofNat 0) => ct_248 (X := X) (I := I) (A := A) (L := L) (V := V) (W := W) (Q := Q) (v := y) (r := 0) hpd ‹md_q pd x = some (3, a)› t2 h2 (by decide)
          simp only [md_sb, md_lv, md_sv, md_bv, md_lb, md_sb, md_bb, List.length_cons, List.length_nil, List.cons_append, List.nil_append, Nat.zero_add, Nat.reduceAdd] at wc wm
          exact md_stTR (v := .int ((y + x) * 2)) (n := 2) (l := md_tpL (List.replicate 160 0) 0 [11, 10]) (a := md_tp (A 56) 0 [11, 10]) hR
            (by
              rw [as_mt (n := 5) (by decide +kernel), show am_ent 5 [.ref 0, .int x, .int 1, .int y] = [some (.ref 0), some (.int x), some (.int 1), some (.int y), none] from rfl]
              simp only [q146_0, q146_1, q146_4, q146_5, q146_6, q146_9, q146_10, q146_13, q146_14, q146_17, q146_17n, q146_19, q146_19n, q146_21n, q146_21, q146_24, q146_25, q146_26, q146_27, q146_52, q146_52n, q146_54, q146_55, q146_56, q146_59, q146_59n, q146_62, q146_63, q146_63n, q146_65, q146_66, q146_67, q146_70, q146_70n, q146_73, q146_74, q146_74n, q146_76, q146_77, q146_78, q146_81, q146_81n, q146_84, q146_85, q146_86, en_c0, en_f0_0, en_f0_1, en_f0_2, en_f0_3, en_f0_4, en_f0_5, en_f0_6, en_f0_7, en_f0_8, en_f0_9, en_p0_9, en_f0_10, en_p0_10, en_a2, en_l2, en_s2, en_a19, en_l19, en_s19, en_c20, en_f20_0, en_f20_1, en_f20_2, en_p20_2, en_f20_3, en_p20_3, en_f20_4, en_p20_4, en_f20_5, en_p20_5, en_f20_6, en_p20_6, en_f20_7, en_p20_7, en_f20_8, en_p20_8, en_f20_9, en_p20_9, en_f20_10, en_p20_10, en_f20_11, en_p20_11, en_f20_12, en_p20_12, en_f20_13, en_p20_13, en_f20_14, en_p20_14, en_a22, en_l22, en_s22, en_c23, en_f23_0, en_f23_1, en_f23_2, en_p23_2, en_f23_3, en_p23_3, en_f23_4, en_p23_4, en_f23_5, en_p23_5, en_f23_6, en_p23_6, en_f23_7, en_p23_7, en_f23_8, en_p23_8, en_f23_9, en_p23_9, en_f23_10, en_p23_10, en_f23_11, en_p23_11, en_f23_12, en_p23_12, en_f23_13, en_p23_13, en_f23_14, en_p23_14, en_c26, en_f26_0, en_f26_1, en_f26_2, en_p26_2, en_f26_3, en_p26_3, en_f26_4, en_p26_4, en_f26_5, en_p26_5, en_f26_6, en_p26_6, en_f26_7, en_p26_7, en_f26_8, en_p26_8, en_f26_9, en_p26_9, en_f26_10, en_p26_10, en_f26_11, en_p26_11, en_f26_12, en_p26_12, en_f26_13, en_p26_13, en_f26_14, en_p26_14, en_c34, en_f34_0, en_f34_1, en_p34_1, en_f34_2, en_p34_2, en_a35, en_l35, en_s35, as_10, as_01, Nat.reduceBEq, Nat.reduceEqDiff, ↓reduceIte, Option.bind_some, Option.getD_some, Option.isSome_some, Option.isSome_none, Bool.false_eq_true, Option.toList, List.nil_append, List.cons_append, List.lookup, Option.isSome, List.getElem?_cons_zero, List.getElem?_cons_succ, beq_self_eq_true, if_true, true_or, or_true, or_false, false_or, am_kl, true_and, and_true, and_false, false_and, if_false, not_true_eq_false, not_false_eq_true, as_b0, as_b1, as_em, as_ne, List.length_cons, List.length_nil, Nat.reduceAdd, Int32.reduceLT, Int32.reduceLE, Int32.reduceAdd, Int32.reduceSub, Int32.neg_neg, Int32.reduceMul, Int32.reduceToNatClampNeg, Nat.reduceLeDiff, Nat.reduceLT, List.set_cons_zero, List.set_cons_succ, List.length_set, en_at, en_uu, en_gd, c12, z30, hc, h1, en_clsQ hQ, wc, hrl, as_z00, as_q2_0, as_q2_1])
            (by
              rw [as_mt (n := 4) (by decide +kernel), show am_ent 4 [.ref 36, .int x, .int 1, .int y] = [some (.ref 36), some (.int x), some (.int 1), some (.int y)] from rfl]
              simp only [q244_0, q244_1, q244_2, q244_5, q244_6, q244_7, q244_10, q244_13, q244_14, q244_17, q244_18, q244_19, q244_22, q244_23, q244_24, q244_25, q244_28, q244_29, q244_30, q244_31, q244_34, q244_37, q244_38, q244_39, q244_42, q244_43, q244_44, q244_45, q244_48, q244_51, q244_52, q244_53, q244_54, q244_57, en_c36, en_f36_0, en_p36_0, en_f36_1, en_p36_1, en_f36_2, en_p36_2, en_f36_3, en_p36_3, en_f36_4, en_p36_4, en_f36_5, en_p36_5, en_f36_6, en_p36_6, en_f36_7, en_p36_7, en_f36_8, en_p36_8, en_f36_9, en_p36_9, en_f36_10, en_p36_10, en_f36_11, en_p36_11, en_f36_12, en_p36_12, en_f36_13, en_p36_13, en_f36_14, en_f36_15, en_f36_16, en_f36_17, en_f36_18, en_f36_19, en_f36_20, en_f36_21, en_f36_22, en_f36_23, en_f36_24, en_f36_25, en_f36_26, en_f36_27, en_f36_28, en_f36_29, en_p36_29, en_f36_30, en_p36_30, en_f36_31, en_p36_31, en_f36_32, en_p36_32, en_f36_33, en_p36_33, en_f36_34, en_f36_35, en_f36_36, en_f36_37, en_f36_38, en_p36_38, en_f36_39, en_f36_40, en_p36_40, en_f36_41, en_p36_41, en_a37, en_l37, en_s37, en_a38, en_l38, en_s38, en_a39, en_l39, en_s39, en_a40, en_l40, en_s40, en_a41, en_l41, en_s41, en_a42, en_l42, en_s42, en_a43, en_l43, en_s43, en_a44, en_l44, en_s44, en_a45, en_l45, en_s45, en_a46, en_l46, en_s46, en_a47, en_l47, en_a48, en_l48, en_a49, en_l49, en_a50, en_l50, en_a51, en_l51, en_s51, en_a52, en_l52, en_s52, en_a53, en_l53, en_s53, en_a54, en_l54, en_s54, en_a55, en_l55, en_s55, en_a56, en_l56, en_s56, as_10, as_01, Nat.reduceBEq, Nat.reduceEqDiff, ↓reduceIte, Option.bind_some, Option.getD_some, Option.isSome_some, Option.isSome_none, Bool.false_eq_true, Option.toList, List.nil_append, List.cons_append, List.lookup, Option.isSome, List.getElem?_cons_zero, List.getElem?_cons_succ, beq_self_eq_true, if_true, true_or, or_true, or_false, false_or, am_kl, true_and, and_true, and_false, false_and, if_false, not_true_eq_false, not_false_eq_true, as_b0, as_b1, as_em, as_ne, List.length_cons, List.length_nil, Nat.reduceAdd, Int32.reduceLT, Int32.reduceLE, Int32.reduceAdd, Int32.reduceSub, Int32.neg_neg, Int32.reduceMul, Int32.reduceToNatClampNeg, Nat.reduceLeDiff, Nat.reduceLT, List.set_cons_zero, List.set_cons_succ, List.length_set, en_at, en_uu, en_gd, ct_172, e36, hc, x0, x1, wm, as_z00, as_q2_0, as_q2_1])
            (by decide) (by rw [md_tpL_len]; exact hrl) (by rw [md_tp_len]; exact t2) (md_tp_both [11, 10] _ _ 0 (by rw [hrl]; decide) (by rw [t2]; decide) (fun i hi => absurd hi (by omega)))
        · have wc := fun (I : Nat → Nat → Int32) (L : Nat → List Int64) (h1 : (L 35).length = 160) (h2 : I 34 2 = Int32.ofNat 0) => cl_155_4 (X := X) (I := I) (A := A) (L := L) (V := V) (W := W) (Q := Q) (v := y) (r := 0) hQ h1 h2 (by decide)
          have wm := fun (I : Nat → Nat → Int32) (L : Nat → List Int64) (h2 : I 36 40 = Int32.ofNat 0) => ct_248 (X := X) (I := I) (A := A) (L := L) (V := V) (W := W) (Q := Q) (v := y) (r := 0) hpd ‹md_q pd x = some (4, a)› t2 h2 (by decide)
          simp only [md_sb, md_lv, md_sv, md_bv, md_lb, md_sb, md_bb, List.length_cons, List.length_nil, List.cons_append, List.nil_append, Nat.zero_add, Nat.reduceAdd] at wc wm
          exact md_stTR (v := .int ((y + x + a) * 2)) (n := 3) (l := md_tpL (List.replicate 160 0) 0 [11, 20, 10]) (a := md_tp (A 56) 0 [11, 20, 10]) hR
            (by
              rw [as_mt (n := 5) (by decide +kernel), show am_ent 5 [.ref 0, .int x, .int 1, .int y] = [some (.ref 0), some (.int x), some (.int 1), some (.int y), none] from rfl]
              simp only [q146_0, q146_1, q146_4, q146_5, q146_6, q146_9, q146_10, q146_13, q146_14, q146_17, q146_17n, q146_19, q146_19n, q146_21n, q146_21, q146_24, q146_25, q146_26, q146_27, q146_52, q146_52n, q146_54, q146_55, q146_56, q146_59, q146_59n, q146_62, q146_63, q146_63n, q146_65, q146_66, q146_67, q146_70, q146_70n, q146_73, q146_74, q146_74n, q146_76, q146_77, q146_78, q146_81, q146_81n, q146_84, q146_85, q146_86, en_c0, en_f0_0, en_f0_1, en_f0_2, en_f0_3, en_f0_4, en_f0_5, en_f0_6, en_f0_7, en_f0_8, en_f0_9, en_p0_9, en_f0_10, en_p0_10, en_a2, en_l2, en_s2, en_a19, en_l19, en_s19, en_c20, en_f20_0, en_f20_1, en_f20_2, en_p20_2, en_f20_3, en_p20_3, en_f20_4, en_p20_4, en_f20_5, en_p20_5, en_f20_6, en_p20_6, en_f20_7, en_p20_7, en_f20_8, en_p20_8, en_f20_9, en_p20_9, en_f20_10, en_p20_10, en_f20_11, en_p20_11, en_f20_12, en_p20_12, en_f20_13, en_p20_13, en_f20_14, en_p20_14, en_a22, en_l22, en_s22, en_c23, en_f23_0, en_f23_1, en_f23_2, en_p23_2, en_f23_3, en_p23_3, en_f23_4, en_p23_4, en_f23_5, en_p23_5, en_f23_6, en_p23_6, en_f23_7, en_p23_7, en_f23_8, en_p23_8, en_f23_9, en_p23_9, en_f23_10, en_p23_10, en_f23_11, en_p23_11, en_f23_12, en_p23_12, en_f23_13, en_p23_13, en_f23_14, en_p23_14, en_c26, en_f26_0, en_f26_1, en_f26_2, en_p26_2, en_f26_3, en_p26_3, en_f26_4, en_p26_4, en_f26_5, en_p26_5, en_f26_6, en_p26_6, en_f26_7, en_p26_7, en_f26_8, en_p26_8, en_f26_9, en_p26_9, en_f26_10, en_p26_10, en_f26_11, en_p26_11, en_f26_12, en_p26_12, en_f26_13, en_p26_13, en_f26_14, en_p26_14, en_c34, en_f34_0, en_f34_1, en_p34_1, en_f34_2, en_p34_2, en_a35, en_l35, en_s35, as_10, as_01, Nat.reduceBEq, Nat.reduceEqDiff, ↓reduceIte, Option.bind_some, Option.getD_some, Option.isSome_some, Option.isSome_none, Bool.false_eq_true, Option.toList, List.nil_append, List.cons_append, List.lookup, Option.isSome, List.getElem?_cons_zero, List.getElem?_cons_succ, beq_self_eq_true, if_true, true_or, or_true, or_false, false_or, am_kl, true_and, and_true, and_false, false_and, if_false, not_true_eq_false, not_false_eq_true, as_b0, as_b1, as_em, as_ne, List.length_cons, List.length_nil, Nat.reduceAdd, Int32.reduceLT, Int32.reduceLE, Int32.reduceAdd, Int32.reduceSub, Int32.neg_neg, Int32.reduceMul, Int32.reduceToNatClampNeg, Nat.reduceLeDiff, Nat.reduceLT, List.set_cons_zero, List.set_cons_succ, List.length_set, en_at, en_uu, en_gd, c12, z30, hc, h1, en_clsQ hQ, wc, hrl, as_z00, as_q2_0, as_q2_1])
            (by
              rw [as_mt (n := 4) (by decide +kernel), show am_ent 4 [.ref 36, .int x, .int 1, .int y] = [some (.ref 36), some (.int x), some (.int 1), some (.int y)] from rfl]
              simp only [q244_0, q244_1, q244_2, q244_5, q244_6, q244_7, q244_10, q244_13, q244_14, q244_17, q244_18, q244_19, q244_22, q244_23, q244_24, q244_25, q244_28, q244_29, q244_30, q244_31, q244_34, q244_37, q244_38, q244_39, q244_42, q244_43, q244_44, q244_45, q244_48, q244_51, q244_52, q244_53, q244_54, q244_57, en_c36, en_f36_0, en_p36_0, en_f36_1, en_p36_1, en_f36_2, en_p36_2, en_f36_3, en_p36_3, en_f36_4, en_p36_4, en_f36_5, en_p36_5, en_f36_6, en_p36_6, en_f36_7, en_p36_7, en_f36_8, en_p36_8, en_f36_9, en_p36_9, en_f36_10, en_p36_10, en_f36_11, en_p36_11, en_f36_12, en_p36_12, en_f36_13, en_p36_13, en_f36_14, en_f36_15, en_f36_16, en_f36_17, en_f36_18, en_f36_19, en_f36_20, en_f36_21, en_f36_22, en_f36_23, en_f36_24, en_f36_25, en_f36_26, en_f36_27, en_f36_28, en_f36_29, en_p36_29, en_f36_30, en_p36_30, en_f36_31, en_p36_31, en_f36_32, en_p36_32, en_f36_33, en_p36_33, en_f36_34, en_f36_35, en_f36_36, en_f36_37, en_f36_38, en_p36_38, en_f36_39, en_f36_40, en_p36_40, en_f36_41, en_p36_41, en_a37, en_l37, en_s37, en_a38, en_l38, en_s38, en_a39, en_l39, en_s39, en_a40, en_l40, en_s40, en_a41, en_l41, en_s41, en_a42, en_l42, en_s42, en_a43, en_l43, en_s43, en_a44, en_l44, en_s44, en_a45, en_l45, en_s45, en_a46, en_l46, en_s46, en_a47, en_l47, en_a48, en_l48, en_a49, en_l49, en_a50, en_l50, en_a51, en_l51, en_s51, en_a52, en_l52, en_s52, en_a53, en_l53, en_s53, en_a54, en_l54, en_s54, en_a55, en_l55, en_s55, en_a56, en_l56, en_s56, as_10, as_01, Nat.reduceBEq, Nat.reduceEqDiff, ↓reduceIte, Option.bind_some, Option.getD_some, Option.isSome_some, Option.isSome_none, Bool.false_eq_true, Option.toList, List.nil_append, List.cons_append, List.lookup, Option.isSome, List.getElem?_cons_zero, List.getElem?_cons_succ, beq_self_eq_true, if_true, true_or, or_true, or_false, false_or, am_kl, true_and, and_true, and_false, false_and, if_false, not_true_eq_false, not_false_eq_true, as_b0, as_b1, as_em, as_ne, List.length_cons, List.length_nil, Nat.reduceAdd, Int32.reduceLT, Int32.reduceLE, Int32.reduceAdd, Int32.reduceSub, Int32.neg_neg, Int32.reduceMul, Int32.reduceToNatClampNeg, Nat.reduceLeDiff, Nat.reduceLT, List.set_cons_zero, List.set_cons_succ, List.length_set, en_at, en_uu, en_gd, ct_172, e36, hc, x0, x1, wm, as_z00, as_q2_0, as_q2_1])
            (by decide) (by rw [md_tpL_len]; exact hrl) (by rw [md_tp_len]; exact t2) (md_tp_both [11, 20, 10] _ _ 0 (by rw [hrl]; decide) (by rw [t2]; decide) (fun i hi => absurd hi (by omega)))
        · have wc := fun (I : Nat → Nat → Int32) (L : Nat → List Int64) (h1 : (L 35).length = 160) (h2 : I 34 2 = Int32.ofNat 0) => cl_155_6 (X := X) (I := I) (A := A) (L := L) (V := V) (W := W) (Q := Q) (v := y) (r := 0) hQ h1 h2 (by decide)
          have wm := fun (I : Nat → Nat → Int32) (L : Nat → List Int64) (h2 : I 36 40 = Int32.ofNat 0) => ct_248 (X := X) (I := I) (A := A) (L := L) (V := V) (W := W) (Q := Q) (v := y) (r := 0) hpd ‹md_q pd x = some (6, a)› t2 h2 (by decide)
          simp only [md_sb, md_lv, md_sv, md_bv, md_lb, md_sb, md_bb, List.length_cons, List.length_nil, List.cons_append, List.nil_append, Nat.zero_add, Nat.reduceAdd] at wc wm
          exact md_stTR (v := .int ((y + x - x) * 2)) (n := 3) (l := md_tpL (List.replicate 160 0) 0 [11, 51, 10]) (a := md_tp (A 56) 0 [11, 51, 10]) hR
            (by
              rw [as_mt (n := 5) (by decide +kernel), show am_ent 5 [.ref 0, .int x, .int 1, .int y] = [some (.ref 0), some (.int x), some (.int 1), some (.int y), none] from rfl]
              simp only [q146_0, q146_1, q146_4, q146_5, q146_6, q146_9, q146_10, q146_13, q146_14, q146_17, q146_17n, q146_19, q146_19n, q146_21n, q146_21, q146_24, q146_25, q146_26, q146_27, q146_52, q146_52n, q146_54, q146_55, q146_56, q146_59, q146_59n, q146_62, q146_63, q146_63n, q146_65, q146_66, q146_67, q146_70, q146_70n, q146_73, q146_74, q146_74n, q146_76, q146_77, q146_78, q146_81, q146_81n, q146_84, q146_85, q146_86, en_c0, en_f0_0, en_f0_1, en_f0_2, en_f0_3, en_f0_4, en_f0_5, en_f0_6, en_f0_7, en_f0_8, en_f0_9, en_p0_9, en_f0_10, en_p0_10, en_a2, en_l2, en_s2, en_a19, en_l19, en_s19, en_c20, en_f20_0, en_f20_1, en_f20_2, en_p20_2, en_f20_3, en_p20_3, en_f20_4, en_p20_4, en_f20_5, en_p20_5, en_f20_6, en_p20_6, en_f20_7, en_p20_7, en_f20_8, en_p20_8, en_f20_9, en_p20_9, en_f20_10, en_p20_10, en_f20_11, en_p20_11, en_f20_12, en_p20_12, en_f20_13, en_p20_13, en_f20_14, en_p20_14, en_a22, en_l22, en_s22, en_c23, en_f23_0, en_f23_1, en_f23_2, en_p23_2, en_f23_3, en_p23_3, en_f23_4, en_p23_4, en_f23_5, en_p23_5, en_f23_6, en_p23_6, en_f23_7, en_p23_7, en_f23_8, en_p23_8, en_f23_9, en_p23_9, en_f23_10, en_p23_10, en_f23_11, en_p23_11, en_f23_12, en_p23_12, en_f23_13, en_p23_13, en_f23_14, en_p23_14, en_c26, en_f26_0, en_f26_1, en_f26_2, en_p26_2, en_f26_3, en_p26_3, en_f26_4, en_p26_4, en_f26_5, en_p26_5, en_f26_6, en_p26_6, en_f26_7, en_p26_7, en_f26_8, en_p26_8, en_f26_9, en_p26_9, en_f26_10, en_p26_10, en_f26_11, en_p26_11, en_f26_12, en_p26_12, en_f26_13, en_p26_13, en_f26_14, en_p26_14, en_c34, en_f34_0, en_f34_1, en_p34_1, en_f34_2, en_p34_2, en_a35, en_l35, en_s35, as_10, as_01, Nat.reduceBEq, Nat.reduceEqDiff, ↓reduceIte, Option.bind_some, Option.getD_some, Option.isSome_some, Option.isSome_none, Bool.false_eq_true, Option.toList, List.nil_append, List.cons_append, List.lookup, Option.isSome, List.getElem?_cons_zero, List.getElem?_cons_succ, beq_self_eq_true, if_true, true_or, or_true, or_false, false_or, am_kl, true_and, and_true, and_false, false_and, if_false, not_true_eq_false, not_false_eq_true, as_b0, as_b1, as_em, as_ne, List.length_cons, List.length_nil, Nat.reduceAdd, Int32.reduceLT, Int32.reduceLE, Int32.reduceAdd, Int32.reduceSub, Int32.neg_neg, Int32.reduceMul, Int32.reduceToNatClampNeg, Nat.reduceLeDiff, Nat.reduceLT, List.set_cons_zero, List.set_cons_succ, List.length_set, en_at, en_uu, en_gd, c12, z30, hc, h1, en_clsQ hQ, wc, hrl, as_z00, as_q2_0, as_q2_1])
            (by
              rw [as_mt (n := 4) (by decide +kernel), show am_ent 4 [.ref 36, .int x, .int 1, .int y] = [some (.ref 36), some (.int x), some (.int 1), some (.int y)] from rfl]
              simp only [q244_0, q244_1, q244_2, q244_5, q244_6, q244_7, q244_10, q244_13, q244_14, q244_17, q244_18, q244_19, q244_22, q244_23, q244_24, q244_25, q244_28, q244_29, q244_30, q244_31, q244_34, q244_37, q244_38, q244_39, q244_42, q244_43, q244_44, q244_45, q244_48, q244_51, q244_52, q244_53, q244_54, q244_57, en_c36, en_f36_0, en_p36_0, en_f36_1, en_p36_1, en_f36_2, en_p36_2, en_f36_3, en_p36_3, en_f36_4, en_p36_4, en_f36_5, en_p36_5, en_f36_6, en_p36_6, en_f36_7, en_p36_7, en_f36_8, en_p36_8, en_f36_9, en_p36_9, en_f36_10, en_p36_10, en_f36_11, en_p36_11, en_f36_12, en_p36_12, en_f36_13, en_p36_13, en_f36_14, en_f36_15, en_f36_16, en_f36_17, en_f36_18, en_f36_19, en_f36_20, en_f36_21, en_f36_22, en_f36_23, en_f36_24, en_f36_25, en_f36_26, en_f36_27, en_f36_28, en_f36_29, en_p36_29, en_f36_30, en_p36_30, en_f36_31, en_p36_31, en_f36_32, en_p36_32, en_f36_33, en_p36_33, en_f36_34, en_f36_35, en_f36_36, en_f36_37, en_f36_38, en_p36_38, en_f36_39, en_f36_40, en_p36_40, en_f36_41, en_p36_41, en_a37, en_l37, en_s37, en_a38, en_l38, en_s38, en_a39, en_l39, en_s39, en_a40, en_l40, en_s40, en_a41, en_l41, en_s41, en_a42, en_l42, en_s42, en_a43, en_l43, en_s43, en_a44, en_l44, en_s44, en_a45, en_l45, en_s45, en_a46, en_l46, en_s46, en_a47, en_l47, en_a48, en_l48, en_a49, en_l49, en_a50, en_l50, en_a51, en_l51, en_s51, en_a52, en_l52, en_s52, en_a53, en_l53, en_s53, en_a54, en_l54, en_s54, en_a55, en_l55, en_s55, en_a56, en_l56, en_s56, as_10, as_01, Nat.reduceBEq, Nat.reduceEqDiff, ↓reduceIte, Option.bind_some, Option.getD_some, Option.isSome_some, Option.isSome_none, Bool.false_eq_true, Option.toList, List.nil_append, List.cons_append, List.lookup, Option.isSome, List.getElem?_cons_zero, List.getElem?_cons_succ, beq_self_eq_true, if_true, true_or, or_true, or_false, false_or, am_kl, true_and, and_true, and_false, false_and, if_false, not_true_eq_false, not_false_eq_true, as_b0, as_b1, as_em, as_ne, List.length_cons, List.length_nil, Nat.reduceAdd, Int32.reduceLT, Int32.reduceLE, Int32.reduceAdd, Int32.reduceSub, Int32.neg_neg, Int32.reduceMul, Int32.reduceToNatClampNeg, Nat.reduceLeDiff, Nat.reduceLT, List.set_cons_zero, List.set_cons_succ, List.length_set, en_at, en_uu, en_gd, ct_172, e36, hc, x0, x1, wm, as_z00, as_q2_0, as_q2_1])
            (by decide) (by rw [md_tpL_len]; exact hrl) (by rw [md_tp_len]; exact t2) (md_tp_both [11, 51, 10] _ _ 0 (by rw [hrl]; decide) (by rw [t2]; decide) (fun i hi => absurd hi (by omega)))
        · have wc := fun (I : Nat → Nat → Int32) (L : Nat → List Int64) (h1 : (L 35).length = 160) (h2 : I 34 2 = Int32.ofNat 0) => cl_155_7 (X := X) (I := I) (A := A) (L := L) (V := V) (W := W) (Q := Q) (v := y) (r := 0) hQ h1 h2 (by decide)
          have wm := fun (I : Nat → Nat → Int32) (L : Nat → List Int64) (h2 : I 36 40 = Int32.ofNat 0) => ct_248 (X := X) (I := I) (A := A) (L := L) (V := V) (W := W) (Q := Q) (v := y) (r := 0) hpd ‹md_q pd x = some (7, a)› t2 h2 (by decide)
          simp only [md_sb, md_lv, md_sv, md_bv, md_lb, md_sb, md_bb, List.length_cons, List.length_nil, List.cons_append, List.nil_append, Nat.zero_add, Nat.reduceAdd] at wc wm
          exact md_stTR (v := .int ((y + x + a) * 2)) (n := 3) (l := md_tpL (List.replicate 160 0) 0 [11, 20, 10]) (a := md_tp (A 56) 0 [11, 20, 10]) hR
            (by
              rw [as_mt (n := 5) (by decide +kernel), show am_ent 5 [.ref 0, .int x, .int 1, .int y] = [some (.ref 0), some (.int x), some (.int 1), some (.int y), none] from rfl]
              simp only [q146_0, q146_1, q146_4, q146_5, q146_6, q146_9, q146_10, q146_13, q146_14, q146_17, q146_17n, q146_19, q146_19n, q146_21n, q146_21, q146_24, q146_25, q146_26, q146_27, q146_52, q146_52n, q146_54, q146_55, q146_56, q146_59, q146_59n, q146_62, q146_63, q146_63n, q146_65, q146_66, q146_67, q146_70, q146_70n, q146_73, q146_74, q146_74n, q146_76, q146_77, q146_78, q146_81, q146_81n, q146_84, q146_85, q146_86, en_c0, en_f0_0, en_f0_1, en_f0_2, en_f0_3, en_f0_4, en_f0_5, en_f0_6, en_f0_7, en_f0_8, en_f0_9, en_p0_9, en_f0_10, en_p0_10, en_a2, en_l2, en_s2, en_a19, en_l19, en_s19, en_c20, en_f20_0, en_f20_1, en_f20_2, en_p20_2, en_f20_3, en_p20_3, en_f20_4, en_p20_4, en_f20_5, en_p20_5, en_f20_6, en_p20_6, en_f20_7, en_p20_7, en_f20_8, en_p20_8, en_f20_9, en_p20_9, en_f20_10, en_p20_10, en_f20_11, en_p20_11, en_f20_12, en_p20_12, en_f20_13, en_p20_13, en_f20_14, en_p20_14, en_a22, en_l22, en_s22, en_c23, en_f23_0, en_f23_1, en_f23_2, en_p23_2, en_f23_3, en_p23_3, en_f23_4, en_p23_4, en_f23_5, en_p23_5, en_f23_6, en_p23_6, en_f23_7, en_p23_7, en_f23_8, en_p23_8, en_f23_9, en_p23_9, en_f23_10, en_p23_10, en_f23_11, en_p23_11, en_f23_12, en_p23_12, en_f23_13, en_p23_13, en_f23_14, en_p23_14, en_c26, en_f26_0, en_f26_1, en_f26_2, en_p26_2, en_f26_3, en_p26_3, en_f26_4, en_p26_4, en_f26_5, en_p26_5, en_f26_6, en_p26_6, en_f26_7, en_p26_7, en_f26_8, en_p26_8, en_f26_9, en_p26_9, en_f26_10, en_p26_10, en_f26_11, en_p26_11, en_f26_12, en_p26_12, en_f26_13, en_p26_13, en_f26_14, en_p26_14, en_c34, en_f34_0, en_f34_1, en_p34_1, en_f34_2, en_p34_2, en_a35, en_l35, en_s35, as_10, as_01, Nat.reduceBEq, Nat.reduceEqDiff, ↓reduceIte, Option.bind_some, Option.getD_some, Option.isSome_some, Option.isSome_none, Bool.false_eq_true, Option.toList, List.nil_append, List.cons_append, List.lookup, Option.isSome, List.getElem?_cons_zero, List.getElem?_cons_succ, beq_self_eq_true, if_true, true_or, or_true, or_false, false_or, am_kl, true_and, and_true, and_false, false_and, if_false, not_true_eq_false, not_false_eq_true, as_b0, as_b1, as_em, as_ne, List.length_cons, List.length_nil, Nat.reduceAdd, Int32.reduceLT, Int32.reduceLE, Int32.reduceAdd, Int32.reduceSub, Int32.neg_neg, Int32.reduceMul, Int32.reduceToNatClampNeg, Nat.reduceLeDiff, Nat.reduceLT, List.set_cons_zero, List.set_cons_succ, List.length_set, en_at, en_uu, en_gd, c12, z30, hc, h1, en_clsQ hQ, wc, hrl, as_z00, as_q2_0, as_q2_1])
            (by
              rw [as_mt (n := 4) (by decide +kernel), show am_ent 4 [.ref 36, .int x, .int 1, .int y] = [some (.ref 36), some (.int x), some (.int 1), some (.int y)] from rfl]
              simp only [q244_0, q244_1, q244_2, q244_5, q244_6, q244_7, q244_10, q244_13, q244_14, q244_17, q244_18, q244_19, q244_22, q244_23, q244_24, q244_25, q244_28, q244_29, q244_30, q244_31, q244_34, q244_37, q244_38, q244_39, q244_42, q244_43, q244_44, q244_45, q244_48, q244_51, q244_52, q244_53, q244_54, q244_57, en_c36, en_f36_0, en_p36_0, en_f36_1, en_p36_1, en_f36_2, en_p36_2, en_f36_3, en_p36_3, en_f36_4, en_p36_4, en_f36_5, en_p36_5, en_f36_6, en_p36_6, en_f36_7, en_p36_7, en_f36_8, en_p36_8, en_f36_9, en_p36_9, en_f36_10, en_p36_10, en_f36_11, en_p36_11, en_f36_12, en_p36_12, en_f36_13, en_p36_13, en_f36_14, en_f36_15, en_f36_16, en_f36_17, en_f36_18, en_f36_19, en_f36_20, en_f36_21, en_f36_22, en_f36_23, en_f36_24, en_f36_25, en_f36_26, en_f36_27, en_f36_28, en_f36_29, en_p36_29, en_f36_30, en_p36_30, en_f36_31, en_p36_31, en_f36_32, en_p36_32, en_f36_33, en_p36_33, en_f36_34, en_f36_35, en_f36_36, en_f36_37, en_f36_38, en_p36_38, en_f36_39, en_f36_40, en_p36_40, en_f36_41, en_p36_41, en_a37, en_l37, en_s37, en_a38, en_l38, en_s38, en_a39, en_l39, en_s39, en_a40, en_l40, en_s40, en_a41, en_l41, en_s41, en_a42, en_l42, en_s42, en_a43, en_l43, en_s43, en_a44, en_l44, en_s44, en_a45, en_l45, en_s45, en_a46, en_l46, en_s46, en_a47, en_l47, en_a48, en_l48, en_a49, en_l49, en_a50, en_l50, en_a51, en_l51, en_s51, en_a52, en_l52, en_s52, en_a53, en_l53, en_s53, en_a54, en_l54, en_s54, en_a55, en_l55, en_s55, en_a56, en_l56, en_s56, as_10, as_01, Nat.reduceBEq, Nat.reduceEqDiff, ↓reduceIte, Option.bind_some, Option.getD_some, Option.isSome_some, Option.isSome_none, Bool.false_eq_true, Option.toList, List.nil_append, List.cons_append, List.lookup, Option.isSome, List.getElem?_cons_zero, List.getElem?_cons_succ, beq_self_eq_true, if_true, true_or, or_true, or_false, false_or, am_kl, true_and, and_true, and_false, false_and, if_false, not_true_eq_false, not_false_eq_true, as_b0, as_b1, as_em, as_ne, List.length_cons, List.length_nil, Nat.reduceAdd, Int32.reduceLT, Int32.reduceLE, Int32.reduceAdd, Int32.reduceSub, Int32.neg_neg, Int32.reduceMul, Int32.reduceToNatClampNeg, Nat.reduceLeDiff, Nat.reduceLT, List.set_cons_zero, List.set_cons_succ, List.length_set, en_at, en_uu, en_gd, ct_172, e36, hc, x0, x1, wm, as_z00, as_q2_0, as_q2_1])
            (by decide) (by rw [md_tpL_len]; exact hrl) (by rw [md_tp_len]; exact t2) (md_tp_both [11, 20, 10] _ _ 0 (by rw [hrl]; decide) (by rw [t2]; decide) (fun i hi => absurd hi (by omega)))
        · have wc := fun (I : Nat → Nat → Int32) (L : Nat → List Int64) (h1 : (L 35).length = 160) (h2 : I 34 2 = Int32.ofNat 0) => cl_154_8 (X := X) (I := I) (A := A) (L := L) (V := V) (W := W) (Q := Q) (v := y) (r := 0) hQ h1 h2 (by decide)
          have wm := fun (I : Nat → Nat → Int32) (L : Nat → List Int64) (h2 : I 36 40 = Int32.ofNat 0) => ct_248 (X := X) (I := I) (A := A) (L := L) (V := V) (W := W) (Q := Q) (v := y) (r := 0) hpd ‹md_q pd x = some (8, a)› t2 h2 (by decide)
          simp only [md_sb, md_lv, md_sv, md_bv, md_lb, md_sb, md_bb, List.length_cons, List.length_nil, List.cons_append, List.nil_append, Nat.zero_add, Nat.reduceAdd] at wc wm
          exact md_stTR (v := .int (((y + 1) + x + a) * 2)) (n := 4) (l := md_tpL (List.replicate 160 0) 0 [40, 11, 20, 10]) (a := md_tp (A 56) 0 [40, 11, 20, 10]) hR
            (by
              rw [as_mt (n := 5) (by decide +kernel), show am_ent 5 [.ref 0, .int x, .int 1, .int y] = [some (.ref 0), some (.int x), some (.int 1), some (.int y), none] from rfl]
              simp only [q146_0, q146_1, q146_4, q146_5, q146_6, q146_9, q146_10, q146_13, q146_14, q146_17, q146_17n, q146_19, q146_19n, q146_21n, q146_21, q146_24, q146_25, q146_26, q146_27, q146_52, q146_52n, q146_54, q146_55, q146_56, q146_59, q146_59n, q146_62, q146_63, q146_63n, q146_65, q146_66, q146_67, q146_70, q146_70n, q146_73, q146_74, q146_74n, q146_76, q146_77, q146_78, q146_81, q146_81n, q146_84, q146_85, q146_86, en_c0, en_f0_0, en_f0_1, en_f0_2, en_f0_3, en_f0_4, en_f0_5, en_f0_6, en_f0_7, en_f0_8, en_f0_9, en_p0_9, en_f0_10, en_p0_10, en_a2, en_l2, en_s2, en_a19, en_l19, en_s19, en_c20, en_f20_0, en_f20_1, en_f20_2, en_p20_2, en_f20_3, en_p20_3, en_f20_4, en_p20_4, en_f20_5, en_p20_5, en_f20_6, en_p20_6, en_f20_7, en_p20_7, en_f20_8, en_p20_8, en_f20_9, en_p20_9, en_f20_10, en_p20_10, en_f20_11, en_p20_11, en_f20_12, en_p20_12, en_f20_13, en_p20_13, en_f20_14, en_p20_14, en_a22, en_l22, en_s22, en_c23, en_f23_0, en_f23_1, en_f23_2, en_p23_2, en_f23_3, en_p23_3, en_f23_4, en_p23_4, en_f23_5, en_p23_5, en_f23_6, en_p23_6, en_f23_7, en_p23_7, en_f23_8, en_p23_8, en_f23_9, en_p23_9, en_f23_10, en_p23_10, en_f23_11, en_p23_11, en_f23_12, en_p23_12, en_f23_13, en_p23_13, en_f23_14, en_p23_14, en_c26, en_f26_0, en_f26_1, en_f26_2, en_p26_2, en_f26_3, en_p26_3, en_f26_4, en_p26_4, en_f26_5, en_p26_5, en_f26_6, en_p26_6, en_f26_7, en_p26_7, en_f26_8, en_p26_8, en_f26_9, en_p26_9, en_f26_10, en_p26_10, en_f26_11, en_p26_11, en_f26_12, en_p26_12, en_f26_13, en_p26_13, en_f26_14, en_p26_14, en_c34, en_f34_0, en_f34_1, en_p34_1, en_f34_2, en_p34_2, en_a35, en_l35, en_s35, as_10, as_01, Nat.reduceBEq, Nat.reduceEqDiff, ↓reduceIte, Option.bind_some, Option.getD_some, Option.isSome_some, Option.isSome_none, Bool.false_eq_true, Option.toList, List.nil_append, List.cons_append, List.lookup, Option.isSome, List.getElem?_cons_zero, List.getElem?_cons_succ, beq_self_eq_true, if_true, true_or, or_true, or_false, false_or, am_kl, true_and, and_true, and_false, false_and, if_false, not_true_eq_false, not_false_eq_true, as_b0, as_b1, as_em, as_ne, List.length_cons, List.length_nil, Nat.reduceAdd, Int32.reduceLT, Int32.reduceLE, Int32.reduceAdd, Int32.reduceSub, Int32.neg_neg, Int32.reduceMul, Int32.reduceToNatClampNeg, Nat.reduceLeDiff, Nat.reduceLT, List.set_cons_zero, List.set_cons_succ, List.length_set, en_at, en_uu, en_gd, c12, z30, hc, h1, en_clsQ hQ, wc, hrl, as_z00, as_q2_0, as_q2_1])
            (by
              rw [as_mt (n := 4) (by decide +kernel), show am_ent 4 [.ref 36, .int x, .int 1, .int y] = [some (.ref 36), some (.int x), some (.int 1), some (.int y)] from rfl]
              simp only [q244_0, q244_1, q244_2, q244_5, q244_6, q244_7, q244_10, q244_13, q244_14, q244_17, q244_18, q244_19, q244_22, q244_23, q244_24, q244_25, q244_28, q244_29, q244_30, q244_31, q244_34, q244_37, q244_38, q244_39, q244_42, q244_43, q244_44, q244_45, q244_48, q244_51, q244_52, q244_53, q244_54, q244_57, en_c36, en_f36_0, en_p36_0, en_f36_1, en_p36_1, en_f36_2, en_p36_2, en_f36_3, en_p36_3, en_f36_4, en_p36_4, en_f36_5, en_p36_5, en_f36_6, en_p36_6, en_f36_7, en_p36_7, en_f36_8, en_p36_8, en_f36_9, en_p36_9, en_f36_10, en_p36_10, en_f36_11, en_p36_11, en_f36_12, en_p36_12, en_f36_13, en_p36_13, en_f36_14, en_f36_15, en_f36_16, en_f36_17, en_f36_18, en_f36_19, en_f36_20, en_f36_21, en_f36_22, en_f36_23, en_f36_24, en_f36_25, en_f36_26, en_f36_27, en_f36_28, en_f36_29, en_p36_29, en_f36_30, en_p36_30, en_f36_31, en_p36_31, en_f36_32, en_p36_32, en_f36_33, en_p36_33, en_f36_34, en_f36_35, en_f36_36, en_f36_37, en_f36_38, en_p36_38, en_f36_39, en_f36_40, en_p36_40, en_f36_41, en_p36_41, en_a37, en_l37, en_s37, en_a38, en_l38, en_s38, en_a39, en_l39, en_s39, en_a40, en_l40, en_s40, en_a41, en_l41, en_s41, en_a42, en_l42, en_s42, en_a43, en_l43, en_s43, en_a44, en_l44, en_s44, en_a45, en_l45, en_s45, en_a46, en_l46, en_s46, en_a47, en_l47, en_a48, en_l48, en_a49, en_l49, en_a50, en_l50, en_a51, en_l51, en_s51, en_a52, en_l52, en_s52, en_a53, en_l53, en_s53, en_a54, en_l54, en_s54, en_a55, en_l55, en_s55, en_a56, en_l56, en_s56, as_10, as_01, Nat.reduceBEq, Nat.reduceEqDiff, ↓reduceIte, Option.bind_some, Option.getD_some, Option.isSome_some, Option.isSome_none, Bool.false_eq_true, Option.toList, List.nil_append, List.cons_append, List.lookup, Option.isSome, List.getElem?_cons_zero, List.getElem?_cons_succ, beq_self_eq_true, if_true, true_or, or_true, or_false, false_or, am_kl, true_and, and_true, and_false, false_and, if_false, not_true_eq_false, not_false_eq_true, as_b0, as_b1, as_em, as_ne, List.length_cons, List.length_nil, Nat.reduceAdd, Int32.reduceLT, Int32.reduceLE, Int32.reduceAdd, Int32.reduceSub, Int32.neg_neg, Int32.reduceMul, Int32.reduceToNatClampNeg, Nat.reduceLeDiff, Nat.reduceLT, List.set_cons_zero, List.set_cons_succ, List.length_set, en_at, en_uu, en_gd, ct_172, e36, hc, x0, x1, wm, as_z00, as_q2_0, as_q2_1])
            (by decide) (by rw [md_tpL_len]; exact hrl) (by rw [md_tp_len]; exact t2) (md_tp_both [40, 11, 20, 10] _ _ 0 (by rw [hrl]; decide) (by rw [t2]; decide) (fun i hi => absurd hi (by omega)))
      · by_cases a2 : act = 2
        · subst a2
          rcases hpc with rfl | rfl | rfl | rfl | rfl | rfl | rfl
          · have wc := fun (I : Nat → Nat → Int32) (L : Nat → List Int64) (h1 : (L 35).length = 160) (h2 : I 34 2 = Int32.ofNat 0) => cl_156_1 (X := X) (I := I) (A := A) (L := L) (V := V) (W := W) (Q := Q) (v := y) (r := 0) hQ h1 h2 (by decide)
            have wm := fun (I : Nat → Nat → Int32) (L : Nat → List Int64) (h2 : I 36 40 = Int32.ofNat 0) => ct_249 (X := X) (I := I) (A := A) (L := L) (V := V) (W := W) (Q := Q) (v := y) (r := 0) hpd ‹md_q pd x = some (1, a)› t2 h2 (by decide)
            simp only [md_bb, md_lv, md_sv, md_bv, md_lb, md_sb, md_bb, List.length_cons, List.length_nil, List.cons_append, List.nil_append, Nat.zero_add, Nat.reduceAdd] at wc wm
            exact md_stTR (v := .int (-(((((y - a) + x - x) * 2) * 2) ^^^ (((y - a) + x - x) * 2)))) (n := 10) (l := md_tpL (List.replicate 160 0) 0 [50, 12, 71, 11, 70, 51, 10, 70, 51, 10]) (a := md_tp (A 56) 0 [50, 12, 71, 11, 70, 51, 10, 70, 51, 10]) hR
              (by
                rw [as_mt (n := 5) (by decide +kernel), show am_ent 5 [.ref 0, .int x, .int 2, .int y] = [some (.ref 0), some (.int x), some (.int 2), some (.int y), none] from rfl]
                simp only [q146_0, q146_1, q146_4, q146_5, q146_6, q146_9, q146_10, q146_13, q146_14, q146_17, q146_17n, q146_19, q146_19n, q146_21n, q146_21, q146_24, q146_25, q146_26, q146_27, q146_52, q146_52n, q146_54, q146_55, q146_56, q146_59, q146_59n, q146_62, q146_63, q146_63n, q146_65, q146_66, q146_67, q146_70, q146_70n, q146_73, q146_74, q146_74n, q146_76, q146_77, q146_78, q146_81, q146_81n, q146_84, q146_85, q146_86, en_c0, en_f0_0, en_f0_1, en_f0_2, en_f0_3, en_f0_4, en_f0_5, en_f0_6, en_f0_7, en_f0_8, en_f0_9, en_p0_9, en_f0_10, en_p0_10, en_a2, en_l2, en_s2, en_a19, en_l19, en_s19, en_c20, en_f20_0, en_f20_1, en_f20_2, en_p20_2, en_f20_3, en_p20_3, en_f20_4, en_p20_4, en_f20_5, en_p20_5, en_f20_6, en_p20_6, en_f20_7, en_p20_7, en_f20_8, en_p20_8, en_f20_9, en_p20_9, en_f20_10, en_p20_10, en_f20_11, en_p20_11, en_f20_12, en_p20_12, en_f20_13, en_p20_13, en_f20_14, en_p20_14, en_a22, en_l22, en_s22, en_c23, en_f23_0, en_f23_1, en_f23_2, en_p23_2, en_f23_3, en_p23_3, en_f23_4, en_p23_4, en_f23_5, en_p23_5, en_f23_6, en_p23_6, en_f23_7, en_p23_7, en_f23_8, en_p23_8, en_f23_9, en_p23_9, en_f23_10, en_p23_10, en_f23_11, en_p23_11, en_f23_12, en_p23_12, en_f23_13, en_p23_13, en_f23_14, en_p23_14, en_c26, en_f26_0, en_f26_1, en_f26_2, en_p26_2, en_f26_3, en_p26_3, en_f26_4, en_p26_4, en_f26_5, en_p26_5, en_f26_6, en_p26_6, en_f26_7, en_p26_7, en_f26_8, en_p26_8, en_f26_9, en_p26_9, en_f26_10, en_p26_10, en_f26_11, en_p26_11, en_f26_12, en_p26_12, en_f26_13, en_p26_13, en_f26_14, en_p26_14, en_c34, en_f34_0, en_f34_1, en_p34_1, en_f34_2, en_p34_2, en_a35, en_l35, en_s35, as_10, as_01, Nat.reduceBEq, Nat.reduceEqDiff, ↓reduceIte, Option.bind_some, Option.getD_some, Option.isSome_some, Option.isSome_none, Bool.false_eq_true, Option.toList, List.nil_append, List.cons_append, List.lookup, Option.isSome, List.getElem?_cons_zero, List.getElem?_cons_succ, beq_self_eq_true, if_true, true_or, or_true, or_false, false_or, am_kl, true_and, and_true, and_false, false_and, if_false, not_true_eq_false, not_false_eq_true, as_b0, as_b1, as_em, as_ne, List.length_cons, List.length_nil, Nat.reduceAdd, Int32.reduceLT, Int32.reduceLE, Int32.reduceAdd, Int32.reduceSub, Int32.neg_neg, Int32.reduceMul, Int32.reduceToNatClampNeg, Nat.reduceLeDiff, Nat.reduceLT, List.set_cons_zero, List.set_cons_succ, List.length_set, en_at, en_uu, en_gd, c12, z30, hc, h1, en_clsQ hQ, wc, hrl, as_z00, as_q2_0, as_q2_1])
              (by
                rw [as_mt (n := 4) (by decide +kernel), show am_ent 4 [.ref 36, .int x, .int 2, .int y] = [some (.ref 36), some (.int x), some (.int 2), some (.int y)] from rfl]
                simp only [q244_0, q244_1, q244_2, q244_5, q244_6, q244_7, q244_10, q244_13, q244_14, q244_17, q244_18, q244_19, q244_22, q244_23, q244_24, q244_25, q244_28, q244_29, q244_30, q244_31, q244_34, q244_37, q244_38, q244_39, q244_42, q244_43, q244_44, q244_45, q244_48, q244_51, q244_52, q244_53, q244_54, q244_57, en_c36, en_f36_0, en_p36_0, en_f36_1, en_p36_1, en_f36_2, en_p36_2, en_f36_3, en_p36_3, en_f36_4, en_p36_4, en_f36_5, en_p36_5, en_f36_6, en_p36_6, en_f36_7, en_p36_7, en_f36_8, en_p36_8, en_f36_9, en_p36_9, en_f36_10, en_p36_10, en_f36_11, en_p36_11, en_f36_12, en_p36_12, en_f36_13, en_p36_13, en_f36_14, en_f36_15, en_f36_16, en_f36_17, en_f36_18, en_f36_19, en_f36_20, en_f36_21, en_f36_22, en_f36_23, en_f36_24, en_f36_25, en_f36_26, en_f36_27, en_f36_28, en_f36_29, en_p36_29, en_f36_30, en_p36_30, en_f36_31, en_p36_31, en_f36_32, en_p36_32, en_f36_33, en_p36_33, en_f36_34, en_f36_35, en_f36_36, en_f36_37, en_f36_38, en_p36_38, en_f36_39, en_f36_40, en_p36_40, en_f36_41, en_p36_41, en_a37, en_l37, en_s37, en_a38, en_l38, en_s38, en_a39, en_l39, en_s39, en_a40, en_l40, en_s40, en_a41, en_l41, en_s41, en_a42, en_l42, en_s42, en_a43, en_l43, en_s43, en_a44, en_l44, en_s44, en_a45, en_l45, en_s45, en_a46, en_l46, en_s46, en_a47, en_l47, en_a48, en_l48, en_a49, en_l49, en_a50, en_l50, en_a51, en_l51, en_s51, en_a52, en_l52, en_s52, en_a53, en_l53, en_s53, en_a54, en_l54, en_s54, en_a55, en_l55, en_s55, en_a56, en_l56, en_s56, as_10, as_01, Nat.reduceBEq, Nat.reduceEqDiff, ↓reduceIte, Option.bind_some, Option.getD_some, Option.isSome_some, Option.isSome_none, Bool.false_eq_true, Option.toList, List.nil_append, List.cons_append, List.lookup, Option.isSome, List.getElem?_cons_zero, List.getElem?_cons_succ, beq_self_eq_true, if_true, true_or, or_true, or_false, false_or, am_kl, true_and, and_true, and_false, false_and, if_false, not_true_eq_false, not_false_eq_true, as_b0, as_b1, as_em, as_ne, List.length_cons, List.length_nil, Nat.reduceAdd, Int32.reduceLT, Int32.reduceLE, Int32.reduceAdd, Int32.reduceSub, Int32.neg_neg, Int32.reduceMul, Int32.reduceToNatClampNeg, Nat.reduceLeDiff, Nat.reduceLT, List.set_cons_zero, List.set_cons_succ, List.length_set, en_at, en_uu, en_gd, ct_172, e36, hc, x0, x1, wm, as_z00, as_q2_0, as_q2_1])
              (by decide) (by rw [md_tpL_len]; exact hrl) (by rw [md_tp_len]; exact t2) (md_tp_both [50, 12, 71, 11, 70, 51, 10, 70, 51, 10] _ _ 0 (by rw [hrl]; decide) (by rw [t2]; decide) (fun i hi => absurd hi (by omega)))
          · have wc := fun (I : Nat → Nat → Int32) (L : Nat → List Int64) (h1 : (L 35).length = 160) (h2 : I 34 2 = Int32.ofNat 0) => cl_158_2 (X := X) (I := I) (A := A) (L := L) (V := V) (W := W) (Q := Q) (v := y) (r := 0) hQ h1 h2 (by decide)
            have wm := fun (I : Nat → Nat → Int32) (L : Nat → List Int64) (h2 : I 36 40 = Int32.ofNat 0) => ct_249 (X := X) (I := I) (A := A) (L := L) (V := V) (W := W) (Q := Q) (v := y) (r := 0) hpd ‹md_q pd x = some (2, a)› t2 h2 (by decide)
            simp only [md_bb, md_lv, md_sv, md_bv, md_lb, md_sb, md_bb, List.length_cons, List.length_nil, List.cons_append, List.nil_append, Nat.zero_add, Nat.reduceAdd] at wc wm
            exact md_stTR (v := .int (((y + x) * 2 * 3) ^^^ ((y - a) + x))) (n := 5) (l := md_tpL (List.replicate 160 0) 0 [12, 30, 11, 10, 10]) (a := md_tp (A 56) 0 [12, 30, 11, 10, 10]) hR
              (by
                rw [as_mt (n := 5) (by decide +kernel), show am_ent 5 [.ref 0, .int x, .int 2, .int y] = [some (.ref 0), some (.int x), some (.int 2), some (.int y), none] from rfl]
                simp only [q146_0, q146_1, q146_4, q146_5, q146_6, q146_9, q146_10, q146_13, q146_14, q146_17, q146_17n, q146_19, q146_19n, q146_21n, q146_21, q146_24, q146_25, q146_26, q146_27, q146_52, q146_52n, q146_54, q146_55, q146_56, q146_59, q146_59n, q146_62, q146_63, q146_63n, q146_65, q146_66, q146_67, q146_70, q146_70n, q146_73, q146_74, q146_74n, q146_76, q146_77, q146_78, q146_81, q146_81n, q146_84, q146_85, q146_86, en_c0, en_f0_0, en_f0_1, en_f0_2, en_f0_3, en_f0_4, en_f0_5, en_f0_6, en_f0_7, en_f0_8, en_f0_9, en_p0_9, en_f0_10, en_p0_10, en_a2, en_l2, en_s2, en_a19, en_l19, en_s19, en_c20, en_f20_0, en_f20_1, en_f20_2, en_p20_2, en_f20_3, en_p20_3, en_f20_4, en_p20_4, en_f20_5, en_p20_5, en_f20_6, en_p20_6, en_f20_7, en_p20_7, en_f20_8, en_p20_8, en_f20_9, en_p20_9, en_f20_10, en_p20_10, en_f20_11, en_p20_11, en_f20_12, en_p20_12, en_f20_13, en_p20_13, en_f20_14, en_p20_14, en_a22, en_l22, en_s22, en_c23, en_f23_0, en_f23_1, en_f23_2, en_p23_2, en_f23_3, en_p23_3, en_f23_4, en_p23_4, en_f23_5, en_p23_5, en_f23_6, en_p23_6, en_f23_7, en_p23_7, en_f23_8, en_p23_8, en_f23_9, en_p23_9, en_f23_10, en_p23_10, en_f23_11, en_p23_11, en_f23_12, en_p23_12, en_f23_13, en_p23_13, en_f23_14, en_p23_14, en_c26, en_f26_0, en_f26_1, en_f26_2, en_p26_2, en_f26_3, en_p26_3, en_f26_4, en_p26_4, en_f26_5, en_p26_5, en_f26_6, en_p26_6, en_f26_7, en_p26_7, en_f26_8, en_p26_8, en_f26_9, en_p26_9, en_f26_10, en_p26_10, en_f26_11, en_p26_11, en_f26_12, en_p26_12, en_f26_13, en_p26_13, en_f26_14, en_p26_14, en_c34, en_f34_0, en_f34_1, en_p34_1, en_f34_2, en_p34_2, en_a35, en_l35, en_s35, as_10, as_01, Nat.reduceBEq, Nat.reduceEqDiff, ↓reduceIte, Option.bind_some, Option.getD_some, Option.isSome_some, Option.isSome_none, Bool.false_eq_true, Option.toList, List.nil_append, List.cons_append, List.lookup, Option.isSome, List.getElem?_cons_zero, List.getElem?_cons_succ, beq_self_eq_true, if_true, true_or, or_true, or_false, false_or, am_kl, true_and, and_true, and_false, false_and, if_false, not_true_eq_false, not_false_eq_true, as_b0, as_b1, as_em, as_ne, List.length_cons, List.length_nil, Nat.reduceAdd, Int32.reduceLT, Int32.reduceLE, Int32.reduceAdd, Int32.reduceSub, Int32.neg_neg, Int32.reduceMul, Int32.reduceToNatClampNeg, Nat.reduceLeDiff, Nat.reduceLT, List.set_cons_zero, List.set_cons_succ, List.length_set, en_at, en_uu, en_gd, c12, z30, hc, h1, en_clsQ hQ, wc, hrl, as_z00, as_q2_0, as_q2_1])
              (by
                rw [as_mt (n := 4) (by decide +kernel), show am_ent 4 [.ref 36, .int x, .int 2, .int y] = [some (.ref 36), some (.int x), some (.int 2), some (.int y)] from rfl]
                simp only [q244_0, q244_1, q244_2, q244_5, q244_6, q244_7, q244_10, q244_13, q244_14, q244_17, q244_18, q244_19, q244_22, q244_23, q244_24, q244_25, q244_28, q244_29, q244_30, q244_31, q244_34, q244_37, q244_38, q244_39, q244_42, q244_43, q244_44, q244_45, q244_48, q244_51, q244_52, q244_53, q244_54, q244_57, en_c36, en_f36_0, en_p36_0, en_f36_1, en_p36_1, en_f36_2, en_p36_2, en_f36_3, en_p36_3, en_f36_4, en_p36_4, en_f36_5, en_p36_5, en_f36_6, en_p36_6, en_f36_7, en_p36_7, en_f36_8, en_p36_8, en_f36_9, en_p36_9, en_f36_10, en_p36_10, en_f36_11, en_p36_11, en_f36_12, en_p36_12, en_f36_13, en_p36_13, en_f36_14, en_f36_15, en_f36_16, en_f36_17, en_f36_18, en_f36_19, en_f36_20, en_f36_21, en_f36_22, en_f36_23, en_f36_24, en_f36_25, en_f36_26, en_f36_27, en_f36_28, en_f36_29, en_p36_29, en_f36_30, en_p36_30, en_f36_31, en_p36_31, en_f36_32, en_p36_32, en_f36_33, en_p36_33, en_f36_34, en_f36_35, en_f36_36, en_f36_37, en_f36_38, en_p36_38, en_f36_39, en_f36_40, en_p36_40, en_f36_41, en_p36_41, en_a37, en_l37, en_s37, en_a38, en_l38, en_s38, en_a39, en_l39, en_s39, en_a40, en_l40, en_s40, en_a41, en_l41, en_s41, en_a42, en_l42, en_s42, en_a43, en_l43, en_s43, en_a44, en_l44, en_s44, en_a45, en_l45, en_s45, en_a46, en_l46, en_s46, en_a47, en_l47, en_a48, en_l48, en_a49, en_l49, en_a50, en_l50, en_a51, en_l51, en_s51, en_a52, en_l52, en_s52, en_a53, en_l53, en_s53, en_a54, en_l54, en_s54, en_a55, en_l55, en_s55, en_a56, en_l56, en_s56, as_10, as_01, Nat.reduceBEq, Nat.reduceEqDiff, ↓reduceIte, Option.bind_some, Option.getD_some, Option.isSome_some, Option.isSome_none, Bool.false_eq_true, Option.toList, List.nil_append, List.cons_append, List.lookup, Option.isSome, List.getElem?_cons_zero, List.getElem?_cons_succ, beq_self_eq_true, if_true, true_or, or_true, or_false, false_or, am_kl, true_and, and_true, and_false, false_and, if_false, not_true_eq_false, not_false_eq_true, as_b0, as_b1, as_em, as_ne, List.length_cons, List.length_nil, Nat.reduceAdd, Int32.reduceLT, Int32.reduceLE, Int32.reduceAdd, Int32.reduceSub, Int32.neg_neg, Int32.reduceMul, Int32.reduceToNatClampNeg, Nat.reduceLeDiff, Nat.reduceLT, List.set_cons_zero, List.set_cons_succ, List.length_set, en_at, en_uu, en_gd, ct_172, e36, hc, x0, x1, wm, as_z00, as_q2_0, as_q2_1])
              (by decide) (by rw [md_tpL_len]; exact hrl) (by rw [md_tp_len]; exact t2) (md_tp_both [12, 30, 11, 10, 10] _ _ 0 (by rw [hrl]; decide) (by rw [t2]; decide) (fun i hi => absurd hi (by omega)))
          · have wc := fun (I : Nat → Nat → Int32) (L : Nat → List Int64) (h1 : (L 35).length = 160) (h2 : I 34 2 = Int32.ofNat 0) => cl_158_3 (X := X) (I := I) (A := A) (L := L) (V := V) (W := W) (Q := Q) (v := y) (r := 0) hQ h1 h2 (by decide)
            have wm := fun (I : Nat → Nat → Int32) (L : Nat → List Int64) (h2 : I 36 40 = Int32.ofNat 0) => ct_249 (X := X) (I := I) (A := A) (L := L) (V := V) (W := W) (Q := Q) (v := y) (r := 0) hpd ‹md_q pd x = some (3, a)› t2 h2 (by decide)
            simp only [md_bb, md_lv, md_sv, md_bv, md_lb, md_sb, md_bb, List.length_cons, List.length_nil, List.cons_append, List.nil_append, Nat.zero_add, Nat.reduceAdd] at wc wm
            exact md_stTR (v := .int (((y + x) * 2) ^^^ ((y - a) + x))) (n := 4) (l := md_tpL (List.replicate 160 0) 0 [12, 11, 10, 10]) (a := md_tp (A 56) 0 [12, 11, 10, 10]) hR
              (by
                rw [as_mt (n := 5) (by decide +kernel), show am_ent 5 [.ref 0, .int x, .int 2, .int y] = [some (.ref 0), some (.int x), some (.int 2), some (.int y), none] from rfl]
                simp only [q146_0, q146_1, q146_4, q146_5, q146_6, q146_9, q146_10, q146_13, q146_14, q146_17, q146_17n, q146_19, q146_19n, q146_21n, q146_21, q146_24, q146_25, q146_26, q146_27, q146_52, q146_52n, q146_54, q146_55, q146_56, q146_59, q146_59n, q146_62, q146_63, q146_63n, q146_65, q146_66, q146_67, q146_70, q146_70n, q146_73, q146_74, q146_74n, q146_76, q146_77, q146_78, q146_81, q146_81n, q146_84, q146_85, q146_86, en_c0, en_f0_0, en_f0_1, en_f0_2, en_f0_3, en_f0_4, en_f0_5, en_f0_6, en_f0_7, en_f0_8, en_f0_9, en_p0_9, en_f0_10, en_p0_10, en_a2, en_l2, en_s2, en_a19, en_l19, en_s19, en_c20, en_f20_0, en_f20_1, en_f20_2, en_p20_2, en_f20_3, en_p20_3, en_f20_4, en_p20_4, en_f20_5, en_p20_5, en_f20_6, en_p20_6, en_f20_7, en_p20_7, en_f20_8, en_p20_8, en_f20_9, en_p20_9, en_f20_10, en_p20_10, en_f20_11, en_p20_11, en_f20_12, en_p20_12, en_f20_13, en_p20_13, en_f20_14, en_p20_14, en_a22, en_l22, en_s22, en_c23, en_f23_0, en_f23_1, en_f23_2, en_p23_2, en_f23_3, en_p23_3, en_f23_4, en_p23_4, en_f23_5, en_p23_5, en_f23_6, en_p23_6, en_f23_7, en_p23_7, en_f23_8, en_p23_8, en_f23_9, en_p23_9, en_f23_10, en_p23_10, en_f23_11, en_p23_11, en_f23_12, en_p23_12, en_f23_13, en_p23_13, en_f23_14, en_p23_14, en_c26, en_f26_0, en_f26_1, en_f26_2, en_p26_2, en_f26_3, en_p26_3, en_f26_4, en_p26_4, en_f26_5, en_p26_5, en_f26_6, en_p26_6, en_f26_7, en_p26_7, en_f26_8, en_p26_8, en_f26_9, en_p26_9, en_f26_10, en_p26_10, en_f26_11, en_p26_11, en_f26_12, en_p26_12, en_f26_13, en_p26_13, en_f26_14, en_p26_14, en_c34, en_f34_0, en_f34_1, en_p34_1, en_f34_2, en_p34_2, en_a35, en_l35, en_s35, as_10, as_01, Nat.reduceBEq, Nat.reduceEqDiff, ↓reduceIte, Option.bind_some, Option.getD_some, Option.isSome_some, Option.isSome_none, Bool.false_eq_true, Option.toList, List.nil_append, List.cons_append, List.lookup, Option.isSome, List.getElem?_cons_zero, List.getElem?_cons_succ, beq_self_eq_true, if_true, true_or, or_true, or_false, false_or, am_kl, true_and, and_true, and_false, false_and, if_false, not_true_eq_false, not_false_eq_true, as_b0, as_b1, as_em, as_ne, List.length_cons, List.length_nil, Nat.reduceAdd, Int32.reduceLT, Int32.reduceLE, Int32.reduceAdd, Int32.reduceSub, Int32.neg_neg, Int32.reduceMul, Int32.reduceToNatClampNeg, Nat.reduceLeDiff, Nat.reduceLT, List.set_cons_zero, List.set_cons_succ, List.length_set, en_at, en_uu, en_gd, c12, z30, hc, h1, en_clsQ hQ, wc, hrl, as_z00, as_q2_0, as_q2_1])
              (by
                rw [as_mt (n := 4) (by decide +kernel), show am_ent 4 [.ref 36, .int x, .int 2, .int y] = [some (.ref 36), some (.int x), some (.int 2), some (.int y)] from rfl]
                simp only [q244_0, q244_1, q244_2, q244_5, q244_6, q244_7, q244_10, q244_13, q244_14, q244_17, q244_18, q244_19, q244_22, q244_23, q244_24, q244_25, q244_28, q244_29, q244_30, q244_31, q244_34, q244_37, q244_38, q244_39, q244_42, q244_43, q244_44, q244_45, q244_48, q244_51, q244_52, q244_53, q244_54, q244_57, en_c36, en_f36_0, en_p36_0, en_f36_1, en_p36_1, en_f36_2, en_p36_2, en_f36_3, en_p36_3, en_f36_4, en_p36_4, en_f36_5, en_p36_5, en_f36_6, en_p36_6, en_f36_7, en_p36_7, en_f36_8, en_p36_8, en_f36_9, en_p36_9, en_f36_10, en_p36_10, en_f36_11, en_p36_11, en_f36_12, en_p36_12, en_f36_13, en_p36_13, en_f36_14, en_f36_15, en_f36_16, en_f36_17, en_f36_18, en_f36_19, en_f36_20, en_f36_21, en_f36_22, en_f36_23, en_f36_24, en_f36_25, en_f36_26, en_f36_27, en_f36_28, en_f36_29, en_p36_29, en_f36_30, en_p36_30, en_f36_31, en_p36_31, en_f36_32, en_p36_32, en_f36_33, en_p36_33, en_f36_34, en_f36_35, en_f36_36, en_f36_37, en_f36_38, en_p36_38, en_f36_39, en_f36_40, en_p36_40, en_f36_41, en_p36_41, en_a37, en_l37, en_s37, en_a38, en_l38, en_s38, en_a39, en_l39, en_s39, en_a40, en_l40, en_s40, en_a41, en_l41, en_s41, en_a42, en_l42, en_s42, en_a43, en_l43, en_s43, en_a44, en_l44, en_s44, en_a45, en_l45, en_s45, en_a46, en_l46, en_s46, en_a47, en_l47, en_a48, en_l48, en_a49, en_l49, en_a50, en_l50, en_a51, en_l51, en_s51, en_a52, en_l52, en_s52, en_a53, en_l53, en_s53, en_a54, en_l54, en_s54, en_a55, en_l55, en_s55, en_a56, en_l56, en_s56, as_10, as_01, Nat.reduceBEq, Nat.reduceEqDiff, ↓reduceIte, Option.bind_some, Option.getD_some, Option.isSome_some, Option.isSome_none, Bool.false_eq_true, Option.toList, List.nil_append, List.cons_append, List.lookup, Option.isSome, List.getElem?_cons_zero, List.getElem?_cons_succ, beq_self_eq_true, if_true, true_or, or_true, or_false, false_or, am_kl, true_and, and_true, and_false, false_and, if_false, not_true_eq_false, not_false_eq_true, as_b0, as_b1, as_em, as_ne, List.length_cons, List.length_nil, Nat.reduceAdd, Int32.reduceLT, Int32.reduceLE, Int32.reduceAdd, Int32.reduceSub, Int32.neg_neg, Int32.reduceMul, Int32.reduceToNatClampNeg, Nat.reduceLeDiff, Nat.reduceLT, List.set_cons_zero, List.set_cons_succ, List.length_set, en_at, en_uu, en_gd, ct_172, e36, hc, x0, x1, wm, as_z00, as_q2_0, as_q2_1])
              (by decide) (by rw [md_tpL_len]; exact hrl) (by rw [md_tp_len]; exact t2) (md_tp_both [12, 11, 10, 10] _ _ 0 (by rw [hrl]; decide) (by rw [t2]; decide) (fun i hi => absurd hi (by omega)))
          · have wc := fun (I : Nat → Nat → Int32) (L : Nat → List Int64) (h1 : (L 35).length = 160) (h2 : I 34 2 = Int32.ofNat 0) => cl_157_4 (X := X) (I := I) (A := A) (L := L) (V := V) (W := W) (Q := Q) (v := y) (r := 0) hQ h1 h2 (by decide)
            have wm := fun (I : Nat → Nat → Int32) (L : Nat → List Int64) (h2 : I 36 40 = Int32.ofNat 0) => ct_249 (X := X) (I := I) (A := A) (L := L) (V := V) (W := W) (Q := Q) (v := y) (r := 0) hpd ‹md_q pd x = some (4, a)› t2 h2 (by decide)
            simp only [md_bb, md_lv, md_sv, md_bv, md_lb, md_sb, md_bb, List.length_cons, List.length_nil, List.cons_append, List.nil_append, Nat.zero_add, Nat.reduceAdd] at wc wm
            exact md_stTR (v := .int ((((y + x + a) * 2) ^^^ ((y - a) + x + a)) ^^^ 5)) (n := 7) (l := md_tpL (List.replicate 160 0) 0 [60, 12, 11, 20, 10, 20, 10]) (a := md_tp (A 56) 0 [60, 12, 11, 20, 10, 20, 10]) hR
              (by
                rw [as_mt (n := 5) (by decide +kernel), show am_ent 5 [.ref 0, .int x, .int 2, .int y] = [some (.ref 0), some (.int x), some (.int 2), some (.int y), none] from rfl]
                simp only [q146_0, q146_1, q146_4, q146_5, q146_6, q146_9, q146_10, q146_13, q146_14, q146_17, q146_17n, q146_19, q146_19n, q146_21n, q146_21, q146_24, q146_25, q146_26, q146_27, q146_52, q146_52n, q146_54, q146_55, q146_56, q146_59, q146_59n, q146_62, q146_63, q146_63n, q146_65, q146_66, q146_67, q146_70, q146_70n, q146_73, q146_74, q146_74n, q146_76, q146_77, q146_78, q146_81, q146_81n, q146_84, q146_85, q146_86, en_c0, en_f0_0, en_f0_1, en_f0_2, en_f0_3, en_f0_4, en_f0_5, en_f0_6, en_f0_7, en_f0_8, en_f0_9, en_p0_9, en_f0_10, en_p0_10, en_a2, en_l2, en_s2, en_a19, en_l19, en_s19, en_c20, en_f20_0, en_f20_1, en_f20_2, en_p20_2, en_f20_3, en_p20_3, en_f20_4, en_p20_4, en_f20_5, en_p20_5, en_f20_6, en_p20_6, en_f20_7, en_p20_7, en_f20_8, en_p20_8, en_f20_9, en_p20_9, en_f20_10, en_p20_10, en_f20_11, en_p20_11, en_f20_12, en_p20_12, en_f20_13, en_p20_13, en_f20_14, en_p20_14, en_a22, en_l22, en_s22, en_c23, en_f23_0, en_f23_1, en_f23_2, en_p23_2, en_f23_3, en_p23_3, en_f23_4, en_p23_4, en_f23_5, en_p23_5, en_f23_6, en_p23_6, en_f23_7, en_p23_7, en_f23_8, en_p23_8, en_f23_9, en_p23_9, en_f23_10, en_p23_10, en_f23_11, en_p23_11, en_f23_12, en_p23_12, en_f23_13, en_p23_13, en_f23_14, en_p23_14, en_c26, en_f26_0, en_f26_1, en_f26_2, en_p26_2, en_f26_3, en_p26_3, en_f26_4, en_p26_4, en_f26_5, en_p26_5, en_f26_6, en_p26_6, en_f26_7, en_p26_7, en_f26_8, en_p26_8, en_f26_9, en_p26_9, en_f26_10, en_p26_10, en_f26_11, en_p26_11, en_f26_12, en_p26_12, en_f26_13, en_p26_13, en_f26_14, en_p26_14, en_c34, en_f34_0, en_f34_1, en_p34_1, en_f34_2, en_p34_2, en_a35, en_l35, en_s35, as_10, as_01, Nat.reduceBEq, Nat.reduceEqDiff, ↓reduceIte, Option.bind_some, Option.getD_some, Option.isSome_some, Option.isSome_none, Bool.false_eq_true, Option.toList, List.nil_append, List.cons_append, List.lookup, Option.isSome, List.getElem?_cons_zero, List.getElem?_cons_succ, beq_self_eq_true, if_true, true_or, or_true, or_false, false_or, am_kl, true_and, and_true, and_false, false_and, if_false, not_true_eq_false, not_false_eq_true, as_b0, as_b1, as_em, as_ne, List.length_cons, List.length_nil, Nat.reduceAdd, Int32.reduceLT, Int32.reduceLE, Int32.reduceAdd, Int32.reduceSub, Int32.neg_neg, Int32.reduceMul, Int32.reduceToNatClampNeg, Nat.reduceLeDiff, Nat.reduceLT, List.set_cons_zero, List.set_cons_succ, List.length_set, en_at, en_uu, en_gd, c12, z30, hc, h1, en_clsQ hQ, wc, hrl, as_z00, as_q2_0, as_q2_1])
              (by
                rw [as_mt (n := 4) (by decide +kernel), show am_ent 4 [.ref 36, .int x, .int 2, .int y] = [some (.ref 36), some (.int x), some (.int 2), some (.int y)] from rfl]
                simp only [q244_0, q244_1, q244_2, q244_5, q244_6, q244_7, q244_10, q244_13, q244_14, q244_17, q244_18, q244_19, q244_22, q244_23, q244_24, q244_25, q244_28, q244_29, q244_30, q244_31, q244_34, q244_37, q244_38, q244_39, q244_42, q244_43, q244_44, q244_45, q244_48, q244_51, q244_52, q244_53, q244_54, q244_57, en_c36, en_f36_0, en_p36_0, en_f36_1, en_p36_1, en_f36_2, en_p36_2, en_f36_3, en_p36_3, en_f36_4, en_p36_4, en_f36_5, en_p36_5, en_f36_6, en_p36_6, en_f36_7, en_p36_7, en_f36_8, en_p36_8, en_f36_9, en_p36_9, en_f36_10, en_p36_10, en_f36_11, en_p36_11, en_f36_12, en_p36_12, en_f36_13, en_p36_13, en_f36_14, en_f36_15, en_f36_16, en_f36_17, en_f36_18, en_f36_19, en_f36_20, en_f36_21, en_f36_22, en_f36_23, en_f36_24, en_f36_25, en_f36_26, en_f36_27, en_f36_28, en_f36_29, en_p36_29, en_f36_30, en_p36_30, en_f36_31, en_p36_31, en_f36_32, en_p36_32, en_f36_33, en_p36_33, en_f36_34, en_f36_35, en_f36_36, en_f36_37, en_f36_38, en_p36_38, en_f36_39, en_f36_40, en_p36_40, en_f36_41, en_p36_41, en_a37, en_l37, en_s37, en_a38, en_l38, en_s38, en_a39, en_l39, en_s39, en_a40, en_l40, en_s40, en_a41, en_l41, en_s41, en_a42, en_l42, en_s42, en_a43, en_l43, en_s43, en_a44, en_l44, en_s44, en_a45, en_l45, en_s45, en_a46, en_l46, en_s46, en_a47, en_l47, en_a48, en_l48, en_a49, en_l49, en_a50, en_l50, en_a51, en_l51, en_s51, en_a52, en_l52, en_s52, en_a53, en_l53, en_s53, en_a54, en_l54, en_s54, en_a55, en_l55, en_s55, en_a56, en_l56, en_s56, as_10, as_01, Nat.reduceBEq, Nat.reduceEqDiff, ↓reduceIte, Option.bind_some, Option.getD_some, Option.isSome_some, Option.isSome_none, Bool.false_eq_true, Option.toList, List.nil_append, List.cons_append, List.lookup, Option.isSome, List.getElem?_cons_zero, List.getElem?_cons_succ, beq_self_eq_true, if_true, true_or, or_true, or_false, false_or, am_kl, true_and, and_true, and_false, false_and, if_false, not_true_eq_false, not_false_eq_true, as_b0, as_b1, as_em, as_ne, List.length_cons, List.length_nil, Nat.reduceAdd, Int32.reduceLT, Int32.reduceLE, Int32.reduceAdd, Int32.reduceSub, Int32.neg_neg, Int32.reduceMul, Int32.reduceToNatClampNeg, Nat.reduceLeDiff, Nat.reduceLT, List.set_cons_zero, List.set_cons_succ, List.length_set, en_at, en_uu, en_gd, ct_172, e36, hc, x0, x1, wm, as_z00, as_q2_0, as_q2_1])
              (by decide) (by rw [md_tpL_len]; exact hrl) (by rw [md_tp_len]; exact t2) (md_tp_both [60, 12, 11, 20, 10, 20, 10] _ _ 0 (by rw [hrl]; decide) (by rw [t2]; decide) (fun i hi => absurd hi (by omega)))
          · have wc := fun (I : Nat → Nat → Int32) (L : Nat → List Int64) (h1 : (L 35).length = 160) (h2 : I 34 2 = Int32.ofNat 0) => cl_156_6 (X := X) (I := I) (A := A) (L := L) (V := V) (W := W) (Q := Q) (v := y) (r := 0) hQ h1 h2 (by decide)
            have wm := fun (I : Nat → Nat → Int32) (L : Nat → List Int64) (h2 : I 36 40 = Int32.ofNat 0) => ct_249 (X := X) (I := I) (A := A) (L := L) (V := V) (W := W) (Q := Q) (v := y) (r := 0) hpd ‹md_q pd x = some (6, a)› t2 h2 (by decide)
            simp only [md_bb, md_lv, md_sv, md_bv, md_lb, md_sb, md_bb, List.length_cons, List.length_nil, List.cons_append, List.nil_append, Nat.zero_add, Nat.reduceAdd] at wc wm
            exact md_stTR (v := .int (-(((y + x - x) * 2) ^^^ ((y - a) + x - x)))) (n := 7) (l := md_tpL (List.replicate 160 0) 0 [50, 12, 11, 51, 10, 51, 10]) (a := md_tp (A 56) 0 [50, 12, 11, 51, 10, 51, 10]) hR
              (by
                rw [as_mt (n := 5) (by decide +kernel), show am_ent 5 [.ref 0, .int x, .int 2, .int y] = [some (.ref 0), some (.int x), some (.int 2), some (.int y), none] from rfl]
                simp only [q146_0, q146_1, q146_4, q146_5, q146_6, q146_9, q146_10, q146_13, q146_14, q146_17, q146_17n, q146_19, q146_19n, q146_21n, q146_21, q146_24, q146_25, q146_26, q146_27, q146_52, q146_52n, q146_54, q146_55, q146_56, q146_59, q146_59n, q146_62, q146_63, q146_63n, q146_65, q146_66, q146_67, q146_70, q146_70n, q146_73, q146_74, q146_74n, q146_76, q146_77, q146_78, q146_81, q146_81n, q146_84, q146_85, q146_86, en_c0, en_f0_0, en_f0_1, en_f0_2, en_f0_3, en_f0_4, en_f0_5, en_f0_6, en_f0_7, en_f0_8, en_f0_9, en_p0_9, en_f0_10, en_p0_10, en_a2, en_l2, en_s2, en_a19, en_l19, en_s19, en_c20, en_f20_0, en_f20_1, en_f20_2, en_p20_2, en_f20_3, en_p20_3, en_f20_4, en_p20_4, en_f20_5, en_p20_5, en_f20_6, en_p20_6, en_f20_7, en_p20_7, en_f20_8, en_p20_8, en_f20_9, en_p20_9, en_f20_10, en_p20_10, en_f20_11, en_p20_11, en_f20_12, en_p20_12, en_f20_13, en_p20_13, en_f20_14, en_p20_14, en_a22, en_l22, en_s22, en_c23, en_f23_0, en_f23_1, en_f23_2, en_p23_2, en_f23_3, en_p23_3, en_f23_4, en_p23_4, en_f23_5, en_p23_5, en_f23_6, en_p23_6, en_f23_7, en_p23_7, en_f23_8, en_p23_8, en_f23_9, en_p23_9, en_f23_10, en_p23_10, en_f23_11, en_p23_11, en_f23_12, en_p23_12, en_f23_13, en_p23_13, en_f23_14, en_p23_14, en_c26, en_f26_0, en_f26_1, en_f26_2, en_p26_2, en_f26_3, en_p26_3, en_f26_4, en_p26_4, en_f26_5, en_p26_5, en_f26_6, en_p26_6, en_f26_7, en_p26_7, en_f26_8, en_p26_8, en_f26_9, en_p26_9, en_f26_10, en_p26_10, en_f26_11, en_p26_11, en_f26_12, en_p26_12, en_f26_13, en_p26_13, en_f26_14, en_p26_14, en_c34, en_f34_0, en_f34_1, en_p34_1, en_f34_2, en_p34_2, en_a35, en_l35, en_s35, as_10, as_01, Nat.reduceBEq, Nat.reduceEqDiff, ↓reduceIte, Option.bind_some, Option.getD_some, Option.isSome_some, Option.isSome_none, Bool.false_eq_true, Option.toList, List.nil_append, List.cons_append, List.lookup, Option.isSome, List.getElem?_cons_zero, List.getElem?_cons_succ, beq_self_eq_true, if_true, true_or, or_true, or_false, false_or, am_kl, true_and, and_true, and_false, false_and, if_false, not_true_eq_false, not_false_eq_true, as_b0, as_b1, as_em, as_ne, List.length_cons, List.length_nil, Nat.reduceAdd, Int32.reduceLT, Int32.reduceLE, Int32.reduceAdd, Int32.reduceSub, Int32.neg_neg, Int32.reduceMul, Int32.reduceToNatClampNeg, Nat.reduceLeDiff, Nat.reduceLT, List.set_cons_zero, List.set_cons_succ, List.length_set, en_at, en_uu, en_gd, c12, z30, hc, h1, en_clsQ hQ, wc, hrl, as_z00, as_q2_0, as_q2_1])
              (by
                rw [as_mt (n := 4) (by decide +kernel), show am_ent 4 [.ref 36, .int x, .int 2, .int y] = [some (.ref 36), some (.int x), some (.int 2), some (.int y)] from rfl]
                simp only [q244_0, q244_1, q244_2, q244_5, q244_6, q244_7, q244_10, q244_13, q244_14, q244_17, q244_18, q244_19, q244_22, q244_23, q244_24, q244_25, q244_28, q244_29, q244_30, q244_31, q244_34, q244_37, q244_38, q244_39, q244_42, q244_43, q244_44, q244_45, q244_48, q244_51, q244_52, q244_53, q244_54, q244_57, en_c36, en_f36_0, en_p36_0, en_f36_1, en_p36_1, en_f36_2, en_p36_2, en_f36_3, en_p36_3, en_f36_4, en_p36_4, en_f36_5, en_p36_5, en_f36_6, en_p36_6, en_f36_7, en_p36_7, en_f36_8, en_p36_8, en_f36_9, en_p36_9, en_f36_10, en_p36_10, en_f36_11, en_p36_11, en_f36_12, en_p36_12, en_f36_13, en_p36_13, en_f36_14, en_f36_15, en_f36_16, en_f36_17, en_f36_18, en_f36_19, en_f36_20, en_f36_21, en_f36_22, en_f36_23, en_f36_24, en_f36_25, en_f36_26, en_f36_27, en_f36_28, en_f36_29, en_p36_29, en_f36_30, en_p36_30, en_f36_31, en_p36_31, en_f36_32, en_p36_32, en_f36_33, en_p36_33, en_f36_34, en_f36_35, en_f36_36, en_f36_37, en_f36_38, en_p36_38, en_f36_39, en_f36_40, en_p36_40, en_f36_41, en_p36_41, en_a37, en_l37, en_s37, en_a38, en_l38, en_s38, en_a39, en_l39, en_s39, en_a40, en_l40, en_s40, en_a41, en_l41, en_s41, en_a42, en_l42, en_s42, en_a43, en_l43, en_s43, en_a44, en_l44, en_s44, en_a45, en_l45, en_s45, en_a46, en_l46, en_s46, en_a47, en_l47, en_a48, en_l48, en_a49, en_l49, en_a50, en_l50, en_a51, en_l51, en_s51, en_a52, en_l52, en_s52, en_a53, en_l53, en_s53, en_a54, en_l54, en_s54, en_a55, en_l55, en_s55, en_a56, en_l56, en_s56, as_10, as_01, Nat.reduceBEq, Nat.reduceEqDiff, ↓reduceIte, Option.bind_some, Option.getD_some, Option.isSome_some, Option.isSome_none, Bool.false_eq_true, Option.toList, List.nil_append, List.cons_append, List.lookup, Option.isSome, List.getElem?_cons_zero, List.getElem?_cons_succ, beq_self_eq_true, if_true, true_or, or_true, or_false, false_or, am_kl, true_and, and_true, and_false, false_and, if_false, not_true_eq_false, not_false_eq_true, as_b0, as_b1, as_em, as_ne, List.length_cons, List.length_nil, Nat.reduceAdd, Int32.reduceLT, Int32.reduceLE, Int32.reduceAdd, Int32.reduceSub, Int32.neg_neg, Int32.reduceMul, Int32.reduceToNatClampNeg, Nat.reduceLeDiff, Nat.reduceLT, List.set_cons_zero, List.set_cons_succ, List.length_set, en_at, en_uu, en_gd, ct_172, e36, hc, x0, x1, wm, as_z00, as_q2_0, as_q2_1])
              (by decide) (by rw [md_tpL_len]; exact hrl) (by rw [md_tp_len]; exact t2) (md_tp_both [50, 12, 11, 51, 10, 51, 10] _ _ 0 (by rw [hrl]; decide) (by rw [t2]; decide) (fun i hi => absurd hi (by omega)))
          · have wc := fun (I : Nat → Nat → Int32) (L : Nat → List Int64) (h1 : (L 35).length = 160) (h2 : I 34 2 = Int32.ofNat 0) => cl_158_7 (X := X) (I := I) (A := A) (L := L) (V := V) (W := W) (Q := Q) (v := y) (r := 0) hQ h1 h2 (by decide)
            have wm := fun (I : Nat → Nat → Int32) (L : Nat → List Int64) (h2 : I 36 40 = Int32.ofNat 0) => ct_249 (X := X) (I := I) (A := A) (L := L) (V := V) (W := W) (Q := Q) (v := y) (r := 0) hpd ‹md_q pd x = some (7, a)› t2 h2 (by decide)
            simp only [md_bb, md_lv, md_sv, md_bv, md_lb, md_sb, md_bb, List.length_cons, List.length_nil, List.cons_append, List.nil_append, Nat.zero_add, Nat.reduceAdd] at wc wm
            exact md_stTR (v := .int (((y + x + a) * 2) ^^^ ((y - a) + x + a))) (n := 6) (l := md_tpL (List.replicate 160 0) 0 [12, 11, 20, 10, 20, 10]) (a := md_tp (A 56) 0 [12, 11, 20, 10, 20, 10]) hR
              (by
                rw [as_mt (n := 5) (by decide +kernel), show am_ent 5 [.ref 0, .int x, .int 2, .int y] = [some (.ref 0), some (.int x), some (.int 2), some (.int y), none] from rfl]
                simp only [q146_0, q146_1, q146_4, q146_5, q146_6, q146_9, q146_10, q146_13, q146_14, q146_17, q146_17n, q146_19, q146_19n, q146_21n, q146_21, q146_24, q146_25, q146_26, q146_27, q146_52, q146_52n, q146_54, q146_55, q146_56, q146_59, q146_59n, q146_62, q146_63, q146_63n, q146_65, q146_66, q146_67, q146_70, q146_70n, q146_73, q146_74, q146_74n, q146_76, q146_77, q146_78, q146_81, q146_81n, q146_84, q146_85, q146_86, en_c0, en_f0_0, en_f0_1, en_f0_2, en_f0_3, en_f0_4, en_f0_5, en_f0_6, en_f0_7, en_f0_8, en_f0_9, en_p0_9, en_f0_10, en_p0_10, en_a2, en_l2, en_s2, en_a19, en_l19, en_s19, en_c20, en_f20_0, en_f20_1, en_f20_2, en_p20_2, en_f20_3, en_p20_3, en_f20_4, en_p20_4, en_f20_5, en_p20_5, en_f20_6, en_p20_6, en_f20_7, en_p20_7, en_f20_8, en_p20_8, en_f20_9, en_p20_9, en_f20_10, en_p20_10, en_f20_11, en_p20_11, en_f20_12, en_p20_12, en_f20_13, en_p20_13, en_f20_14, en_p20_14, en_a22, en_l22, en_s22, en_c23, en_f23_0, en_f23_1, en_f23_2, en_p23_2, en_f23_3, en_p23_3, en_f23_4, en_p23_4, en_f23_5, en_p23_5, en_f23_6, en_p23_6, en_f23_7, en_p23_7, en_f23_8, en_p23_8, en_f23_9, en_p23_9, en_f23_10, en_p23_10, en_f23_11, en_p23_11, en_f23_12, en_p23_12, en_f23_13, en_p23_13, en_f23_14, en_p23_14, en_c26, en_f26_0, en_f26_1, en_f26_2, en_p26_2, en_f26_3, en_p26_3, en_f26_4, en_p26_4, en_f26_5, en_p26_5, en_f26_6, en_p26_6, en_f26_7, en_p26_7, en_f26_8, en_p26_8, en_f26_9, en_p26_9, en_f26_10, en_p26_10, en_f26_11, en_p26_11, en_f26_12, en_p26_12, en_f26_13, en_p26_13, en_f26_14, en_p26_14, en_c34, en_f34_0, en_f34_1, en_p34_1, en_f34_2, en_p34_2, en_a35, en_l35, en_s35, as_10, as_01, Nat.reduceBEq, Nat.reduceEqDiff, ↓reduceIte, Option.bind_some, Option.getD_some, Option.isSome_some, Option.isSome_none, Bool.false_eq_true, Option.toList, List.nil_append, List.cons_append, List.lookup, Option.isSome, List.getElem?_cons_zero, List.getElem?_cons_succ, beq_self_eq_true, if_true, true_or, or_true, or_false, false_or, am_kl, true_and, and_true, and_false, false_and, if_false, not_true_eq_false, not_false_eq_true, as_b0, as_b1, as_em, as_ne, List.length_cons, List.length_nil, Nat.reduceAdd, Int32.reduceLT, Int32.reduceLE, Int32.reduceAdd, Int32.reduceSub, Int32.neg_neg, Int32.reduceMul, Int32.reduceToNatClampNeg, Nat.reduceLeDiff, Nat.reduceLT, List.set_cons_zero, List.set_cons_succ, List.length_set, en_at, en_uu, en_gd, c12, z30, hc, h1, en_clsQ hQ, wc, hrl, as_z00, as_q2_0, as_q2_1])
              (by
                rw [as_mt (n := 4) (by decide +kernel), show am_ent 4 [.ref 36, .int x, .int 2, .int y] = [some (.ref 36), some (.int x), some (.int 2), some (.int y)] from rfl]
                simp only [q244_0, q244_1, q244_2, q244_5, q244_6, q244_7, q244_10, q244_13, q244_14, q244_17, q244_18, q244_19, q244_22, q244_23, q244_24, q244_25, q244_28, q244_29, q244_30, q244_31, q244_34, q244_37, q244_38, q244_39, q244_42, q244_43, q244_44, q244_45, q244_48, q244_51, q244_52, q244_53, q244_54, q244_57, en_c36, en_f36_0, en_p36_0, en_f36_1, en_p36_1, en_f36_2, en_p36_2, en_f36_3, en_p36_3, en_f36_4, en_p36_4, en_f36_5, en_p36_5, en_f36_6, en_p36_6, en_f36_7, en_p36_7, en_f36_8, en_p36_8, en_f36_9, en_p36_9, en_f36_10, en_p36_10, en_f36_11, en_p36_11, en_f36_12, en_p36_12, en_f36_13, en_p36_13, en_f36_14, en_f36_15, en_f36_16, en_f36_17, en_f36_18, en_f36_19, en_f36_20, en_f36_21, en_f36_22, en_f36_23, en_f36_24, en_f36_25, en_f36_26, en_f36_27, en_f36_28, en_f36_29, en_p36_29, en_f36_30, en_p36_30, en_f36_31, en_p36_31, en_f36_32, en_p36_32, en_f36_33, en_p36_33, en_f36_34, en_f36_35, en_f36_36, en_f36_37, en_f36_38, en_p36_38, en_f36_39, en_f36_40, en_p36_40, en_f36_41, en_p36_41, en_a37, en_l37, en_s37, en_a38, en_l38, en_s38, en_a39, en_l39, en_s39, en_a40, en_l40, en_s40, en_a41, en_l41, en_s41, en_a42, en_l42, en_s42, en_a43, en_l43, en_s43, en_a44, en_l44, en_s44, en_a45, en_l45, en_s45, en_a46, en_l46, en_s46, en_a47, en_l47, en_a48, en_l48, en_a49, en_l49, en_a50, en_l50, en_a51, en_l51, en_s51, en_a52, en_l52, en_s52, en_a53, en_l53, en_s53, en_a54, en_l54, en_s54, en_a55, en_l55, en_s55, en_a56, en_l56, en_s56, as_10, as_01, Nat.reduceBEq, Nat.reduceEqDiff, ↓reduceIte, Option.bind_some, Option.getD_some, Option.isSome_some, Option.isSome_none, Bool.false_eq_true, Option.toList, List.nil_append, List.cons_append, List.lookup, Option.isSome, List.getElem?_cons_zero, List.getElem?_cons_succ, beq_self_eq_true, if_true, true_or, or_true, or_false, false_or, am_kl, true_and, and_true, and_false, false_and, if_false, not_true_eq_false, not_false_eq_true, as_b0, as_b1, as_em, as_ne, List.length_cons, List.length_nil, Nat.reduceAdd, Int32.reduceLT, Int32.reduceLE, Int32.reduceAdd, Int32.reduceSub, Int32.neg_neg, Int32.reduceMul, Int32.reduceToNatClampNeg, Nat.reduceLeDiff, Nat.reduceLT, List.set_cons_zero, List.set_cons_succ, List.length_set, en_at, en_uu, en_gd, ct_172, e36, hc, x0, x1, wm, as_z00, as_q2_0, as_q2_1])
              (by decide) (by rw [md_tpL_len]; exact hrl) (by rw [md_tp_len]; exact t2) (md_tp_both [12, 11, 20, 10, 20, 10] _ _ 0 (by rw [hrl]; decide) (by rw [t2]; decide) (fun i hi => absurd hi (by omega)))
          · have wc := fun (I : Nat → Nat → Int32) (L : Nat → List Int64) (h1 : (L 35).length = 160) (h2 : I 34 2 = Int32.ofNat 0) => cl_158_8 (X := X) (I := I) (A := A) (L := L) (V := V) (W := W) (Q := Q) (v := y) (r := 0) hQ h1 h2 (by decide)
            have wm := fun (I : Nat → Nat → Int32) (L : Nat → List Int64) (h2 : I 36 40 = Int32.ofNat 0) => ct_249 (X := X) (I := I) (A := A) (L := L) (V := V) (W := W) (Q := Q) (v := y) (r := 0) hpd ‹md_q pd x = some (8, a)› t2 h2 (by decide)
            simp only [md_bb, md_lv, md_sv, md_bv, md_lb, md_sb, md_bb, List.length_cons, List.length_nil, List.cons_append, List.nil_append, Nat.zero_add, Nat.reduceAdd] at wc wm
            exact md_stTR (v := .int ((((y + 1) + x + a) * 2) ^^^ ((y - a) + x + a))) (n := 7) (l := md_tpL (List.replicate 160 0) 0 [12, 40, 11, 20, 10, 20, 10]) (a := md_tp (A 56) 0 [12, 40, 11, 20, 10, 20, 10]) hR
              (by
                rw [as_mt (n := 5) (by decide +kernel), show am_ent 5 [.ref 0, .int x, .int 2, .int y] = [some (.ref 0), some (.int x), some (.int 2), some (.int y), none] from rfl]
                simp only [q146_0, q146_1, q146_4, q146_5, q146_6, q146_9, q146_10, q146_13, q146_14, q146_17, q146_17n, q146_19, q146_19n, q146_21n, q146_21, q146_24, q146_25, q146_26, q146_27, q146_52, q146_52n, q146_54, q146_55, q146_56, q146_59, q146_59n, q146_62, q146_63, q146_63n, q146_65, q146_66, q146_67, q146_70, q146_70n, q146_73, q146_74, q146_74n, q146_76, q146_77, q146_78, q146_81, q146_81n, q146_84, q146_85, q146_86, en_c0, en_f0_0, en_f0_1, en_f0_2, en_f0_3, en_f0_4, en_f0_5, en_f0_6, en_f0_7, en_f0_8, en_f0_9, en_p0_9, en_f0_10, en_p0_10, en_a2, en_l2, en_s2, en_a19, en_l19, en_s19, en_c20, en_f20_0, en_f20_1, en_f20_2, en_p20_2, en_f20_3, en_p20_3, en_f20_4, en_p20_4, en_f20_5, en_p20_5, en_f20_6, en_p20_6, en_f20_7, en_p20_7, en_f20_8, en_p20_8, en_f20_9, en_p20_9, en_f20_10, en_p20_10, en_f20_11, en_p20_11, en_f20_12, en_p20_12, en_f20_13, en_p20_13, en_f20_14, en_p20_14, en_a22, en_l22, en_s22, en_c23, en_f23_0, en_f23_1, en_f23_2, en_p23_2, en_f23_3, en_p23_3, en_f23_4, en_p23_4, en_f23_5, en_p23_5, en_f23_6, en_p23_6, en_f23_7, en_p23_7, en_f23_8, en_p23_8, en_f23_9, en_p23_9, en_f23_10, en_p23_10, en_f23_11, en_p23_11, en_f23_12, en_p23_12, en_f23_13, en_p23_13, en_f23_14, en_p23_14, en_c26, en_f26_0, en_f26_1, en_f26_2, en_p26_2, en_f26_3, en_p26_3, en_f26_4, en_p26_4, en_f26_5, en_p26_5, en_f26_6, en_p26_6, en_f26_7, en_p26_7, en_f26_8, en_p26_8, en_f26_9, en_p26_9, en_f26_10, en_p26_10, en_f26_11, en_p26_11, en_f26_12, en_p26_12, en_f26_13, en_p26_13, en_f26_14, en_p26_14, en_c34, en_f34_0, en_f34_1, en_p34_1, en_f34_2, en_p34_2, en_a35, en_l35, en_s35, as_10, as_01, Nat.reduceBEq, Nat.reduceEqDiff, ↓reduceIte, Option.bind_some, Option.getD_some, Option.isSome_some, Option.isSome_none, Bool.false_eq_true, Option.toList, List.nil_append, List.cons_append, List.lookup, Option.isSome, List.getElem?_cons_zero, List.getElem?_cons_succ, beq_self_eq_true, if_true, true_or, or_true, or_false, false_or, am_kl, true_and, and_true, and_false, false_and, if_false, not_true_eq_false, not_false_eq_true, as_b0, as_b1, as_em, as_ne, List.length_cons, List.length_nil, Nat.reduceAdd, Int32.reduceLT, Int32.reduceLE, Int32.reduceAdd, Int32.reduceSub, Int32.neg_neg, Int32.reduceMul, Int32.reduceToNatClampNeg, Nat.reduceLeDiff, Nat.reduceLT, List.set_cons_zero, List.set_cons_succ, List.length_set, en_at, en_uu, en_gd, c12, z30, hc, h1, en_clsQ hQ, wc, hrl, as_z00, as_q2_0, as_q2_1])
              (by
                rw [as_mt (n := 4) (by decide +kernel), show am_ent 4 [.ref 36, .int x, .int 2, .int y] = [some (.ref 36), some (.int x), some (.int 2), some (.int y)] from rfl]
                simp only [q244_0, q244_1, q244_2, q244_5, q244_6, q244_7, q244_10, q244_13, q244_14, q244_17, q244_18, q244_19, q244_22, q244_23, q244_24, q244_25, q244_28, q244_29, q244_30, q244_31, q244_34, q244_37, q244_38, q244_39, q244_42, q244_43, q244_44, q244_45, q244_48, q244_51, q244_52, q244_53, q244_54, q244_57, en_c36, en_f36_0, en_p36_0, en_f36_1, en_p36_1, en_f36_2, en_p36_2, en_f36_3, en_p36_3, en_f36_4, en_p36_4, en_f36_5, en_p36_5, en_f36_6, en_p36_6, en_f36_7, en_p36_7, en_f36_8, en_p36_8, en_f36_9, en_p36_9, en_f36_10, en_p36_10, en_f36_11, en_p36_11, en_f36_12, en_p36_12, en_f36_13, en_p36_13, en_f36_14, en_f36_15, en_f36_16, en_f36_17, en_f36_18, en_f36_19, en_f36_20, en_f36_21, en_f36_22, en_f36_23, en_f36_24, en_f36_25, en_f36_26, en_f36_27, en_f36_28, en_f36_29, en_p36_29, en_f36_30, en_p36_30, en_f36_31, en_p36_31, en_f36_32, en_p36_32, en_f36_33, en_p36_33, en_f36_34, en_f36_35, en_f36_36, en_f36_37, en_f36_38, en_p36_38, en_f36_39, en_f36_40, en_p36_40, en_f36_41, en_p36_41, en_a37, en_l37, en_s37, en_a38, en_l38, en_s38, en_a39, en_l39, en_s39, en_a40, en_l40, en_s40, en_a41, en_l41, en_s41, en_a42, en_l42, en_s42, en_a43, en_l43, en_s43, en_a44, en_l44, en_s44, en_a45, en_l45, en_s45, en_a46, en_l46, en_s46, en_a47, en_l47, en_a48, en_l48, en_a49, en_l49, en_a50, en_l50, en_a51, en_l51, en_s51, en_a52, en_l52, en_s52, en_a53, en_l53, en_s53, en_a54, en_l54, en_s54, en_a55, en_l55, en_s55, en_a56, en_l56, en_s56, as_10, as_01, Nat.reduceBEq, Nat.reduceEqDiff, ↓reduceIte, Option.bind_some, Option.getD_some, Option.isSome_some, Option.isSome_none, Bool.false_eq_true, Option.toList, List.nil_append, List.cons_append, List.lookup, Option.isSome, List.getElem?_cons_zero, List.getElem?_cons_succ, beq_self_eq_true, if_true, true_or, or_true, or_false, false_or, am_kl, true_and, and_true, and_false, false_and, if_false, not_true_eq_false, not_false_eq_true, as_b0, as_b1, as_em, as_ne, List.length_cons, List.length_nil, Nat.reduceAdd, Int32.reduceLT, Int32.reduceLE, Int32.reduceAdd, Int32.reduceSub, Int32.neg_neg, Int32.reduceMul, Int32.reduceToNatClampNeg, Nat.reduceLeDiff, Nat.reduceLT, List.set_cons_zero, List.set_cons_succ, List.length_set, en_at, en_uu, en_gd, ct_172, e36, hc, x0, x1, wm, as_z00, as_q2_0, as_q2_1])
              (by decide) (by rw [md_tpL_len]; exact hrl) (by rw [md_tp_len]; exact t2) (md_tp_both [12, 40, 11, 20, 10, 20, 10] _ _ 0 (by rw [hrl]; decide) (by rw [t2]; decide) (fun i hi => absurd hi (by omega)))
        · have an : act < 0 ∨ ¬ act < 0 ∧ 2 < act := by
            by_cases h : act < 0
            · exact .inl h
            · refine .inr ⟨h, ?_⟩
              obtain ⟨k, hk, rfl⟩ := as_ofN h
              refine (as_lt (a := 2) (by decide) hk).mpr ?_
              apply Classical.byContradiction
              intro hcc
              have : k = 0 ∨ k = 1 ∨ k = 2 := by omega
              rcases this with rfl | rfl | rfl
              · exact a0 rfl
              · exact a1 rfl
              · exact a2 rfl
          rcases an with an | ⟨an, an2⟩
          · skip
            exact md_stTR (v := .int 0) (n := 0) (l := List.replicate 160 0) (a := A 56) hR
              (by
                  rw [as_mt (n := 5) (by decide +kernel), show am_ent 5 [.ref 0, .int x, .int act, .int y] = [some (.ref 0), some (.int x), some (.int act), some (.int y), none] from rfl]
                  simp only [q146_0, q146_1, q146_4, q146_5, q146_6, q146_9, q146_10, q146_13, q146_14, q146_17, q146_17n, q146_19, q146_19n, q146_21n, q146_21, q146_24, q146_25, q146_26, q146_27, q146_52, q146_52n, q146_54, q146_55, q146_56, q146_59, q146_59n, q146_62, q146_63, q146_63n, q146_65, q146_66, q146_67, q146_70, q146_70n, q146_73, q146_74, q146_74n, q146_76, q146_77, q146_78, q146_81, q146_81n, q146_84, q146_85, q146_86, en_c0, en_f0_0, en_f0_1, en_f0_2, en_f0_3, en_f0_4, en_f0_5, en_f0_6, en_f0_7, en_f0_8, en_f0_9, en_p0_9, en_f0_10, en_p0_10, en_a2, en_l2, en_s2, en_a19, en_l19, en_s19, en_c20, en_f20_0, en_f20_1, en_f20_2, en_p20_2, en_f20_3, en_p20_3, en_f20_4, en_p20_4, en_f20_5, en_p20_5, en_f20_6, en_p20_6, en_f20_7, en_p20_7, en_f20_8, en_p20_8, en_f20_9, en_p20_9, en_f20_10, en_p20_10, en_f20_11, en_p20_11, en_f20_12, en_p20_12, en_f20_13, en_p20_13, en_f20_14, en_p20_14, en_a22, en_l22, en_s22, en_c23, en_f23_0, en_f23_1, en_f23_2, en_p23_2, en_f23_3, en_p23_3, en_f23_4, en_p23_4, en_f23_5, en_p23_5, en_f23_6, en_p23_6, en_f23_7, en_p23_7, en_f23_8, en_p23_8, en_f23_9, en_p23_9, en_f23_10, en_p23_10, en_f23_11, en_p23_11, en_f23_12, en_p23_12, en_f23_13, en_p23_13, en_f23_14, en_p23_14, en_c26, en_f26_0, en_f26_1, en_f26_2, en_p26_2, en_f26_3, en_p26_3, en_f26_4, en_p26_4, en_f26_5, en_p26_5, en_f26_6, en_p26_6, en_f26_7, en_p26_7, en_f26_8, en_p26_8, en_f26_9, en_p26_9, en_f26_10, en_p26_10, en_f26_11, en_p26_11, en_f26_12, en_p26_12, en_f26_13, en_p26_13, en_f26_14, en_p26_14, en_c34, en_f34_0, en_f34_1, en_p34_1, en_f34_2, en_p34_2, en_a35, en_l35, en_s35, as_10, as_01, Nat.reduceBEq, Nat.reduceEqDiff, ↓reduceIte, Option.bind_some, Option.getD_some, Option.isSome_some, Option.isSome_none, Bool.false_eq_true, Option.toList, List.nil_append, List.cons_append, List.lookup, Option.isSome, List.getElem?_cons_zero, List.getElem?_cons_succ, beq_self_eq_true, if_true, true_or, or_true, or_false, false_or, am_kl, true_and, and_true, and_false, false_and, if_false, not_true_eq_false, not_false_eq_true, as_b0, as_b1, as_em, as_ne, List.length_cons, List.length_nil, Nat.reduceAdd, Int32.reduceLT, Int32.reduceLE, Int32.reduceAdd, Int32.reduceSub, Int32.neg_neg, Int32.reduceMul, Int32.reduceToNatClampNeg, Nat.reduceLeDiff, Nat.reduceLT, List.set_cons_zero, List.set_cons_succ, List.length_set, en_at, en_uu, en_gd, c12, z30, hc, h1, a0, a1, a2]
                  rfl)
              (by
                  rw [as_mt (n := 4) (by decide +kernel), show am_ent 4 [.ref 36, .int x, .int act, .int y] = [some (.ref 36), some (.int x), some (.int act), some (.int y)] from rfl]
                  simp only [q244_0, q244_1, q244_2, q244_5, q244_6, q244_7, q244_10, q244_13, q244_14, q244_17, q244_18, q244_19, q244_22, q244_23, q244_24, q244_25, q244_28, q244_29, q244_30, q244_31, q244_34, q244_37, q244_38, q244_39, q244_42, q244_43, q244_44, q244_45, q244_48, q244_51, q244_52, q244_53, q244_54, q244_57, en_c36, en_f36_0, en_p36_0, en_f36_1, en_p36_1, en_f36_2, en_p36_2, en_f36_3, en_p36_3, en_f36_4, en_p36_4, en_f36_5, en_p36_5, en_f36_6, en_p36_6, en_f36_7, en_p36_7, en_f36_8, en_p36_8, en_f36_9, en_p36_9, en_f36_10, en_p36_10, en_f36_11, en_p36_11, en_f36_12, en_p36_12, en_f36_13, en_p36_13, en_f36_14, en_f36_15, en_f36_16, en_f36_17, en_f36_18, en_f36_19, en_f36_20, en_f36_21, en_f36_22, en_f36_23, en_f36_24, en_f36_25, en_f36_26, en_f36_27, en_f36_28, en_f36_29, en_p36_29, en_f36_30, en_p36_30, en_f36_31, en_p36_31, en_f36_32, en_p36_32, en_f36_33, en_p36_33, en_f36_34, en_f36_35, en_f36_36, en_f36_37, en_f36_38, en_p36_38, en_f36_39, en_f36_40, en_p36_40, en_f36_41, en_p36_41, en_a37, en_l37, en_s37, en_a38, en_l38, en_s38, en_a39, en_l39, en_s39, en_a40, en_l40, en_s40, en_a41, en_l41, en_s41, en_a42, en_l42, en_s42, en_a43, en_l43, en_s43, en_a44, en_l44, en_s44, en_a45, en_l45, en_s45, en_a46, en_l46, en_s46, en_a47, en_l47, en_a48, en_l48, en_a49, en_l49, en_a50, en_l50, en_a51, en_l51, en_s51, en_a52, en_l52, en_s52, en_a53, en_l53, en_s53, en_a54, en_l54, en_s54, en_a55, en_l55, en_s55, en_a56, en_l56, en_s56, as_10, as_01, Nat.reduceBEq, Nat.reduceEqDiff, ↓reduceIte, Option.bind_some, Option.getD_some, Option.isSome_some, Option.isSome_none, Bool.false_eq_true, Option.toList, List.nil_append, List.cons_append, List.lookup, Option.isSome, List.getElem?_cons_zero, List.getElem?_cons_succ, beq_self_eq_true, if_true, true_or, or_true, or_false, false_or, am_kl, true_and, and_true, and_false, false_and, if_false, not_true_eq_false, not_false_eq_true, as_b0, as_b1, as_em, as_ne, List.length_cons, List.length_nil, Nat.reduceAdd, Int32.reduceLT, Int32.reduceLE, Int32.reduceAdd, Int32.reduceSub, Int32.neg_neg, Int32.reduceMul, Int32.reduceToNatClampNeg, Nat.reduceLeDiff, Nat.reduceLT, List.set_cons_zero, List.set_cons_succ, List.length_set, en_at, en_uu, en_gd, ct_172, e36, z56, hc, x0, x1, an]
                  rfl)
              (by decide) hrl t2 (fun i hi => absurd hi (by omega))
          · skip
            exact md_stTR (v := .int 0) (n := 0) (l := List.replicate 160 0) (a := A 56) hR
              (by
                  rw [as_mt (n := 5) (by decide +kernel), show am_ent 5 [.ref 0, .int x, .int act, .int y] = [some (.ref 0), some (.int x), some (.int act), some (.int y), none] from rfl]
                  simp only [q146_0, q146_1, q146_4, q146_5, q146_6, q146_9, q146_10, q146_13, q146_14, q146_17, q146_17n, q146_19, q146_19n, q146_21n, q146_21, q146_24, q146_25, q146_26, q146_27, q146_52, q146_52n, q146_54, q146_55, q146_56, q146_59, q146_59n, q146_62, q146_63, q146_63n, q146_65, q146_66, q146_67, q146_70, q146_70n, q146_73, q146_74, q146_74n, q146_76, q146_77, q146_78, q146_81, q146_81n, q146_84, q146_85, q146_86, en_c0, en_f0_0, en_f0_1, en_f0_2, en_f0_3, en_f0_4, en_f0_5, en_f0_6, en_f0_7, en_f0_8, en_f0_9, en_p0_9, en_f0_10, en_p0_10, en_a2, en_l2, en_s2, en_a19, en_l19, en_s19, en_c20, en_f20_0, en_f20_1, en_f20_2, en_p20_2, en_f20_3, en_p20_3, en_f20_4, en_p20_4, en_f20_5, en_p20_5, en_f20_6, en_p20_6, en_f20_7, en_p20_7, en_f20_8, en_p20_8, en_f20_9, en_p20_9, en_f20_10, en_p20_10, en_f20_11, en_p20_11, en_f20_12, en_p20_12, en_f20_13, en_p20_13, en_f20_14, en_p20_14, en_a22, en_l22, en_s22, en_c23, en_f23_0, en_f23_1, en_f23_2, en_p23_2, en_f23_3, en_p23_3, en_f23_4, en_p23_4, en_f23_5, en_p23_5, en_f23_6, en_p23_6, en_f23_7, en_p23_7, en_f23_8, en_p23_8, en_f23_9, en_p23_9, en_f23_10, en_p23_10, en_f23_11, en_p23_11, en_f23_12, en_p23_12, en_f23_13, en_p23_13, en_f23_14, en_p23_14, en_c26, en_f26_0, en_f26_1, en_f26_2, en_p26_2, en_f26_3, en_p26_3, en_f26_4, en_p26_4, en_f26_5, en_p26_5, en_f26_6, en_p26_6, en_f26_7, en_p26_7, en_f26_8, en_p26_8, en_f26_9, en_p26_9, en_f26_10, en_p26_10, en_f26_11, en_p26_11, en_f26_12, en_p26_12, en_f26_13, en_p26_13, en_f26_14, en_p26_14, en_c34, en_f34_0, en_f34_1, en_p34_1, en_f34_2, en_p34_2, en_a35, en_l35, en_s35, as_10, as_01, Nat.reduceBEq, Nat.reduceEqDiff, ↓reduceIte, Option.bind_some, Option.getD_some, Option.isSome_some, Option.isSome_none, Bool.false_eq_true, Option.toList, List.nil_append, List.cons_append, List.lookup, Option.isSome, List.getElem?_cons_zero, List.getElem?_cons_succ, beq_self_eq_true, if_true, true_or, or_true, or_false, false_or, am_kl, true_and, and_true, and_false, false_and, if_false, not_true_eq_false, not_false_eq_true, as_b0, as_b1, as_em, as_ne, List.length_cons, List.length_nil, Nat.reduceAdd, Int32.reduceLT, Int32.reduceLE, Int32.reduceAdd, Int32.reduceSub, Int32.neg_neg, Int32.reduceMul, Int32.reduceToNatClampNeg, Nat.reduceLeDiff, Nat.reduceLT, List.set_cons_zero, List.set_cons_succ, List.length_set, en_at, en_uu, en_gd, c12, z30, hc, h1, a0, a1, a2]
                  rfl)
              (by
                  rw [as_mt (n := 4) (by decide +kernel), show am_ent 4 [.ref 36, .int x, .int act, .int y] = [some (.ref 36), some (.int x), some (.int act), some (.int y)] from rfl]
                  simp only [q244_0, q244_1, q244_2, q244_5, q244_6, q244_7, q244_10, q244_13, q244_14, q244_17, q244_18, q244_19, q244_22, q244_23, q244_24, q244_25, q244_28, q244_29, q244_30, q244_31, q244_34, q244_37, q244_38, q244_39, q244_42, q244_43, q244_44, q244_45, q244_48, q244_51, q244_52, q244_53, q244_54, q244_57, en_c36, en_f36_0, en_p36_0, en_f36_1, en_p36_1, en_f36_2, en_p36_2, en_f36_3, en_p36_3, en_f36_4, en_p36_4, en_f36_5, en_p36_5, en_f36_6, en_p36_6, en_f36_7, en_p36_7, en_f36_8, en_p36_8, en_f36_9, en_p36_9, en_f36_10, en_p36_10, en_f36_11, en_p36_11, en_f36_12, en_p36_12, en_f36_13, en_p36_13, en_f36_14, en_f36_15, en_f36_16, en_f36_17, en_f36_18, en_f36_19, en_f36_20, en_f36_21, en_f36_22, en_f36_23, en_f36_24, en_f36_25, en_f36_26, en_f36_27, en_f36_28, en_f36_29, en_p36_29, en_f36_30, en_p36_30, en_f36_31, en_p36_31, en_f36_32, en_p36_32, en_f36_33, en_p36_33, en_f36_34, en_f36_35, en_f36_36, en_f36_37, en_f36_38, en_p36_38, en_f36_39, en_f36_40, en_p36_40, en_f36_41, en_p36_41, en_a37, en_l37, en_s37, en_a38, en_l38, en_s38, en_a39, en_l39, en_s39, en_a40, en_l40, en_s40, en_a41, en_l41, en_s41, en_a42, en_l42, en_s42, en_a43, en_l43, en_s43, en_a44, en_l44, en_s44, en_a45, en_l45, en_s45, en_a46, en_l46, en_s46, en_a47, en_l47, en_a48, en_l48, en_a49, en_l49, en_a50, en_l50, en_a51, en_l51, en_s51, en_a52, en_l52, en_s52, en_a53, en_l53, en_s53, en_a54, en_l54, en_s54, en_a55, en_l55, en_s55, en_a56, en_l56, en_s56, as_10, as_01, Nat.reduceBEq, Nat.reduceEqDiff, ↓reduceIte, Option.bind_some, Option.getD_some, Option.isSome_some, Option.isSome_none, Bool.false_eq_true, Option.toList, List.nil_append, List.cons_append, List.lookup, Option.isSome, List.getElem?_cons_zero, List.getElem?_cons_succ, beq_self_eq_true, if_true, true_or, or_true, or_false, false_or, am_kl, true_and, and_true, and_false, false_and, if_false, not_true_eq_false, not_false_eq_true, as_b0, as_b1, as_em, as_ne, List.length_cons, List.length_nil, Nat.reduceAdd, Int32.reduceLT, Int32.reduceLE, Int32.reduceAdd, Int32.reduceSub, Int32.neg_neg, Int32.reduceMul, Int32.reduceToNatClampNeg, Nat.reduceLeDiff, Nat.reduceLT, List.set_cons_zero, List.set_cons_succ, List.length_set, en_at, en_uu, en_gd, ct_172, e36, z56, hc, x0, x1, an, an2]
                  rfl)
              (by decide) hrl t2 (fun i hi => absurd hi (by omega))

set_option maxRecDepth 100000 in
theorem sp_trace {X : List Int32} {I : Nat → Nat → Int32} {A : Nat → List Int32} {L : Nat → List Int64} {V : Nat → List Value} {W : Value} {Q : am_Mem} {i : Int32} (hR : md_RX I A L V Q) : md_Stp X 159 250 [.int i] I A L V W Q := by
  have hR0 := hR
  obtain ⟨pl, pd, pl2, pd2, hR1⟩ := hR0
  have hR2 := hR1
  obtain ⟨r1, r2, r3, r4, r5, r6, r7, r8⟩ := hR1
  obtain ⟨hEQ, hrg, h40, hfl, hpd, hV, hc, hq⟩ := r1
  have hEQ0 := hEQ
  obtain ⟨E0, E1, E2, E3, E4, E5, E6, E7, E8, E9, E10, E11, E12⟩ := hEQ
  have hrg0 := hrg
  obtain ⟨⟨B, hB, hb⟩, ⟨wp, hw6, hw⟩, ⟨fo, hf9, hfo⟩, ⟨br, hbr2, hbr⟩, ⟨g, u, t, hg1, hg, hug, htg, hgl, hus, hth⟩, hsv⟩ := hrg
  have hl : pl.length ≤ 12 := by rw [hq.1]; exact hpd.2.2.1
  have hf : (A 22).length = 6 := hfl.1
  have hfl4 : md_FL (A 40) pd := by rw [h40]; exact hfl
  have h4l : (A 40).length = 6 := hfl4.1
  have h19 := r4.1
  have h37 := r4.2.1
  obtain ⟨t1, t2, n0, t3, t4, t5, t6⟩ := r6
  by_cases i0 : i < 0
  · exact md_same (v := .int (-1)) hR
      (by
      rw [as_mt (n := 2) (by decide +kernel), show am_ent 2 [.ref 0, .int i] = [some (.ref 0), some (.int i)] from rfl]
      simp only [q159_0, q159_1, q159_4, q159_5, q159_8, q159_11, q159_12, q159_14, q159_17, q159_18, q159_21, q159_22, q159_25, q159_28, q159_29, en_c0, en_f0_0, en_f0_1, en_f0_2, en_f0_3, en_f0_4, en_f0_5, en_f0_6, en_f0_7, en_f0_8, en_f0_9, en_p0_9, en_f0_10, en_p0_10, en_a2, en_l2, en_s2, en_a19, en_l19, en_s19, en_c20, en_f20_0, en_f20_1, en_f20_2, en_p20_2, en_f20_3, en_p20_3, en_f20_4, en_p20_4, en_f20_5, en_p20_5, en_f20_6, en_p20_6, en_f20_7, en_p20_7, en_f20_8, en_p20_8, en_f20_9, en_p20_9, en_f20_10, en_p20_10, en_f20_11, en_p20_11, en_f20_12, en_p20_12, en_f20_13, en_p20_13, en_f20_14, en_p20_14, en_a22, en_l22, en_s22, en_c23, en_f23_0, en_f23_1, en_f23_2, en_p23_2, en_f23_3, en_p23_3, en_f23_4, en_p23_4, en_f23_5, en_p23_5, en_f23_6, en_p23_6, en_f23_7, en_p23_7, en_f23_8, en_p23_8, en_f23_9, en_p23_9, en_f23_10, en_p23_10, en_f23_11, en_p23_11, en_f23_12, en_p23_12, en_f23_13, en_p23_13, en_f23_14, en_p23_14, en_c26, en_f26_0, en_f26_1, en_f26_2, en_p26_2, en_f26_3, en_p26_3, en_f26_4, en_p26_4, en_f26_5, en_p26_5, en_f26_6, en_p26_6, en_f26_7, en_p26_7, en_f26_8, en_p26_8, en_f26_9, en_p26_9, en_f26_10, en_p26_10, en_f26_11, en_p26_11, en_f26_12, en_p26_12, en_f26_13, en_p26_13, en_f26_14, en_p26_14, en_c34, en_f34_0, en_f34_1, en_p34_1, en_f34_2, en_p34_2, en_a35, en_l35, en_s35, as_10, as_01, Nat.reduceBEq, Nat.reduceEqDiff, ↓reduceIte, Option.bind_some, Option.getD_some, Option.isSome_some, Option.isSome_none, Bool.false_eq_true, Option.toList, List.nil_append, List.cons_append, List.lookup, Option.isSome, List.getElem?_cons_zero, List.getElem?_cons_succ, beq_self_eq_true, if_true, true_or, or_true, or_false, false_or, am_kl, true_and, and_true, and_false, false_and, if_false, not_true_eq_false, not_false_eq_true, as_b0, as_b1, as_em, as_ne, List.length_cons, List.length_nil, Nat.reduceAdd, Int32.reduceLT, Int32.reduceLE, Int32.reduceAdd, Int32.reduceSub, Int32.neg_neg, Int32.reduceMul, Int32.reduceToNatClampNeg, Nat.reduceLeDiff, Nat.reduceLT, List.set_cons_zero, List.set_cons_succ, List.length_set, en_at, en_uu, en_gd, (fun i => ct_16 (X := X) (i := i) (r := 34) (e := 35) (M := en_E I A L V W Q) en_g34 en_g35 t1), i0])
      (by
      rw [as_mt (n := 2) (by decide +kernel), show am_ent 2 [.ref 36, .int i] = [some (.ref 36), some (.int i)] from rfl]
      simp only [q250_0, q250_1, q250_4, q250_5, q250_7, q250_10, q250_11, q250_12, q250_15, q250_18, q250_19, q250_22, q250_23, q250_24, q250_27, q250_28, en_c36, en_f36_0, en_p36_0, en_f36_1, en_p36_1, en_f36_2, en_p36_2, en_f36_3, en_p36_3, en_f36_4, en_p36_4, en_f36_5, en_p36_5, en_f36_6, en_p36_6, en_f36_7, en_p36_7, en_f36_8, en_p36_8, en_f36_9, en_p36_9, en_f36_10, en_p36_10, en_f36_11, en_p36_11, en_f36_12, en_p36_12, en_f36_13, en_p36_13, en_f36_14, en_f36_15, en_f36_16, en_f36_17, en_f36_18, en_f36_19, en_f36_20, en_f36_21, en_f36_22, en_f36_23, en_f36_24, en_f36_25, en_f36_26, en_f36_27, en_f36_28, en_f36_29, en_p36_29, en_f36_30, en_p36_30, en_f36_31, en_p36_31, en_f36_32, en_p36_32, en_f36_33, en_p36_33, en_f36_34, en_f36_35, en_f36_36, en_f36_37, en_f36_38, en_p36_38, en_f36_39, en_f36_40, en_p36_40, en_f36_41, en_p36_41, en_a37, en_l37, en_s37, en_a38, en_l38, en_s38, en_a39, en_l39, en_s39, en_a40, en_l40, en_s40, en_a41, en_l41, en_s41, en_a42, en_l42, en_s42, en_a43, en_l43, en_s43, en_a44, en_l44, en_s44, en_a45, en_l45, en_s45, en_a46, en_l46, en_s46, en_a47, en_l47, en_a48, en_l48, en_a49, en_l49, en_a50, en_l50, en_a51, en_l51, en_s51, en_a52, en_l52, en_s52, en_a53, en_l53, en_s53, en_a54, en_l54, en_s54, en_a55, en_l55, en_s55, en_a56, en_l56, en_s56, as_10, as_01, Nat.reduceBEq, Nat.reduceEqDiff, ↓reduceIte, Option.bind_some, Option.getD_some, Option.isSome_some, Option.isSome_none, Bool.false_eq_true, Option.toList, List.nil_append, List.cons_append, List.lookup, Option.isSome, List.getElem?_cons_zero, List.getElem?_cons_succ, beq_self_eq_true, if_true, true_or, or_true, or_false, false_or, am_kl, true_and, and_true, and_false, false_and, if_false, not_true_eq_false, not_false_eq_true, as_b0, as_b1, as_em, as_ne, List.length_cons, List.length_nil, Nat.reduceAdd, Int32.reduceLT, Int32.reduceLE, Int32.reduceAdd, Int32.reduceSub, Int32.neg_neg, Int32.reduceMul, Int32.reduceToNatClampNeg, Nat.reduceLeDiff, Nat.reduceLT, List.set_cons_zero, List.set_cons_succ, List.length_set, en_at, en_uu, en_gd, i0])
  · obtain ⟨k, hk, rfl⟩ := as_ofN i0
    have s1 := as_lt hk (show n0 < 2147483648 by omega)
    have s2 : Int32.ofNat k < 20 ↔ k < 20 := as_lt hk (by decide)
    have s3 := as_lt hk (show 160 < 2147483648 by decide)
    have c16 := fun i => ct_16 (X := X) (i := i) (r := 34) (e := 35) (M := en_E I A L V W Q) en_g34 en_g35 t1
    have c87 := fun i => ct_87 (X := X) (i := i) (r := 34) (e := 35) (n := n0) (M := en_E I A L V W Q) (en_g34.trans (by rw [t4])) en_g35 t1 (by omega)
    have nk := as_nat hk
    by_cases k1 : k < n0
    · have k2 : k < 20 := by omega
      have k3 : k < 160 := by omega
      have el : (md_el (L 35) n0 (Int32.ofNat k)).toInt32 = (A 56).getD k 0 := by
        unfold md_el
        rw [if_neg i0, nk, if_pos k1]
        exact t6 k k1
      exact md_same (v := .int ((A 56).getD k 0)) hR
        (by
      rw [as_mt (n := 2) (by decide +kernel), show am_ent 2 [.ref 0, .int (Int32.ofNat k)] = [some (.ref 0), some (.int (Int32.ofNat k))] from rfl]
      simp only [q159_0, q159_1, q159_4, q159_5, q159_8, q159_11, q159_12, q159_14, q159_17, q159_18, q159_21, q159_22, q159_25, q159_28, q159_29, en_c0, en_f0_0, en_f0_1, en_f0_2, en_f0_3, en_f0_4, en_f0_5, en_f0_6, en_f0_7, en_f0_8, en_f0_9, en_p0_9, en_f0_10, en_p0_10, en_a2, en_l2, en_s2, en_a19, en_l19, en_s19, en_c20, en_f20_0, en_f20_1, en_f20_2, en_p20_2, en_f20_3, en_p20_3, en_f20_4, en_p20_4, en_f20_5, en_p20_5, en_f20_6, en_p20_6, en_f20_7, en_p20_7, en_f20_8, en_p20_8, en_f20_9, en_p20_9, en_f20_10, en_p20_10, en_f20_11, en_p20_11, en_f20_12, en_p20_12, en_f20_13, en_p20_13, en_f20_14, en_p20_14, en_a22, en_l22, en_s22, en_c23, en_f23_0, en_f23_1, en_f23_2, en_p23_2, en_f23_3, en_p23_3, en_f23_4, en_p23_4, en_f23_5, en_p23_5, en_f23_6, en_p23_6, en_f23_7, en_p23_7, en_f23_8, en_p23_8, en_f23_9, en_p23_9, en_f23_10, en_p23_10, en_f23_11, en_p23_11, en_f23_12, en_p23_12, en_f23_13, en_p23_13, en_f23_14, en_p23_14, en_c26, en_f26_0, en_f26_1, en_f26_2, en_p26_2, en_f26_3, en_p26_3, en_f26_4, en_p26_4, en_f26_5, en_p26_5, en_f26_6, en_p26_6, en_f26_7, en_p26_7, en_f26_8, en_p26_8, en_f26_9, en_p26_9, en_f26_10, en_p26_10, en_f26_11, en_p26_11, en_f26_12, en_p26_12, en_f26_13, en_p26_13, en_f26_14, en_p26_14, en_c34, en_f34_0, en_f34_1, en_p34_1, en_f34_2, en_p34_2, en_a35, en_l35, en_s35, as_10, as_01, Nat.reduceBEq, Nat.reduceEqDiff, ↓reduceIte, Option.bind_some, Option.getD_some, Option.isSome_some, Option.isSome_none, Bool.false_eq_true, Option.toList, List.nil_append, List.cons_append, List.lookup, Option.isSome, List.getElem?_cons_zero, List.getElem?_cons_succ, beq_self_eq_true, if_true, true_or, or_true, or_false, false_or, am_kl, true_and, and_true, and_false, false_and, if_false, not_true_eq_false, not_false_eq_true, as_b0, as_b1, as_em, as_ne, List.length_cons, List.length_nil, Nat.reduceAdd, Int32.reduceLT, Int32.reduceLE, Int32.reduceAdd, Int32.reduceSub, Int32.neg_neg, Int32.reduceMul, Int32.reduceToNatClampNeg, Nat.reduceLeDiff, Nat.reduceLT, List.set_cons_zero, List.set_cons_succ, List.length_set, en_at, en_uu, en_gd, c16, c87, i0, t4, s1, s2, s3, k1, k2, k3, el])
        (by
      rw [as_mt (n := 2) (by decide +kernel), show am_ent 2 [.ref 36, .int (Int32.ofNat k)] = [some (.ref 36), some (.int (Int32.ofNat k))] from rfl]
      simp only [q250_0, q250_1, q250_4, q250_5, q250_7, q250_10, q250_11, q250_12, q250_15, q250_18, q250_19, q250_22, q250_23, q250_24, q250_27, q250_28, en_c36, en_f36_0, en_p36_0, en_f36_1, en_p36_1, en_f36_2, en_p36_2, en_f36_3, en_p36_3, en_f36_4, en_p36_4, en_f36_5, en_p36_5, en_f36_6, en_p36_6, en_f36_7, en_p36_7, en_f36_8, en_p36_8, en_f36_9, en_p36_9, en_f36_10, en_p36_10, en_f36_11, en_p36_11, en_f36_12, en_p36_12, en_f36_13, en_p36_13, en_f36_14, en_f36_15, en_f36_16, en_f36_17, en_f36_18, en_f36_19, en_f36_20, en_f36_21, en_f36_22, en_f36_23, en_f36_24, en_f36_25, en_f36_26, en_f36_27, en_f36_28, en_f36_29, en_p36_29, en_f36_30, en_p36_30, en_f36_31, en_p36_31, en_f36_32, en_p36_32, en_f36_33, en_p36_33, en_f36_34, en_f36_35, en_f36_36, en_f36_37, en_f36_38, en_p36_38, en_f36_39, en_f36_40, en_p36_40, en_f36_41, en_p36_41, en_a37, en_l37, en_s37, en_a38, en_l38, en_s38, en_a39, en_l39, en_s39, en_a40, en_l40, en_s40, en_a41, en_l41, en_s41, en_a42, en_l42, en_s42, en_a43, en_l43, en_s43, en_a44, en_l44, en_s44, en_a45, en_l45, en_s45, en_a46, en_l46, en_s46, en_a47, en_l47, en_a48, en_l48, en_a49, en_l49, en_a50, en_l50, en_a51, en_l51, en_s51, en_a52, en_l52, en_s52, en_a53, en_l53, en_s53, en_a54, en_l54, en_s54, en_a55, en_l55, en_s55, en_a56, en_l56, en_s56, as_10, as_01, Nat.reduceBEq, Nat.reduceEqDiff, ↓reduceIte, Option.bind_some, Option.getD_some, Option.isSome_some, Option.isSome_none, Bool.false_eq_true, Option.toList, List.nil_append, List.cons_append, List.lookup, Option.isSome, List.getElem?_cons_zero, List.getElem?_cons_succ, beq_self_eq_true, if_true, true_or, or_true, or_false, false_or, am_kl, true_and, and_true, and_false, false_and, if_false, not_true_eq_false, not_false_eq_true, as_b0, as_b1, as_em, as_ne, List.length_cons, List.length_nil, Nat.reduceAdd, Int32.reduceLT, Int32.reduceLE, Int32.reduceAdd, Int32.reduceSub, Int32.neg_neg, Int32.reduceMul, Int32.reduceToNatClampNeg, Nat.reduceLeDiff, Nat.reduceLT, List.set_cons_zero, List.set_cons_succ, List.length_set, en_at, en_uu, en_gd, i0, t5, s1, s2, k1, k2, nk, t2])
    · by_cases k2 : k < 20
      · have k3 : k < 160 := by omega
        exact md_same (v := .int (-1)) hR
          (by
      rw [as_mt (n := 2) (by decide +kernel), show am_ent 2 [.ref 0, .int (Int32.ofNat k)] = [some (.ref 0), some (.int (Int32.ofNat k))] from rfl]
      simp only [q159_0, q159_1, q159_4, q159_5, q159_8, q159_11, q159_12, q159_14, q159_17, q159_18, q159_21, q159_22, q159_25, q159_28, q159_29, en_c0, en_f0_0, en_f0_1, en_f0_2, en_f0_3, en_f0_4, en_f0_5, en_f0_6, en_f0_7, en_f0_8, en_f0_9, en_p0_9, en_f0_10, en_p0_10, en_a2, en_l2, en_s2, en_a19, en_l19, en_s19, en_c20, en_f20_0, en_f20_1, en_f20_2, en_p20_2, en_f20_3, en_p20_3, en_f20_4, en_p20_4, en_f20_5, en_p20_5, en_f20_6, en_p20_6, en_f20_7, en_p20_7, en_f20_8, en_p20_8, en_f20_9, en_p20_9, en_f20_10, en_p20_10, en_f20_11, en_p20_11, en_f20_12, en_p20_12, en_f20_13, en_p20_13, en_f20_14, en_p20_14, en_a22, en_l22, en_s22, en_c23, en_f23_0, en_f23_1, en_f23_2, en_p23_2, en_f23_3, en_p23_3, en_f23_4, en_p23_4, en_f23_5, en_p23_5, en_f23_6, en_p23_6, en_f23_7, en_p23_7, en_f23_8, en_p23_8, en_f23_9, en_p23_9, en_f23_10, en_p23_10, en_f23_11, en_p23_11, en_f23_12, en_p23_12, en_f23_13, en_p23_13, en_f23_14, en_p23_14, en_c26, en_f26_0, en_f26_1, en_f26_2, en_p26_2, en_f26_3, en_p26_3, en_f26_4, en_p26_4, en_f26_5, en_p26_5, en_f26_6, en_p26_6, en_f26_7, en_p26_7, en_f26_8, en_p26_8, en_f26_9, en_p26_9, en_f26_10, en_p26_10, en_f26_11, en_p26_11, en_f26_12, en_p26_12, en_f26_13, en_p26_13, en_f26_14, en_p26_14, en_c34, en_f34_0, en_f34_1, en_p34_1, en_f34_2, en_p34_2, en_a35, en_l35, en_s35, as_10, as_01, Nat.reduceBEq, Nat.reduceEqDiff, ↓reduceIte, Option.bind_some, Option.getD_some, Option.isSome_some, Option.isSome_none, Bool.false_eq_true, Option.toList, List.nil_append, List.cons_append, List.lookup, Option.isSome, List.getElem?_cons_zero, List.getElem?_cons_succ, beq_self_eq_true, if_true, true_or, or_true, or_false, false_or, am_kl, true_and, and_true, and_false, false_and, if_false, not_true_eq_false, not_false_eq_true, as_b0, as_b1, as_em, as_ne, List.length_cons, List.length_nil, Nat.reduceAdd, Int32.reduceLT, Int32.reduceLE, Int32.reduceAdd, Int32.reduceSub, Int32.neg_neg, Int32.reduceMul, Int32.reduceToNatClampNeg, Nat.reduceLeDiff, Nat.reduceLT, List.set_cons_zero, List.set_cons_succ, List.length_set, en_at, en_uu, en_gd, c16, i0, t4, s1, s2, s3, k1, k2, k3])
          (by
      rw [as_mt (n := 2) (by decide +kernel), show am_ent 2 [.ref 36, .int (Int32.ofNat k)] = [some (.ref 36), some (.int (Int32.ofNat k))] from rfl]
      simp only [q250_0, q250_1, q250_4, q250_5, q250_7, q250_10, q250_11, q250_12, q250_15, q250_18, q250_19, q250_22, q250_23, q250_24, q250_27, q250_28, en_c36, en_f36_0, en_p36_0, en_f36_1, en_p36_1, en_f36_2, en_p36_2, en_f36_3, en_p36_3, en_f36_4, en_p36_4, en_f36_5, en_p36_5, en_f36_6, en_p36_6, en_f36_7, en_p36_7, en_f36_8, en_p36_8, en_f36_9, en_p36_9, en_f36_10, en_p36_10, en_f36_11, en_p36_11, en_f36_12, en_p36_12, en_f36_13, en_p36_13, en_f36_14, en_f36_15, en_f36_16, en_f36_17, en_f36_18, en_f36_19, en_f36_20, en_f36_21, en_f36_22, en_f36_23, en_f36_24, en_f36_25, en_f36_26, en_f36_27, en_f36_28, en_f36_29, en_p36_29, en_f36_30, en_p36_30, en_f36_31, en_p36_31, en_f36_32, en_p36_32, en_f36_33, en_p36_33, en_f36_34, en_f36_35, en_f36_36, en_f36_37, en_f36_38, en_p36_38, en_f36_39, en_f36_40, en_p36_40, en_f36_41, en_p36_41, en_a37, en_l37, en_s37, en_a38, en_l38, en_s38, en_a39, en_l39, en_s39, en_a40, en_l40, en_s40, en_a41, en_l41, en_s41, en_a42, en_l42, en_s42, en_a43, en_l43, en_s43, en_a44, en_l44, en_s44, en_a45, en_l45, en_s45, en_a46, en_l46, en_s46, en_a47, en_l47, en_a48, en_l48, en_a49, en_l49, en_a50, en_l50, en_a51, en_l51, en_s51, en_a52, en_l52, en_s52, en_a53, en_l53, en_s53, en_a54, en_l54, en_s54, en_a55, en_l55, en_s55, en_a56, en_l56, en_s56, as_10, as_01, Nat.reduceBEq, Nat.reduceEqDiff, ↓reduceIte, Option.bind_some, Option.getD_some, Option.isSome_some, Option.isSome_none, Bool.false_eq_true, Option.toList, List.nil_append, List.cons_append, List.lookup, Option.isSome, List.getElem?_cons_zero, List.getElem?_cons_succ, beq_self_eq_true, if_true, true_or, or_true, or_false, false_or, am_kl, true_and, and_true, and_false, false_and, if_false, not_true_eq_false, not_false_eq_true, as_b0, as_b1, as_em, as_ne, List.length_cons, List.length_nil, Nat.reduceAdd, Int32.reduceLT, Int32.reduceLE, Int32.reduceAdd, Int32.reduceSub, Int32.neg_neg, Int32.reduceMul, Int32.reduceToNatClampNeg, Nat.reduceLeDiff, Nat.reduceLT, List.set_cons_zero, List.set_cons_succ, List.length_set, en_at, en_uu, en_gd, i0, t5, s1, s2, k1, k2])
      · exact md_same (v := .int (-1)) hR
          (by
      rw [as_mt (n := 2) (by decide +kernel), show am_ent 2 [.ref 0, .int (Int32.ofNat k)] = [some (.ref 0), some (.int (Int32.ofNat k))] from rfl]
      simp only [q159_0, q159_1, q159_4, q159_5, q159_8, q159_11, q159_12, q159_14, q159_17, q159_18, q159_21, q159_22, q159_25, q159_28, q159_29, en_c0, en_f0_0, en_f0_1, en_f0_2, en_f0_3, en_f0_4, en_f0_5, en_f0_6, en_f0_7, en_f0_8, en_f0_9, en_p0_9, en_f0_10, en_p0_10, en_a2, en_l2, en_s2, en_a19, en_l19, en_s19, en_c20, en_f20_0, en_f20_1, en_f20_2, en_p20_2, en_f20_3, en_p20_3, en_f20_4, en_p20_4, en_f20_5, en_p20_5, en_f20_6, en_p20_6, en_f20_7, en_p20_7, en_f20_8, en_p20_8, en_f20_9, en_p20_9, en_f20_10, en_p20_10, en_f20_11, en_p20_11, en_f20_12, en_p20_12, en_f20_13, en_p20_13, en_f20_14, en_p20_14, en_a22, en_l22, en_s22, en_c23, en_f23_0, en_f23_1, en_f23_2, en_p23_2, en_f23_3, en_p23_3, en_f23_4, en_p23_4, en_f23_5, en_p23_5, en_f23_6, en_p23_6, en_f23_7, en_p23_7, en_f23_8, en_p23_8, en_f23_9, en_p23_9, en_f23_10, en_p23_10, en_f23_11, en_p23_11, en_f23_12, en_p23_12, en_f23_13, en_p23_13, en_f23_14, en_p23_14, en_c26, en_f26_0, en_f26_1, en_f26_2, en_p26_2, en_f26_3, en_p26_3, en_f26_4, en_p26_4, en_f26_5, en_p26_5, en_f26_6, en_p26_6, en_f26_7, en_p26_7, en_f26_8, en_p26_8, en_f26_9, en_p26_9, en_f26_10, en_p26_10, en_f26_11, en_p26_11, en_f26_12, en_p26_12, en_f26_13, en_p26_13, en_f26_14, en_p26_14, en_c34, en_f34_0, en_f34_1, en_p34_1, en_f34_2, en_p34_2, en_a35, en_l35, en_s35, as_10, as_01, Nat.reduceBEq, Nat.reduceEqDiff, ↓reduceIte, Option.bind_some, Option.getD_some, Option.isSome_some, Option.isSome_none, Bool.false_eq_true, Option.toList, List.nil_append, List.cons_append, List.lookup, Option.isSome, List.getElem?_cons_zero, List.getElem?_cons_succ, beq_self_eq_true, if_true, true_or, or_true, or_false, false_or, am_kl, true_and, and_true, and_false, false_and, if_false, not_true_eq_false, not_false_eq_true, as_b0, as_b1, as_em, as_ne, List.length_cons, List.length_nil, Nat.reduceAdd, Int32.reduceLT, Int32.reduceLE, Int32.reduceAdd, Int32.reduceSub, Int32.neg_neg, Int32.reduceMul, Int32.reduceToNatClampNeg, Nat.reduceLeDiff, Nat.reduceLT, List.set_cons_zero, List.set_cons_succ, List.length_set, en_at, en_uu, en_gd, c16, i0, t4, s1, s2, s3, k1, k2])
          (by
      rw [as_mt (n := 2) (by decide +kernel), show am_ent 2 [.ref 36, .int (Int32.ofNat k)] = [some (.ref 36), some (.int (Int32.ofNat k))] from rfl]
      simp only [q250_0, q250_1, q250_4, q250_5, q250_7, q250_10, q250_11, q250_12, q250_15, q250_18, q250_19, q250_22, q250_23, q250_24, q250_27, q250_28, en_c36, en_f36_0, en_p36_0, en_f36_1, en_p36_1, en_f36_2, en_p36_2, en_f36_3, en_p36_3, en_f36_4, en_p36_4, en_f36_5, en_p36_5, en_f36_6, en_p36_6, en_f36_7, en_p36_7, en_f36_8, en_p36_8, en_f36_9, en_p36_9, en_f36_10, en_p36_10, en_f36_11, en_p36_11, en_f36_12, en_p36_12, en_f36_13, en_p36_13, en_f36_14, en_f36_15, en_f36_16, en_f36_17, en_f36_18, en_f36_19, en_f36_20, en_f36_21, en_f36_22, en_f36_23, en_f36_24, en_f36_25, en_f36_26, en_f36_27, en_f36_28, en_f36_29, en_p36_29, en_f36_30, en_p36_30, en_f36_31, en_p36_31, en_f36_32, en_p36_32, en_f36_33, en_p36_33, en_f36_34, en_f36_35, en_f36_36, en_f36_37, en_f36_38, en_p36_38, en_f36_39, en_f36_40, en_p36_40, en_f36_41, en_p36_41, en_a37, en_l37, en_s37, en_a38, en_l38, en_s38, en_a39, en_l39, en_s39, en_a40, en_l40, en_s40, en_a41, en_l41, en_s41, en_a42, en_l42, en_s42, en_a43, en_l43, en_s43, en_a44, en_l44, en_s44, en_a45, en_l45, en_s45, en_a46, en_l46, en_s46, en_a47, en_l47, en_a48, en_l48, en_a49, en_l49, en_a50, en_l50, en_a51, en_l51, en_s51, en_a52, en_l52, en_s52, en_a53, en_l53, en_s53, en_a54, en_l54, en_s54, en_a55, en_l55, en_s55, en_a56, en_l56, en_s56, as_10, as_01, Nat.reduceBEq, Nat.reduceEqDiff, ↓reduceIte, Option.bind_some, Option.getD_some, Option.isSome_some, Option.isSome_none, Bool.false_eq_true, Option.toList, List.nil_append, List.cons_append, List.lookup, Option.isSome, List.getElem?_cons_zero, List.getElem?_cons_succ, beq_self_eq_true, if_true, true_or, or_true, or_false, false_or, am_kl, true_and, and_true, and_false, false_and, if_false, not_true_eq_false, not_false_eq_true, as_b0, as_b1, as_em, as_ne, List.length_cons, List.length_nil, Nat.reduceAdd, Int32.reduceLT, Int32.reduceLE, Int32.reduceAdd, Int32.reduceSub, Int32.neg_neg, Int32.reduceMul, Int32.reduceToNatClampNeg, Nat.reduceLeDiff, Nat.reduceLT, List.set_cons_zero, List.set_cons_succ, List.length_set, en_at, en_uu, en_gd, i0, t5, s1, s2, k1, k2])

