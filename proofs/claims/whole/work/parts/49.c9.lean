/-! ===== contracts: rows, begun anew and copied ===== -/
set_option maxRecDepth 100000 in
theorem ct_12_l {X : List Int32} {r e : Nat} {so sz a b : Int32} : ∀ (j k : Nat) (ys : List Int64) (M : am_Mem), M[r]? = some (.inr (.inr (.inr (5, [.ref e, .int so, .int sz])))) → M[e]? = some (.inr (.inl ys)) → ys.length = 160 → k + j = 160 → (∀ q, q < k → ys[q]? = some 0) →
    am_go X 12 24 [some (.ref r), some (.int a), some (.int b), some (.int (Int32.ofNat k))] [] M = some (none, M.set e (.inr (.inl (List.replicate 160 0))))
  | 0, k, ys, M, hr, he, hy, hk, hz => by
    have e2 := as_lt (show k < 2147483648 by omega) (show 160 < 2147483648 by decide)
    have h2 : ¬ k < 160 := by omega
    have e3 : ys = List.replicate 160 0 := by
      apply List.ext_getElem?
      intro q
      by_cases hq : q < 160
      · rw [hz q (by omega), List.getElem?_replicate, if_pos hq]
      · rw [List.getElem?_eq_none (by omega), List.getElem?_eq_none (by rw [List.length_replicate]; omega)]
    rw [← e3, as_same he]
    simp only [q12_24, q12_25, q12_26, q12_29, q12_30, q12_33, q12_34, q12_37, q12_38, q12_39, q12_40, q12_43, q12_46, hr, he, hy, e2, h2, as_10, as_01, Nat.reduceBEq, Nat.reduceEqDiff, ↓reduceIte, Option.bind_some, Option.getD_some, Option.isSome_some, Option.isSome_none, Bool.false_eq_true, Option.toList, List.nil_append, List.cons_append, List.lookup, Option.isSome, List.getElem?_cons_zero, List.getElem?_cons_succ, beq_self_eq_true, if_true, true_or, or_true, am_kl, am_gf, am_ia, am_la, am_aa, am_len, am_cls, true_and, and_true, List.length_cons, List.length_nil, Nat.reduceAdd, Int32.reduceLT, Int32.reduceLE, Int32.reduceAdd, Int32.reduceSub, Int32.reduceToNatClampNeg, if_false, false_or, or_false, Nat.reduceLeDiff, Nat.reduceLT, List.set_cons_zero, List.set_cons_succ]
  | j + 1, k, ys, M, hr, he, hy, hk, hz => by
    have e2 := as_lt (show k < 2147483648 by omega) (show 160 < 2147483648 by decide)
    have h2 : k < 160 := by omega
    have h3 : ¬ 160 ≤ k := by omega
    have ih := ct_12_l (X := X) (a := a) (b := b) j (k + 1) (ys.set k 0) (M.set e (.inr (.inl (ys.set k 0)))) (by rw [as_sne (as_neq he hr (by simp))]; exact hr) (as_set he) (by rw [List.length_set]; exact hy) (by omega) (fun q hq => by
      by_cases h : k = q
      · subst h; exact List.getElem?_set_self (by omega)
      · rw [List.getElem?_set_ne h]; exact hz q (by omega))
    rw [List.set_set] at ih
    have e5 : Int32.ofNat k + 1 = Int32.ofNat (k + 1) := as_add (b := 1)
    simp only [q12_24, q12_25, q12_26, q12_29, q12_30, q12_33, q12_34, q12_37, q12_38, q12_39, q12_40, q12_43, q12_46, hr, he, hy, e2, h2, h3, am_lset, as_pos (show k < 2147483648 by omega), as_nat (show k < 2147483648 by omega), or_false, false_or, e5, ih, as_10, as_01, Nat.reduceBEq, Nat.reduceEqDiff, ↓reduceIte, Option.bind_some, Option.getD_some, Option.isSome_some, Option.isSome_none, Bool.false_eq_true, Option.toList, List.nil_append, List.cons_append, List.lookup, Option.isSome, List.getElem?_cons_zero, List.getElem?_cons_succ, beq_self_eq_true, if_true, true_or, or_true, am_kl, am_gf, am_ia, am_la, am_aa, am_len, am_cls, true_and, and_true, List.length_cons, List.length_nil, Nat.reduceAdd, Int32.reduceLT, Int32.reduceLE, Int32.reduceAdd, Int32.reduceSub, Int32.reduceToNatClampNeg, if_false, false_or, or_false, Nat.reduceLeDiff, Nat.reduceLT, List.set_cons_zero, List.set_cons_succ]
set_option maxRecDepth 100000 in
theorem ct_12 {X : List Int32} {M : am_Mem} {r e n : Nat} {so : Int32} {xs : List Int64} {so2 : Int32} {k : Nat} (hr : M[r]? = some (.inr (.inr (.inr (5, [.ref e, .int so, .int (Int32.ofNat n)]))))) (he : M[e]? = some (.inr (.inl xs))) (hx : xs.length = 160) (hn : n ≤ 160) (hk : k ≤ 160) :
    am_mt X 12 [.ref r, .int so2, .int (Int32.ofNat k)] M = some (none, (M.set r (.inr (.inr (.inr (5, [.ref e, .int so2, .int (Int32.ofNat k)]))))).set e (.inr (.inl (List.replicate 160 0)))) := by
  rw [as_mt (n := 4) (by decide +kernel), show am_ent 4 [.ref r, .int so2, .int (Int32.ofNat k)] = [some (.ref r), some (.int so2), some (.int (Int32.ofNat k)), none] from rfl]
  have e1 := as_lt (show 160 < 2147483648 by decide) (show k < 2147483648 by omega)
  have h1 : ¬ 160 < k := by omega
  have e2 : (if (0 : Int32) < Int32.ofNat k then Int32.ofNat k else 0) = Int32.ofNat k := by
    by_cases h : k = 0
    · subst h; rfl
    · rw [if_pos (show (0 : Int32) < Int32.ofNat k from (as_lt (a := 0) (by decide) (show k < 2147483648 by omega)).mpr (by omega))]
  have e3 := fun x : am_Ob => List.getElem?_set_ne (l := M) (a := x) (as_neq hr he (by simp))
  have e4 := fun x : am_Ob => List.getElem?_set_self (l := M) (a := x) (List.getElem?_eq_some_iff.mp hr).1
  have e5 := ct_12_l (X := X) (a := so2) (b := Int32.ofNat k) 160 0 xs (M.set r (.inr (.inr (.inr (5, [.ref e, .int so2, .int (Int32.ofNat k)]))))) (e4 _) ((e3 _).trans he) hx (by omega) (fun q hq => absurd hq (by omega))
  have e6 : Int32.ofNat 0 = 0 := rfl
  rw [e6] at e5
  simp only [q12_0, q12_1, q12_2, q12_5, q12_6, q12_7, q12_8, q12_9, q12_12, q12_13, q12_16, q12_19, q12_22, q12_23, hr, he, hx,   as_10, as_01, Nat.reduceBEq, Nat.reduceEqDiff, ↓reduceIte, Option.bind_some, Option.getD_some, Option.isSome_some, Option.isSome_none, Bool.false_eq_true, Option.toList, List.nil_append, List.cons_append, List.lookup, Option.isSome, List.getElem?_cons_zero, List.getElem?_cons_succ, beq_self_eq_true, if_true, true_or, or_true, am_kl, am_gf, am_ia, am_la, am_aa, am_len, am_cls, true_and, and_true, List.length_cons, List.length_nil, Nat.reduceAdd, Int32.reduceLT, Int32.reduceLE, Int32.reduceAdd, Int32.reduceSub, Int32.reduceToNatClampNeg, if_false, false_or, or_false, Nat.reduceLeDiff, Nat.reduceLT, List.set_cons_zero, List.set_cons_succ, am_pf, am_okT, e1, h1, e2, e3, e4, List.set_set, List.set_cons_zero, List.set_cons_succ, and_self, Nat.reduceLT, List.length_cons, List.length_nil, Nat.reduceAdd, e5]

set_option maxRecDepth 100000 in
theorem ct_21 {X : List Int32} {M : am_Mem} {r e n : Nat} {so : Int32} {xs : List Int64} {i w : Int32} (hr : M[r]? = some (.inr (.inr (.inr (5, [.ref e, .int so, .int (Int32.ofNat n)]))))) (he : M[e]? = some (.inr (.inl xs))) (hx : xs.length = 160) (hn : n ≤ 160) :
    am_mt X 21 [.ref r, .int i, .int w] M = some (some (.int (if ¬ i < 0 ∧ ¬ w < 0 ∧ ¬ Int32.ofNat n - w < i then 1 else 0)), M) := by
  rw [as_mt (n := 3) (by decide +kernel), show am_ent 3 [.ref r, .int i, .int w] = [some (.ref r), some (.int i), some (.int w)] from rfl]
  simp only [q21_0, q21_1, q21_4, q21_5, q21_8, q21_9, q21_10, q21_13, q21_14, q21_15, q21_18, q21_19, q21_22, q21_23, hr, he, hx, hn, as_10, as_01, Nat.reduceBEq, Nat.reduceEqDiff, ↓reduceIte, Option.bind_some, Option.getD_some, Option.isSome_some, Option.isSome_none, Bool.false_eq_true, Option.toList, List.nil_append, List.cons_append, List.lookup, Option.isSome, List.getElem?_cons_zero, List.getElem?_cons_succ, beq_self_eq_true, if_true, true_or, or_true, am_kl, am_gf, am_ia, am_la, am_aa, am_len, am_cls, true_and, and_true, List.length_cons, List.length_nil, Nat.reduceAdd, Int32.reduceLT, Int32.reduceLE, Int32.reduceAdd, Int32.reduceSub, Int32.reduceToNatClampNeg, if_false, false_or, or_false, Nat.reduceLeDiff, Nat.reduceLT, List.set_cons_zero, List.set_cons_succ]
  (repeat' split) <;> simp_all [-Int32.not_lt, -Int32.not_le]

