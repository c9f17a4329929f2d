/-! ===== contracts: what changes a team ===== -/
theorem as_neq {M : am_Mem} {a b : Nat} {x y : am_Ob} (h1 : M[a]? = some x) (h2 : M[b]? = some y) (h : x ≠ y) : ¬ a = b := by
  intro e; subst e; rw [h1] at h2; cases h2; exact h rfl
theorem as_same {M : am_Mem} {a : Nat} {x : am_Ob} (h : M[a]? = some x) : M.set a x = M := by
  obtain ⟨h1, h2⟩ := List.getElem?_eq_some_iff.mp h
  rw [← h2]; exact List.set_getElem_self h1
theorem md_ps_set {M : am_Mem} {pl : List Nat} {pd : List (Nat × Int32)} {t : Nat} {o x : am_Ob} (h : md_ps M pl pd) (ht : M[t]? = some o) (ho : ∀ (c : Nat) (a b : Int32), md_pc c → o ≠ .inr (.inr (.inr (c, [.int a, .int b])))) : md_ps (M.set t x) pl pd := by
  refine ⟨h.1, fun k r c a h1 h2 => ?_⟩
  obtain ⟨h3, h4⟩ := h.2 k r c a h1 h2
  refine ⟨h3, ?_⟩
  rw [as_sne (as_neq ht h4 (ho _ _ _ h3))]
  exact h4
/-- reading and writing an array of ints, any place -/
theorem ct_9u {X : List Int32} {M : am_Mem} {a : Nat} {i : Int32} : am_mt X 9 [.ref a, .int i] M = match M[a]? with
    | some (.inl xs) => if xs.length < 1000 then some (some (.int (if i < 0 then 0 else xs.getD i.toNatClampNeg 0)), M) else am_mt X 9 [.ref a, .int i] M
    | _ => am_mt X 9 [.ref a, .int i] M := by
  split
  next xs h =>
    by_cases hx : xs.length < 1000
    · rw [if_pos hx]
      by_cases h0 : i < 0
      · rw [if_pos h0, as_mt (n := 2) (by decide +kernel), show am_ent 2 [.ref a, .int i] = [some (.ref a), some (.int i)] from rfl]
        simp only [q9_0, q9_1, q9_4, q9_5, q9_5n, q9_6, q9_7, q9_10, q9_10n, q9_11, q9_12, q9_13, q9_16, q9_17, h0, h, as_10, as_01, Nat.reduceBEq, Nat.reduceEqDiff, ↓reduceIte, Option.bind_some, Option.getD_some, Option.isSome_some, Option.isSome_none, Bool.false_eq_true, Option.toList, List.nil_append, List.cons_append, List.lookup, Option.isSome, List.getElem?_cons_zero, List.getElem?_cons_succ, beq_self_eq_true, if_true, true_or, or_true, am_kl, am_gf, am_ia, am_la, am_aa, am_len, am_cls, true_and, and_true, List.length_cons, List.length_nil, Nat.reduceAdd, Int32.reduceLT, Int32.reduceLE, Int32.reduceAdd, Int32.reduceSub, Int32.reduceToNatClampNeg, if_false, false_or, or_false, Nat.reduceLeDiff, Nat.reduceLT, List.set_cons_zero, List.set_cons_succ]
      · rw [if_neg h0]
        obtain ⟨k, hk, rfl⟩ := as_ofN h0
        rw [as_nat hk]
        by_cases h1 : k < xs.length
        · exact ct_9 h h1 hx
        · rw [as_mt (n := 2) (by decide +kernel), show am_ent 2 [.ref a, .int (Int32.ofNat k)] = [some (.ref a), some (.int (Int32.ofNat k))] from rfl]
          simp only [q9_0, q9_1, q9_4, q9_5, q9_5n, q9_6, q9_7, q9_10, q9_10n, q9_11, q9_12, q9_13, q9_16, q9_17, h0, h, as_lt hk (show xs.length < 2147483648 by omega), h1, List.getD_eq_getElem?_getD, List.getElem?_eq_none (Nat.le_of_not_lt h1), Option.getD_none, as_10, as_01, Nat.reduceBEq, Nat.reduceEqDiff, ↓reduceIte, Option.bind_some, Option.getD_some, Option.isSome_some, Option.isSome_none, Bool.false_eq_true, Option.toList, List.nil_append, List.cons_append, List.lookup, Option.isSome, List.getElem?_cons_zero, List.getElem?_cons_succ, beq_self_eq_true, if_true, true_or, or_true, am_kl, am_gf, am_ia, am_la, am_aa, am_len, am_cls, true_and, and_true, List.length_cons, List.length_nil, Nat.reduceAdd, Int32.reduceLT, Int32.reduceLE, Int32.reduceAdd, Int32.reduceSub, Int32.reduceToNatClampNeg, if_false, false_or, or_false, Nat.reduceLeDiff, Nat.reduceLT, List.set_cons_zero, List.set_cons_succ]
    · rw [if_neg hx]
  next => rfl
theorem ct_10u {X : List Int32} {M : am_Mem} {a : Nat} {i v : Int32} : am_mt X 10 [.ref a, .int i, .int v] M = match M[a]? with
    | some (.inl xs) => if xs.length < 1000 then some (none, if i < 0 then M else M.set a (.inl (xs.set i.toNatClampNeg v))) else am_mt X 10 [.ref a, .int i, .int v] M
    | _ => am_mt X 10 [.ref a, .int i, .int v] M := by
  split
  next xs h =>
    by_cases hx : xs.length < 1000
    · rw [if_pos hx]
      by_cases h0 : i < 0
      · rw [if_pos h0, as_mt (n := 3) (by decide +kernel), show am_ent 3 [.ref a, .int i, .int v] = [some (.ref a), some (.int i), some (.int v)] from rfl]
        simp only [q10_0, q10_1, q10_4, q10_5, q10_5n, q10_6, q10_7, q10_10, q10_10n, q10_11, q10_12, q10_13, q10_14, h0, h, as_10, as_01, Nat.reduceBEq, Nat.reduceEqDiff, ↓reduceIte, Option.bind_some, Option.getD_some, Option.isSome_some, Option.isSome_none, Bool.false_eq_true, Option.toList, List.nil_append, List.cons_append, List.lookup, Option.isSome, List.getElem?_cons_zero, List.getElem?_cons_succ, beq_self_eq_true, if_true, true_or, or_true, am_kl, am_gf, am_ia, am_la, am_aa, am_len, am_cls, true_and, and_true, List.length_cons, List.length_nil, Nat.reduceAdd, Int32.reduceLT, Int32.reduceLE, Int32.reduceAdd, Int32.reduceSub, Int32.reduceToNatClampNeg, if_false, false_or, or_false, Nat.reduceLeDiff, Nat.reduceLT, List.set_cons_zero, List.set_cons_succ]
      · rw [if_neg h0]
        obtain ⟨k, hk, rfl⟩ := as_ofN h0
        rw [as_nat hk]
        by_cases h1 : k < xs.length
        · exact ct_10 h h1 hx
        · rw [List.set_eq_of_length_le (Nat.le_of_not_lt h1), as_same h, as_mt (n := 3) (by decide +kernel), show am_ent 3 [.ref a, .int (Int32.ofNat k), .int v] = [some (.ref a), some (.int (Int32.ofNat k)), some (.int v)] from rfl]
          simp only [q10_0, q10_1, q10_4, q10_5, q10_5n, q10_6, q10_7, q10_10, q10_10n, q10_11, q10_12, q10_13, q10_14, h0, h, as_lt hk (show xs.length < 2147483648 by omega), h1, as_10, as_01, Nat.reduceBEq, Nat.reduceEqDiff, ↓reduceIte, Option.bind_some, Option.getD_some, Option.isSome_some, Option.isSome_none, Bool.false_eq_true, Option.toList, List.nil_append, List.cons_append, List.lookup, Option.isSome, List.getElem?_cons_zero, List.getElem?_cons_succ, beq_self_eq_true, if_true, true_or, or_true, am_kl, am_gf, am_ia, am_la, am_aa, am_len, am_cls, true_and, and_true, List.length_cons, List.length_nil, Nat.reduceAdd, Int32.reduceLT, Int32.reduceLE, Int32.reduceAdd, Int32.reduceSub, Int32.reduceToNatClampNeg, if_false, false_or, or_false, Nat.reduceLeDiff, Nat.reduceLT, List.set_cons_zero, List.set_cons_succ]
    · rw [if_neg hx]
  next => rfl
set_option maxRecDepth 100000 in
theorem ct_72 {X : List Int32} {M : am_Mem} {t pa fa : Nat} {c b sp sf bp gl us th sv su st ra sd : Int32} {f0 f1 f2 f3 f4 f5 : Int32} (hT : M[t]? = some (.inr (.inr (.inr (9, [.ref pa, .ref fa, .int c, .int b, .int sp, .int sf, .int bp, .int gl, .int us, .int th, .int sv, .int su, .int st, .int ra, .int sd]))))) (hF : M[fa]? = some (.inl [f0, f1, f2, f3, f4, f5])) :
    am_mt X 72 [.ref t] M = some (none, M.set fa (.inl [f5, f0, f1, f2, f3, f4])) := by
  rw [as_mt (n := 3) (by decide +kernel), show am_ent 3 [.ref t] = [some (.ref t), none, none] from rfl]
  simp only [q72_0, q72_1, q72_4, q72_5, q72_8, q72_9, q72_10, q72_11, q72_12, q72_15, q72_16, q72_19, q72_20, q72_21, q72_24, q72_25, q72_26, q72_27, q72_30, q72_33, q72_36, q72_39, q72_40, q72_43, q72_44, q72_45, q72_48, hT, hF, as_10, as_01, Nat.reduceBEq, Nat.reduceEqDiff, ↓reduceIte, Option.bind_some, Option.getD_some, Option.isSome_some, Option.isSome_none, Bool.false_eq_true, Option.toList, List.nil_append, List.cons_append, List.lookup, Option.isSome, List.getElem?_cons_zero, List.getElem?_cons_succ, beq_self_eq_true, if_true, true_or, or_true, am_kl, am_gf, am_ia, am_la, am_aa, am_len, am_cls, true_and, and_true, List.length_cons, List.length_nil, Nat.reduceAdd, Int32.reduceOfNat, Int32.reduceLT, Int32.reduceLE, Int32.reduceAdd, Int32.reduceSub, Int32.reduceToNatClampNeg, if_false, false_or, or_false, Nat.reduceLeDiff, Nat.reduceLT, List.set_cons_zero, List.set_cons_succ, List.getElem?_set_self (List.getElem?_eq_some_iff.mp hF).1, List.set_set, ↓ct_9u, ↓ct_10u, Nat.reduceLT, List.getD_cons_zero, List.getD_cons_succ, List.getElem?_set_ne (as_neq hF hT (by simp))]

