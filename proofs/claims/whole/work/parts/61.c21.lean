/-! ===== contracts: told rallies, one row read through ===== -/
/-- the first i from k on (j to go) that tells neither 0 nor 1 -/
def md_fw (xs : List Int64) : Nat → Nat → Int32
  | 0, _ => -1
  | j + 1, k => if (xs.getD k 0).toInt32 = 0 ∨ (xs.getD k 0).toInt32 = 1 then md_fw xs j (k + 1) else Int32.ofNat k
set_option maxRecDepth 100000 in
theorem ct_129_l {X : List Int32} {M : am_Mem} {r e n : Nat} {so : Int32} {xs : List Int64} {w : Nat} (hr : M[r]? = some (.inr (.inr (.inr (5, [.ref e, .int so, .int (Int32.ofNat n)]))))) (he : M[e]? = some (.inr (.inl xs))) (hx : xs.length = 160) (hn : n ≤ 160) (hw : w ≤ n) : ∀ (j k : Nat), k + j = w → am_go X 129 2 [some (.ref r), some (.int (Int32.ofNat w)), some (.int (Int32.ofNat k))] [] M = some (some (.int (md_fw xs j k)), M)
  | 0, k, h => by
    have e1 := as_lt (show k < 2147483648 by omega) (show w < 2147483648 by omega)
    have h1 : ¬ k < w := by omega
    simp only [q129_0, q129_1, q129_2, q129_2n, q129_3n, q129_3, q129_6, q129_7, q129_8, q129_11, q129_12, q129_12n, q129_13, q129_16, q129_19, q129_19n, q129_20, q129_21, q129_24, q129_27, q129_30, q129_31, q129_32, q129_35, q129_38, q129_39, e1, h1, md_fw, as_10, as_01, Nat.reduceBEq, Nat.reduceEqDiff, ↓reduceIte, Option.bind_some, Option.getD_some, Option.isSome_some, Option.isSome_none, Bool.false_eq_true, Option.toList, List.nil_append, List.cons_append, List.lookup, Option.isSome, List.getElem?_cons_zero, List.getElem?_cons_succ, beq_self_eq_true, if_true, true_or, or_true, am_kl, am_gf, am_ia, am_la, am_aa, am_len, am_cls, true_and, and_true, List.length_cons, List.length_nil, Nat.reduceAdd, Int32.reduceLT, Int32.reduceLE, Int32.reduceAdd, Int32.reduceSub, Int32.reduceToNatClampNeg, if_false, false_or, or_false, Nat.reduceLeDiff, Nat.reduceLT, List.set_cons_zero, List.set_cons_succ]
  | j + 1, k, h => by
    have e1 := as_lt (show k < 2147483648 by omega) (show w < 2147483648 by omega)
    have h1 : k < w := by omega
    have e2 := as_lt (show k < 2147483648 by omega) (show n < 2147483648 by omega)
    have h2 : k < n := by omega
    have ih := ct_129_l (X := X) hr he hx hn hw j (k + 1) (by omega)
    have e5 : Int32.ofNat k + 1 = Int32.ofNat (k + 1) := as_add (b := 1)
    have a0 : am_mt X 87 [.ref r, .int (Int32.ofNat k)] M = some (some (.int (xs.getD k 0).toInt32), M) := by
      rw [ct_87 hr he hx hn, md_el, if_neg (as_pos (show k < 2147483648 by omega)), as_nat (show k < 2147483648 by omega), if_pos h2]
    by_cases hc : (xs.getD k 0).toInt32 = 0 ∨ (xs.getD k 0).toInt32 = 1
    · have a1 : am_mt X 78 [.int (xs.getD k 0).toInt32] M = some (some (.int 1), M) := by rw [ct_78, if_pos hc]
      rw [md_fw, if_pos hc]
      simp only [q129_0, q129_1, q129_2, q129_2n, q129_3n, q129_3, q129_6, q129_7, q129_8, q129_11, q129_12, q129_12n, q129_13, q129_16, q129_19, q129_19n, q129_20, q129_21, q129_24, q129_27, q129_30, q129_31, q129_32, q129_35, q129_38, q129_39, hr, e1, h1, e2, h2, a0, a1, e5, ih, as_10, as_01, Nat.reduceBEq, Nat.reduceEqDiff, ↓reduceIte, Option.bind_some, Option.getD_some, Option.isSome_some, Option.isSome_none, Bool.false_eq_true, Option.toList, List.nil_append, List.cons_append, List.lookup, Option.isSome, List.getElem?_cons_zero, List.getElem?_cons_succ, beq_self_eq_true, if_true, true_or, or_true, am_kl, am_gf, am_ia, am_la, am_aa, am_len, am_cls, true_and, and_true, List.length_cons, List.length_nil, Nat.reduceAdd, Int32.reduceLT, Int32.reduceLE, Int32.reduceAdd, Int32.reduceSub, Int32.reduceToNatClampNeg, if_false, false_or, or_false, Nat.reduceLeDiff, Nat.reduceLT, List.set_cons_zero, List.set_cons_succ]
    · have a1 : am_mt X 78 [.int (xs.getD k 0).toInt32] M = some (some (.int 0), M) := by rw [ct_78, if_neg hc]
      rw [md_fw, if_neg hc]
      simp only [q129_0, q129_1, q129_2, q129_2n, q129_3n, q129_3, q129_6, q129_7, q129_8, q129_11, q129_12, q129_12n, q129_13, q129_16, q129_19, q129_19n, q129_20, q129_21, q129_24, q129_27, q129_30, q129_31, q129_32, q129_35, q129_38, q129_39, hr, e1, h1, e2, h2, a0, a1, e5, as_10, as_01, Nat.reduceBEq, Nat.reduceEqDiff, ↓reduceIte, Option.bind_some, Option.getD_some, Option.isSome_some, Option.isSome_none, Bool.false_eq_true, Option.toList, List.nil_append, List.cons_append, List.lookup, Option.isSome, List.getElem?_cons_zero, List.getElem?_cons_succ, beq_self_eq_true, if_true, true_or, or_true, am_kl, am_gf, am_ia, am_la, am_aa, am_len, am_cls, true_and, and_true, List.length_cons, List.length_nil, Nat.reduceAdd, Int32.reduceLT, Int32.reduceLE, Int32.reduceAdd, Int32.reduceSub, Int32.reduceToNatClampNeg, if_false, false_or, or_false, Nat.reduceLeDiff, Nat.reduceLT, List.set_cons_zero, List.set_cons_succ]
set_option maxRecDepth 100000 in
theorem ct_129 {X : List Int32} {M : am_Mem} {r e n : Nat} {so : Int32} {xs : List Int64} {w : Nat} (hr : M[r]? = some (.inr (.inr (.inr (5, [.ref e, .int so, .int (Int32.ofNat n)]))))) (he : M[e]? = some (.inr (.inl xs))) (hx : xs.length = 160) (hn : n ≤ 160) (hw : w ≤ n) :
    am_mt X 129 [.ref r, .int (Int32.ofNat w)] M = some (some (.int (md_fw xs w 0)), M) := by
  rw [as_mt (n := 3) (by decide +kernel), show am_ent 3 [.ref r, .int (Int32.ofNat w)] = [some (.ref r), some (.int (Int32.ofNat w)), none] from rfl]
  simp only [q129_0, q129_1, am_kl]
  exact ct_129_l hr he hx hn hw w 0 (by omega)

