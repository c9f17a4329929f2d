/-! ===== contracts: times set ===== -/
def md_ts (xs : List Int64) (x : Int32) : Nat → Nat → Int32 → Int32
  | 0, _, a => a
  | j + 1, k, a => md_ts xs x j (k + 1) (if (xs.getD k 0).toInt32 = x then a + 1 else a)
theorem ct_87k {X : List Int32} {M : am_Mem} {r e n : Nat} {so : Int32} {xs : List Int64} {k : Nat} (hr : M[r]? = some (.inr (.inr (.inr (5, [.ref e, .int so, .int (Int32.ofNat n)]))))) (he : M[e]? = some (.inr (.inl xs))) (hx : xs.length = 160) (hn : n ≤ 160) (h2 : k < n) : am_mt X 87 [.ref r, .int (Int32.ofNat k)] M = some (some (.int (xs.getD k 0).toInt32), M) := by
  rw [ct_87 hr he hx hn, md_el, if_neg (as_pos (show k < 2147483648 by omega)), as_nat (show k < 2147483648 by omega), if_pos h2]
set_option maxRecDepth 100000 in
theorem ct_137_l {X : List Int32} {M : am_Mem} {r e n : Nat} {so : Int32} {xs : List Int64} {w : Nat} {x : Int32} (hr : M[r]? = some (.inr (.inr (.inr (5, [.ref e, .int so, .int (Int32.ofNat n)]))))) (he : M[e]? = some (.inr (.inl xs))) (hx : xs.length = 160) (hn : n ≤ 160) (hw : w ≤ n) : ∀ (j k : Nat) (a : Int32), k + j = w → am_go X 137 5 [some (.ref r), some (.int (Int32.ofNat w)), some (.int x), some (.int a), some (.int (Int32.ofNat k))] [] M = some (some (.int (md_ts xs x j k a)), M)
  | 0, k, a, h => by
    have e1 := as_lt (show k < 2147483648 by omega) (show w < 2147483648 by omega)
    have h1 : ¬ k < w := by omega
    simp only [q137_0, q137_1, q137_2, q137_3, q137_5, q137_5n, q137_6n, q137_6, q137_9, q137_11, q137_12, q137_15, q137_17, q137_17n, q137_18, q137_21, q137_24, q137_24n, q137_25, q137_27, q137_30, q137_31, q137_34, q137_37, q137_40, q137_43, q137_44, e1, h1, md_ts, as_10, as_01, Nat.reduceBEq, Nat.reduceEqDiff, ↓reduceIte, Option.bind_some, Option.getD_some, Option.isSome_some, Option.isSome_none, Bool.false_eq_true, Option.toList, List.nil_append, List.cons_append, List.lookup, Option.isSome, List.getElem?_cons_zero, List.getElem?_cons_succ, beq_self_eq_true, if_true, true_or, or_true, am_kl, am_gf, am_ia, am_la, am_aa, am_len, am_cls, true_and, and_true, List.length_cons, List.length_nil, Nat.reduceAdd, Int32.reduceLT, Int32.reduceLE, Int32.reduceAdd, Int32.reduceSub, Int32.reduceToNatClampNeg, if_false, false_or, or_false, Nat.reduceLeDiff, Nat.reduceLT, List.set_cons_zero, List.set_cons_succ]
  | j + 1, k, a, h => by
    have e1 := as_lt (show k < 2147483648 by omega) (show w < 2147483648 by omega)
    have h1 : k < w := by omega
    have e2 := as_lt (show k < 2147483648 by omega) (show n < 2147483648 by omega)
    have h2 : k < n := by omega
    have ih := fun a' => ct_137_l (X := X) (x := x) hr he hx hn hw j (k + 1) a' (by omega)
    have e5 : Int32.ofNat k + 1 = Int32.ofNat (k + 1) := as_add (b := 1)
    have a0 := ct_87k (X := X) hr he hx hn h2
    rw [md_ts]
    by_cases hc : (xs.getD k 0).toInt32 = x <;>
      simp only [q137_0, q137_1, q137_2, q137_3, q137_5, q137_5n, q137_6n, q137_6, q137_9, q137_11, q137_12, q137_15, q137_17, q137_17n, q137_18, q137_21, q137_24, q137_24n, q137_25, q137_27, q137_30, q137_31, q137_34, q137_37, q137_40, q137_43, q137_44, hr, e1, h1, e2, h2, a0, hc, e5, ih, as_10, as_01, Nat.reduceBEq, Nat.reduceEqDiff, ↓reduceIte, Option.bind_some, Option.getD_some, Option.isSome_some, Option.isSome_none, Bool.false_eq_true, Option.toList, List.nil_append, List.cons_append, List.lookup, Option.isSome, List.getElem?_cons_zero, List.getElem?_cons_succ, beq_self_eq_true, if_true, true_or, or_true, am_kl, am_gf, am_ia, am_la, am_aa, am_len, am_cls, true_and, and_true, List.length_cons, List.length_nil, Nat.reduceAdd, Int32.reduceLT, Int32.reduceLE, Int32.reduceAdd, Int32.reduceSub, Int32.reduceToNatClampNeg, if_false, false_or, or_false, Nat.reduceLeDiff, Nat.reduceLT, List.set_cons_zero, List.set_cons_succ]
set_option maxRecDepth 100000 in
theorem ct_137 {X : List Int32} {M : am_Mem} {r e n : Nat} {so : Int32} {xs : List Int64} {w : Nat} {x : Int32} (hr : M[r]? = some (.inr (.inr (.inr (5, [.ref e, .int so, .int (Int32.ofNat n)]))))) (he : M[e]? = some (.inr (.inl xs))) (hx : xs.length = 160) (hn : n ≤ 160) (hw : w ≤ n) :
    am_mt X 137 [.ref r, .int (Int32.ofNat w), .int x] M = some (some (.int (md_ts xs x w 0 0)), M) := by
  rw [as_mt (n := 5) (by decide +kernel), show am_ent 5 [.ref r, .int (Int32.ofNat w), .int x] = [some (.ref r), some (.int (Int32.ofNat w)), some (.int x), none, none] from rfl]
  simp only [q137_0, q137_1, q137_2, q137_3, am_kl]
  exact ct_137_l hr he hx hn hw w 0 0 (by omega)

