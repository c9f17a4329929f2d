/-! ===== contracts: the longest run ===== -/
def md_lr (xs : List Int64) (x : Int32) : Nat → Nat → Int32 → Int32 → Int32
  | 0, _, a, _ => a
  | j + 1, k, a, l => if (xs.getD k 0).toInt32 = x then md_lr xs x j (k + 1) (if a < l + 1 then l + 1 else a) (l + 1) else md_lr xs x j (k + 1) (if a < 0 then 0 else a) 0
set_option maxRecDepth 100000 in
theorem ct_133_l {X : List Int32} {M : am_Mem} {r e n : Nat} {so : Int32} {xs : List Int64} {w : Nat} {x : Int32} (hr : M[r]? = some (.inr (.inr (.inr (5, [.ref e, .int so, .int (Int32.ofNat n)]))))) (he : M[e]? = some (.inr (.inl xs))) (hx : xs.length = 160) (hn : n ≤ 160) (hw : w ≤ n) : ∀ (j k : Nat) (a l : Int32), k + j = w → am_go X 133 8 [some (.ref r), some (.int (Int32.ofNat w)), some (.int x), some (.int a), some (.int l), some (.int (Int32.ofNat k))] [] M = some (some (.int (md_lr xs x j k a l)), M)
  | 0, k, a, l, h => by
    have e1 := as_lt (show k < 2147483648 by omega) (show w < 2147483648 by omega)
    have h1 : ¬ k < w := by omega
    simp only [q133_0, q133_1, q133_2, q133_3, q133_5, q133_6, q133_8, q133_8n, q133_9n, q133_9, q133_12, q133_14, q133_15, q133_18, q133_20, q133_20n, q133_21, q133_24, q133_27, q133_27n, q133_28, q133_30, q133_33, q133_34, q133_37, q133_39, q133_40, q133_41, q133_44, q133_45, q133_47, q133_48, q133_50, q133_53, q133_54, q133_57, q133_60, q133_61, e1, h1, md_lr, as_10, as_01, Nat.reduceBEq, Nat.reduceEqDiff, ↓reduceIte, Option.bind_some, Option.getD_some, Option.isSome_some, Option.isSome_none, Bool.false_eq_true, Option.toList, List.nil_append, List.cons_append, List.lookup, Option.isSome, List.getElem?_cons_zero, List.getElem?_cons_succ, beq_self_eq_true, if_true, true_or, or_true, am_kl, am_gf, am_ia, am_la, am_aa, am_len, am_cls, true_and, and_true, List.length_cons, List.length_nil, Nat.reduceAdd, Int32.reduceLT, Int32.reduceLE, Int32.reduceAdd, Int32.reduceSub, Int32.reduceToNatClampNeg, if_false, false_or, or_false, Nat.reduceLeDiff, Nat.reduceLT, List.set_cons_zero, List.set_cons_succ]
  | j + 1, k, a, l, h => by
    have e1 := as_lt (show k < 2147483648 by omega) (show w < 2147483648 by omega)
    have h1 : k < w := by omega
    have e2 := as_lt (show k < 2147483648 by omega) (show n < 2147483648 by omega)
    have h2 : k < n := by omega
    have ih := fun a' l' => ct_133_l (X := X) (x := x) hr he hx hn hw j (k + 1) a' l' (by omega)
    have e5 : Int32.ofNat k + 1 = Int32.ofNat (k + 1) := as_add (b := 1)
    have a0 := ct_87k (X := X) hr he hx hn h2
    rw [md_lr]
    by_cases hc : (xs.getD k 0).toInt32 = x <;>
      simp only [q133_0, q133_1, q133_2, q133_3, q133_5, q133_6, q133_8, q133_8n, q133_9n, q133_9, q133_12, q133_14, q133_15, q133_18, q133_20, q133_20n, q133_21, q133_24, q133_27, q133_27n, q133_28, q133_30, q133_33, q133_34, q133_37, q133_39, q133_40, q133_41, q133_44, q133_45, q133_47, q133_48, q133_50, q133_53, q133_54, q133_57, q133_60, q133_61, hr, e1, h1, e2, h2, a0, hc, e5, ih, as_10, as_01, Nat.reduceBEq, Nat.reduceEqDiff, ↓reduceIte, Option.bind_some, Option.getD_some, Option.isSome_some, Option.isSome_none, Bool.false_eq_true, Option.toList, List.nil_append, List.cons_append, List.lookup, Option.isSome, List.getElem?_cons_zero, List.getElem?_cons_succ, beq_self_eq_true, if_true, true_or, or_true, am_kl, am_gf, am_ia, am_la, am_aa, am_len, am_cls, true_and, and_true, List.length_cons, List.length_nil, Nat.reduceAdd, Int32.reduceLT, Int32.reduceLE, Int32.reduceAdd, Int32.reduceSub, Int32.reduceToNatClampNeg, if_false, false_or, or_false, Nat.reduceLeDiff, Nat.reduceLT, List.set_cons_zero, List.set_cons_succ]
set_option maxRecDepth 100000 in
theorem ct_133 {X : List Int32} {M : am_Mem} {r e n : Nat} {so : Int32} {xs : List Int64} {w : Nat} {x : Int32} (hr : M[r]? = some (.inr (.inr (.inr (5, [.ref e, .int so, .int (Int32.ofNat n)]))))) (he : M[e]? = some (.inr (.inl xs))) (hx : xs.length = 160) (hn : n ≤ 160) (hw : w ≤ n) :
    am_mt X 133 [.ref r, .int (Int32.ofNat w), .int x] M = some (some (.int (md_lr xs x w 0 0 0)), M) := by
  rw [as_mt (n := 6) (by decide +kernel), show am_ent 6 [.ref r, .int (Int32.ofNat w), .int x] = [some (.ref r), some (.int (Int32.ofNat w)), some (.int x), none, none, none] from rfl]
  simp only [q133_0, q133_1, q133_2, q133_3, q133_5, q133_6, am_kl]
  exact ct_133_l hr he hx hn hw w 0 0 0 (by omega)

