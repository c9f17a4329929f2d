/-! ===== contracts: the small ones ===== -/
theorem as_b0 {c : Prop} [Decidable c] : ((if c then (1 : Int32) else 0) = 0) ↔ ¬ c := by by_cases h : c <;> simp [h]
theorem as_b1 {c : Prop} [Decidable c] : ((if c then (1 : Int32) else 0) = 1) ↔ c := by by_cases h : c <;> simp [h]
set_option maxRecDepth 100000 in
theorem ct_7 {X : List Int32} {M : am_Mem} {s : Int32}  :
    am_mt X 7 [.int s] M = some (some (.int (if ¬ s < 0 ∧ s < 8 then 1 else 0)), M) := by
  rw [as_mt (n := 1) (by decide +kernel), show am_ent 1 [.int s] = [some (.int s)] from rfl]
  simp only [q7_0, q7_1, q7_4, q7_5, q7_7, q7_10, q7_11, q7_14, q7_15, as_10, as_01, Nat.reduceBEq, Nat.reduceEqDiff, ↓reduceIte, Option.bind_some, Option.getD_some, Option.isSome_some, Option.isSome_none, Bool.false_eq_true, Option.toList, List.nil_append, List.cons_append, List.lookup, Option.isSome, List.getElem?_cons_zero, List.getElem?_cons_succ, beq_self_eq_true, if_true, true_or, or_true, am_kl, am_gf, am_ia, am_la, am_aa, am_len, am_cls, true_and, and_true]
  (repeat' split) <;> simp_all [-Int32.not_lt, -Int32.not_le]

set_option maxRecDepth 100000 in
theorem ct_67 {X : List Int32} {M : am_Mem} {s : Int32}  :
    am_mt X 67 [.int s] M = some (some (.int (if ¬ s < 0 ∧ s < 6 then 1 else 0)), M) := by
  rw [as_mt (n := 1) (by decide +kernel), show am_ent 1 [.int s] = [some (.int s)] from rfl]
  simp only [q67_0, q67_1, q67_4, q67_5, q67_7, q67_10, q67_11, q67_14, q67_15, as_10, as_01, Nat.reduceBEq, Nat.reduceEqDiff, ↓reduceIte, Option.bind_some, Option.getD_some, Option.isSome_some, Option.isSome_none, Bool.false_eq_true, Option.toList, List.nil_append, List.cons_append, List.lookup, Option.isSome, List.getElem?_cons_zero, List.getElem?_cons_succ, beq_self_eq_true, if_true, true_or, or_true, am_kl, am_gf, am_ia, am_la, am_aa, am_len, am_cls, true_and, and_true]
  (repeat' split) <;> simp_all [-Int32.not_lt, -Int32.not_le]

set_option maxRecDepth 100000 in
theorem ct_29 {X : List Int32} {M : am_Mem} {s : Int32}  :
    am_mt X 29 [.int s] M = some (some (.int (if ¬ s < 0 ∧ s < 7 then 1 else 0)), M) := by
  rw [as_mt (n := 1) (by decide +kernel), show am_ent 1 [.int s] = [some (.int s)] from rfl]
  simp only [q29_0, q29_1, q29_4, q29_5, q29_7, q29_10, q29_11, q29_14, q29_15, as_10, as_01, Nat.reduceBEq, Nat.reduceEqDiff, ↓reduceIte, Option.bind_some, Option.getD_some, Option.isSome_some, Option.isSome_none, Bool.false_eq_true, Option.toList, List.nil_append, List.cons_append, List.lookup, Option.isSome, List.getElem?_cons_zero, List.getElem?_cons_succ, beq_self_eq_true, if_true, true_or, or_true, am_kl, am_gf, am_ia, am_la, am_aa, am_len, am_cls, true_and, and_true]
  (repeat' split) <;> simp_all [-Int32.not_lt, -Int32.not_le]

set_option maxRecDepth 100000 in
theorem ct_78 {X : List Int32} {M : am_Mem} {s : Int32}  :
    am_mt X 78 [.int s] M = some (some (.int (if s = 0 ∨ s = 1 then 1 else 0)), M) := by
  rw [as_mt (n := 1) (by decide +kernel), show am_ent 1 [.int s] = [some (.int s)] from rfl]
  simp only [q78_0, q78_1, q78_4, q78_5, q78_6, q78_9, q78_10, q78_13, q78_14, as_10, as_01, Nat.reduceBEq, Nat.reduceEqDiff, ↓reduceIte, Option.bind_some, Option.getD_some, Option.isSome_some, Option.isSome_none, Bool.false_eq_true, Option.toList, List.nil_append, List.cons_append, List.lookup, Option.isSome, List.getElem?_cons_zero, List.getElem?_cons_succ, beq_self_eq_true, if_true, true_or, or_true, am_kl, am_gf, am_ia, am_la, am_aa, am_len, am_cls, true_and, and_true]
  (repeat' split) <;> simp_all [-Int32.not_lt, -Int32.not_le]

set_option maxRecDepth 100000 in
theorem ct_107 {X : List Int32} {M : am_Mem} {x y : Int32}  :
    am_mt X 107 [.int x, .int y] M = some (some (.int (if 0 < x - y then x - y else 0)), M) := by
  rw [as_mt (n := 2) (by decide +kernel), show am_ent 2 [.int x, .int y] = [some (.int x), some (.int y)] from rfl]
  simp only [q107_0, q107_1, q107_2, q107_3, q107_4, q107_7, as_10, as_01, Nat.reduceBEq, Nat.reduceEqDiff, ↓reduceIte, Option.bind_some, Option.getD_some, Option.isSome_some, Option.isSome_none, Bool.false_eq_true, Option.toList, List.nil_append, List.cons_append, List.lookup, Option.isSome, List.getElem?_cons_zero, List.getElem?_cons_succ, beq_self_eq_true, if_true, true_or, or_true, am_kl, am_gf, am_ia, am_la, am_aa, am_len, am_cls, true_and, and_true]

set_option maxRecDepth 100000 in
theorem ct_122 {X : List Int32} {M : am_Mem} {x y z : Int32}  :
    am_mt X 122 [.int x, .int y, .int z] M = some (some (.int ((x * y + (1000 - x) * z) / 1000)), M) := by
  rw [as_mt (n := 3) (by decide +kernel), show am_ent 3 [.int x, .int y, .int z] = [some (.int x), some (.int y), some (.int z)] from rfl]
  simp only [q122_0, q122_1, q122_2, q122_3, q122_6, q122_7, q122_8, q122_9, q122_10, q122_11, q122_14, q122_15, as_10, as_01, Nat.reduceBEq, Nat.reduceEqDiff, ↓reduceIte, Option.bind_some, Option.getD_some, Option.isSome_some, Option.isSome_none, Bool.false_eq_true, Option.toList, List.nil_append, List.cons_append, List.lookup, Option.isSome, List.getElem?_cons_zero, List.getElem?_cons_succ, beq_self_eq_true, if_true, true_or, or_true, am_kl, am_gf, am_ia, am_la, am_aa, am_len, am_cls, true_and, and_true]
  rw [if_neg (by decide)]

set_option maxRecDepth 100000 in
theorem ct_91 {X : List Int32} {M : am_Mem} {x : Int32}  :
    am_mt X 91 [.int x] M = some (some (.int (if ¬ x < 48 ∧ ¬ 57 < x then 1 else 0)), M) := by
  rw [as_mt (n := 1) (by decide +kernel), show am_ent 1 [.int x] = [some (.int x)] from rfl]
  simp only [q91_0, q91_1, q91_3, q91_6, q91_7, q91_9, q91_12, q91_13, q91_16, q91_17, as_10, as_01, Nat.reduceBEq, Nat.reduceEqDiff, ↓reduceIte, Option.bind_some, Option.getD_some, Option.isSome_some, Option.isSome_none, Bool.false_eq_true, Option.toList, List.nil_append, List.cons_append, List.lookup, Option.isSome, List.getElem?_cons_zero, List.getElem?_cons_succ, beq_self_eq_true, if_true, true_or, or_true, am_kl, am_gf, am_ia, am_la, am_aa, am_len, am_cls, true_and, and_true]
  (repeat' split) <;> simp_all [-Int32.not_lt, -Int32.not_le]

set_option maxRecDepth 100000 in
theorem ct_103 {X : List Int32} {M : am_Mem} {x g : Int32}  :
    am_mt X 103 [.int x, .int g] M = some (some (.int (if x = 0 ∨ g = 1 ∧ 0 < x ∧ x < 3 then 1 else 0)), M) := by
  rw [as_mt (n := 2) (by decide +kernel), show am_ent 2 [.int x, .int g] = [some (.int x), some (.int g)] from rfl]
  simp only [q103_0, q103_1, q103_4, q103_5, q103_6, q103_9, q103_10, q103_13, q103_14, q103_15, q103_18, q103_19, q103_22, q103_23, as_10, as_01, Nat.reduceBEq, Nat.reduceEqDiff, ↓reduceIte, Option.bind_some, Option.getD_some, Option.isSome_some, Option.isSome_none, Bool.false_eq_true, Option.toList, List.nil_append, List.cons_append, List.lookup, Option.isSome, List.getElem?_cons_zero, List.getElem?_cons_succ, beq_self_eq_true, if_true, true_or, or_true, am_kl, am_gf, am_ia, am_la, am_aa, am_len, am_cls, true_and, and_true]
  (repeat' split) <;> simp_all [-Int32.not_lt, -Int32.not_le]

set_option maxRecDepth 100000 in
theorem ct_16 {X : List Int32} {M : am_Mem} {r e : Nat} {so sz i : Int32} {xs : List Int64} (hr : M[r]? = some (.inr (.inr (.inr (5, [.ref e, .int so, .int sz]))))) (he : M[e]? = some (.inr (.inl xs))) (hx : xs.length = 160) :
    am_mt X 16 [.ref r, .int i] M = some (some (.int (if ¬ i < 0 ∧ i < sz ∧ i < Int32.ofNat 160 then 1 else 0)), M) := by
  rw [as_mt (n := 2) (by decide +kernel), show am_ent 2 [.ref r, .int i] = [some (.ref r), some (.int i)] from rfl]
  simp only [q16_0, q16_1, q16_4, q16_5, q16_6, q16_9, q16_12, q16_13, q16_14, q16_17, q16_18, q16_21, q16_22, q16_25, q16_26, hr, he, hx, as_10, as_01, Nat.reduceBEq, Nat.reduceEqDiff, ↓reduceIte, Option.bind_some, Option.getD_some, Option.isSome_some, Option.isSome_none, Bool.false_eq_true, Option.toList, List.nil_append, List.cons_append, List.lookup, Option.isSome, List.getElem?_cons_zero, List.getElem?_cons_succ, beq_self_eq_true, if_true, true_or, or_true, am_kl, am_gf, am_ia, am_la, am_aa, am_len, am_cls, true_and, and_true]
  (repeat' split) <;> simp_all [-Int32.not_lt, -Int32.not_le]

