/-! ===== contracts: players ===== -/
/-- what a class of players (its number) makes of a: skill, blow (w: well received), number of its kind -/
def md_sk (c : Nat) (a : Int32) : Int32 := match c with
  | 1 => 60 + 4 * a
  | 4 => 30 + a
  | 6 => 50 + 3 * a
  | 7 => 30 + a
  | 8 => 25 + a
  | _ => 40 + 2 * a
def md_bl (c : Nat) (a g : Int32) : Int32 := match c with
  | 1 => 0
  | 2 => 20 + a
  | 4 => 45 + 2 * a + (if g = 1 then 5 else -10)
  | 6 => 25 + a
  | 7 => 45 + 2 * a
  | 8 => 45 + 2 * a + 10
  | _ => 30 + a
def md_kn (c : Nat) : Int32 := match c with
  | 1 => 6
  | 2 => 2
  | 4 => 5
  | 6 => 4
  | 7 => 1
  | 8 => 3
  | _ => 0
def md_pc (c : Nat) : Prop := c = 1 ∨ c = 2 ∨ c = 3 ∨ c = 4 ∨ c = 6 ∨ c = 7 ∨ c = 8
set_option maxRecDepth 100000 in
theorem ct_34_1 {X : List Int32} {M : am_Mem} {r : Nat} {nu a : Int32} (hr : M[r]? = some (.inr (.inr (.inr (1, [.int nu, .int a]))))) :
    am_mt X 34 [.ref r] M = some (some (.int (60 + 4 * a)), M) := by
  rw [as_mt (n := 1) (by decide +kernel), show am_ent 1 [.ref r] = [some (.ref r)] from rfl]
  simp only [q34_0, q34_2, q34_3, q34_4, q34_7, q34_8, q34_9, hr, as_10, as_01, Nat.reduceBEq, Nat.reduceEqDiff, ↓reduceIte, Option.bind_some, Option.getD_some, Option.isSome_some, Option.isSome_none, Bool.false_eq_true, Option.toList, List.nil_append, List.cons_append, List.lookup, Option.isSome, List.getElem?_cons_zero, List.getElem?_cons_succ, beq_self_eq_true, if_true, true_or, or_true, am_kl, am_gf, am_ia, am_la, am_aa, am_len, am_cls, true_and, and_true]

set_option maxRecDepth 100000 in
theorem ct_35_7 {X : List Int32} {M : am_Mem} {r : Nat} {nu a : Int32} (hr : M[r]? = some (.inr (.inr (.inr (7, [.int nu, .int a]))))) :
    am_mt X 35 [.ref r] M = some (some (.int (30 + a)), M) := by
  rw [as_mt (n := 1) (by decide +kernel), show am_ent 1 [.ref r] = [some (.ref r)] from rfl]
  simp only [q35_0, q35_2, q35_3, q35_6, q35_7, hr, as_10, as_01, Nat.reduceBEq, Nat.reduceEqDiff, ↓reduceIte, Option.bind_some, Option.getD_some, Option.isSome_some, Option.isSome_none, Bool.false_eq_true, Option.toList, List.nil_append, List.cons_append, List.lookup, Option.isSome, List.getElem?_cons_zero, List.getElem?_cons_succ, beq_self_eq_true, if_true, true_or, or_true, am_kl, am_gf, am_ia, am_la, am_aa, am_len, am_cls, true_and, and_true]

set_option maxRecDepth 100000 in
theorem ct_35_4 {X : List Int32} {M : am_Mem} {r : Nat} {nu a : Int32} (hr : M[r]? = some (.inr (.inr (.inr (4, [.int nu, .int a]))))) :
    am_mt X 35 [.ref r] M = some (some (.int (30 + a)), M) := by
  rw [as_mt (n := 1) (by decide +kernel), show am_ent 1 [.ref r] = [some (.ref r)] from rfl]
  simp only [q35_0, q35_2, q35_3, q35_6, q35_7, hr, as_10, as_01, Nat.reduceBEq, Nat.reduceEqDiff, ↓reduceIte, Option.bind_some, Option.getD_some, Option.isSome_some, Option.isSome_none, Bool.false_eq_true, Option.toList, List.nil_append, List.cons_append, List.lookup, Option.isSome, List.getElem?_cons_zero, List.getElem?_cons_succ, beq_self_eq_true, if_true, true_or, or_true, am_kl, am_gf, am_ia, am_la, am_aa, am_len, am_cls, true_and, and_true]

set_option maxRecDepth 100000 in
theorem ct_36_6 {X : List Int32} {M : am_Mem} {r : Nat} {nu a : Int32} (hr : M[r]? = some (.inr (.inr (.inr (6, [.int nu, .int a]))))) :
    am_mt X 36 [.ref r] M = some (some (.int (50 + 3 * a)), M) := by
  rw [as_mt (n := 1) (by decide +kernel), show am_ent 1 [.ref r] = [some (.ref r)] from rfl]
  simp only [q36_0, q36_2, q36_3, q36_4, q36_7, q36_8, q36_9, hr, as_10, as_01, Nat.reduceBEq, Nat.reduceEqDiff, ↓reduceIte, Option.bind_some, Option.getD_some, Option.isSome_some, Option.isSome_none, Bool.false_eq_true, Option.toList, List.nil_append, List.cons_append, List.lookup, Option.isSome, List.getElem?_cons_zero, List.getElem?_cons_succ, beq_self_eq_true, if_true, true_or, or_true, am_kl, am_gf, am_ia, am_la, am_aa, am_len, am_cls, true_and, and_true]

set_option maxRecDepth 100000 in
theorem ct_37_8 {X : List Int32} {M : am_Mem} {r : Nat} {nu a : Int32} (hr : M[r]? = some (.inr (.inr (.inr (8, [.int nu, .int a]))))) :
    am_mt X 37 [.ref r] M = some (some (.int (25 + a)), M) := by
  rw [as_mt (n := 1) (by decide +kernel), show am_ent 1 [.ref r] = [some (.ref r)] from rfl]
  simp only [q37_0, q37_2, q37_3, q37_6, q37_7, hr, as_10, as_01, Nat.reduceBEq, Nat.reduceEqDiff, ↓reduceIte, Option.bind_some, Option.getD_some, Option.isSome_some, Option.isSome_none, Bool.false_eq_true, Option.toList, List.nil_append, List.cons_append, List.lookup, Option.isSome, List.getElem?_cons_zero, List.getElem?_cons_succ, beq_self_eq_true, if_true, true_or, or_true, am_kl, am_gf, am_ia, am_la, am_aa, am_len, am_cls, true_and, and_true]

set_option maxRecDepth 100000 in
theorem ct_38_3 {X : List Int32} {M : am_Mem} {r : Nat} {nu a : Int32} (hr : M[r]? = some (.inr (.inr (.inr (3, [.int nu, .int a]))))) :
    am_mt X 38 [.ref r] M = some (some (.int (40 + 2 * a)), M) := by
  rw [as_mt (n := 1) (by decide +kernel), show am_ent 1 [.ref r] = [some (.ref r)] from rfl]
  simp only [q38_0, q38_2, q38_3, q38_4, q38_7, q38_8, q38_9, hr, as_10, as_01, Nat.reduceBEq, Nat.reduceEqDiff, ↓reduceIte, Option.bind_some, Option.getD_some, Option.isSome_some, Option.isSome_none, Bool.false_eq_true, Option.toList, List.nil_append, List.cons_append, List.lookup, Option.isSome, List.getElem?_cons_zero, List.getElem?_cons_succ, beq_self_eq_true, if_true, true_or, or_true, am_kl, am_gf, am_ia, am_la, am_aa, am_len, am_cls, true_and, and_true]

set_option maxRecDepth 100000 in
theorem ct_38_2 {X : List Int32} {M : am_Mem} {r : Nat} {nu a : Int32} (hr : M[r]? = some (.inr (.inr (.inr (2, [.int nu, .int a]))))) :
    am_mt X 38 [.ref r] M = some (some (.int (40 + 2 * a)), M) := by
  rw [as_mt (n := 1) (by decide +kernel), show am_ent 1 [.ref r] = [some (.ref r)] from rfl]
  simp only [q38_0, q38_2, q38_3, q38_4, q38_7, q38_8, q38_9, hr, as_10, as_01, Nat.reduceBEq, Nat.reduceEqDiff, ↓reduceIte, Option.bind_some, Option.getD_some, Option.isSome_some, Option.isSome_none, Bool.false_eq_true, Option.toList, List.nil_append, List.cons_append, List.lookup, Option.isSome, List.getElem?_cons_zero, List.getElem?_cons_succ, beq_self_eq_true, if_true, true_or, or_true, am_kl, am_gf, am_ia, am_la, am_aa, am_len, am_cls, true_and, and_true]

set_option maxRecDepth 100000 in
theorem ct_39_1 {X : List Int32} {M : am_Mem} {r : Nat} {nu a g : Int32} (hr : M[r]? = some (.inr (.inr (.inr (1, [.int nu, .int a]))))) :
    am_mt X 39 [.ref r, .int g] M = some (some (.int 0), M) := by
  rw [as_mt (n := 2) (by decide +kernel), show am_ent 2 [.ref r, .int g] = [some (.ref r), some (.int g)] from rfl]
  simp only [q39_0, q39_1, hr, as_10, as_01, Nat.reduceBEq, Nat.reduceEqDiff, ↓reduceIte, Option.bind_some, Option.getD_some, Option.isSome_some, Option.isSome_none, Bool.false_eq_true, Option.toList, List.nil_append, List.cons_append, List.lookup, Option.isSome, List.getElem?_cons_zero, List.getElem?_cons_succ, beq_self_eq_true, if_true, true_or, or_true, am_kl, am_gf, am_ia, am_la, am_aa, am_len, am_cls, true_and, and_true]

set_option maxRecDepth 100000 in
theorem ct_40_2 {X : List Int32} {M : am_Mem} {r : Nat} {nu a g : Int32} (hr : M[r]? = some (.inr (.inr (.inr (2, [.int nu, .int a]))))) :
    am_mt X 40 [.ref r, .int g] M = some (some (.int (20 + a)), M) := by
  rw [as_mt (n := 2) (by decide +kernel), show am_ent 2 [.ref r, .int g] = [some (.ref r), some (.int g)] from rfl]
  simp only [q40_0, q40_2, q40_3, q40_6, q40_7, hr, as_10, as_01, Nat.reduceBEq, Nat.reduceEqDiff, ↓reduceIte, Option.bind_some, Option.getD_some, Option.isSome_some, Option.isSome_none, Bool.false_eq_true, Option.toList, List.nil_append, List.cons_append, List.lookup, Option.isSome, List.getElem?_cons_zero, List.getElem?_cons_succ, beq_self_eq_true, if_true, true_or, or_true, am_kl, am_gf, am_ia, am_la, am_aa, am_len, am_cls, true_and, and_true]

set_option maxRecDepth 100000 in
theorem ct_42_7 {X : List Int32} {M : am_Mem} {r : Nat} {nu a g : Int32} (hr : M[r]? = some (.inr (.inr (.inr (7, [.int nu, .int a]))))) :
    am_mt X 42 [.ref r, .int g] M = some (some (.int (45 + 2 * a)), M) := by
  rw [as_mt (n := 2) (by decide +kernel), show am_ent 2 [.ref r, .int g] = [some (.ref r), some (.int g)] from rfl]
  simp only [q42_0, q42_2, q42_3, q42_4, q42_7, q42_8, q42_9, hr, as_10, as_01, Nat.reduceBEq, Nat.reduceEqDiff, ↓reduceIte, Option.bind_some, Option.getD_some, Option.isSome_some, Option.isSome_none, Bool.false_eq_true, Option.toList, List.nil_append, List.cons_append, List.lookup, Option.isSome, List.getElem?_cons_zero, List.getElem?_cons_succ, beq_self_eq_true, if_true, true_or, or_true, am_kl, am_gf, am_ia, am_la, am_aa, am_len, am_cls, true_and, and_true]

set_option maxRecDepth 100000 in
theorem ct_42_4 {X : List Int32} {M : am_Mem} {r : Nat} {nu a g : Int32} (hr : M[r]? = some (.inr (.inr (.inr (4, [.int nu, .int a]))))) :
    am_mt X 42 [.ref r, .int g] M = some (some (.int (45 + 2 * a)), M) := by
  rw [as_mt (n := 2) (by decide +kernel), show am_ent 2 [.ref r, .int g] = [some (.ref r), some (.int g)] from rfl]
  simp only [q42_0, q42_2, q42_3, q42_4, q42_7, q42_8, q42_9, hr, as_10, as_01, Nat.reduceBEq, Nat.reduceEqDiff, ↓reduceIte, Option.bind_some, Option.getD_some, Option.isSome_some, Option.isSome_none, Bool.false_eq_true, Option.toList, List.nil_append, List.cons_append, List.lookup, Option.isSome, List.getElem?_cons_zero, List.getElem?_cons_succ, beq_self_eq_true, if_true, true_or, or_true, am_kl, am_gf, am_ia, am_la, am_aa, am_len, am_cls, true_and, and_true]

set_option maxRecDepth 100000 in
theorem ct_42_8 {X : List Int32} {M : am_Mem} {r : Nat} {nu a g : Int32} (hr : M[r]? = some (.inr (.inr (.inr (8, [.int nu, .int a]))))) :
    am_mt X 42 [.ref r, .int g] M = some (some (.int (45 + 2 * a)), M) := by
  rw [as_mt (n := 2) (by decide +kernel), show am_ent 2 [.ref r, .int g] = [some (.ref r), some (.int g)] from rfl]
  simp only [q42_0, q42_2, q42_3, q42_4, q42_7, q42_8, q42_9, hr, as_10, as_01, Nat.reduceBEq, Nat.reduceEqDiff, ↓reduceIte, Option.bind_some, Option.getD_some, Option.isSome_some, Option.isSome_none, Bool.false_eq_true, Option.toList, List.nil_append, List.cons_append, List.lookup, Option.isSome, List.getElem?_cons_zero, List.getElem?_cons_succ, beq_self_eq_true, if_true, true_or, or_true, am_kl, am_gf, am_ia, am_la, am_aa, am_len, am_cls, true_and, and_true]

set_option maxRecDepth 100000 in
theorem ct_41_4 {X : List Int32} {M : am_Mem} {r : Nat} {nu a g : Int32} (hr : M[r]? = some (.inr (.inr (.inr (4, [.int nu, .int a]))))) :
    am_mt X 41 [.ref r, .int g] M = some (some (.int (45 + 2 * a + (if g = 1 then 5 else -10))), M) := by
  rw [as_mt (n := 2) (by decide +kernel), show am_ent 2 [.ref r, .int g] = [some (.ref r), some (.int g)] from rfl]
  simp only [q41_0, q41_1, q41_2, q41_5, q41_6, q41_7, q41_10, q41_11, q41_14, q41_16, q41_17, hr, as_10, as_01, Nat.reduceBEq, Nat.reduceEqDiff, ↓reduceIte, Option.bind_some, Option.getD_some, Option.isSome_some, Option.isSome_none, Bool.false_eq_true, Option.toList, List.nil_append, List.cons_append, List.lookup, Option.isSome, List.getElem?_cons_zero, List.getElem?_cons_succ, beq_self_eq_true, if_true, true_or, or_true, am_kl, am_gf, am_ia, am_la, am_aa, am_len, am_cls, true_and, and_true, ct_42_4 hr]
  by_cases hg : g = 1 <;> simp [hg]

set_option maxRecDepth 100000 in
theorem ct_43_6 {X : List Int32} {M : am_Mem} {r : Nat} {nu a g : Int32} (hr : M[r]? = some (.inr (.inr (.inr (6, [.int nu, .int a]))))) :
    am_mt X 43 [.ref r, .int g] M = some (some (.int (25 + a)), M) := by
  rw [as_mt (n := 2) (by decide +kernel), show am_ent 2 [.ref r, .int g] = [some (.ref r), some (.int g)] from rfl]
  simp only [q43_0, q43_2, q43_3, q43_6, q43_7, hr, as_10, as_01, Nat.reduceBEq, Nat.reduceEqDiff, ↓reduceIte, Option.bind_some, Option.getD_some, Option.isSome_some, Option.isSome_none, Bool.false_eq_true, Option.toList, List.nil_append, List.cons_append, List.lookup, Option.isSome, List.getElem?_cons_zero, List.getElem?_cons_succ, beq_self_eq_true, if_true, true_or, or_true, am_kl, am_gf, am_ia, am_la, am_aa, am_len, am_cls, true_and, and_true]

set_option maxRecDepth 100000 in
theorem ct_44_8 {X : List Int32} {M : am_Mem} {r : Nat} {nu a g : Int32} (hr : M[r]? = some (.inr (.inr (.inr (8, [.int nu, .int a]))))) :
    am_mt X 44 [.ref r, .int g] M = some (some (.int (45 + 2 * a + 10)), M) := by
  rw [as_mt (n := 2) (by decide +kernel), show am_ent 2 [.ref r, .int g] = [some (.ref r), some (.int g)] from rfl]
  simp only [q44_0, q44_1, q44_2, q44_5, q44_7, q44_8, hr, as_10, as_01, Nat.reduceBEq, Nat.reduceEqDiff, ↓reduceIte, Option.bind_some, Option.getD_some, Option.isSome_some, Option.isSome_none, Bool.false_eq_true, Option.toList, List.nil_append, List.cons_append, List.lookup, Option.isSome, List.getElem?_cons_zero, List.getElem?_cons_succ, beq_self_eq_true, if_true, true_or, or_true, am_kl, am_gf, am_ia, am_la, am_aa, am_len, am_cls, true_and, and_true, ct_42_8 hr]

set_option maxRecDepth 100000 in
theorem ct_45_3 {X : List Int32} {M : am_Mem} {r : Nat} {nu a g : Int32} (hr : M[r]? = some (.inr (.inr (.inr (3, [.int nu, .int a]))))) :
    am_mt X 45 [.ref r, .int g] M = some (some (.int (30 + a)), M) := by
  rw [as_mt (n := 2) (by decide +kernel), show am_ent 2 [.ref r, .int g] = [some (.ref r), some (.int g)] from rfl]
  simp only [q45_0, q45_2, q45_3, q45_6, q45_7, hr, as_10, as_01, Nat.reduceBEq, Nat.reduceEqDiff, ↓reduceIte, Option.bind_some, Option.getD_some, Option.isSome_some, Option.isSome_none, Bool.false_eq_true, Option.toList, List.nil_append, List.cons_append, List.lookup, Option.isSome, List.getElem?_cons_zero, List.getElem?_cons_succ, beq_self_eq_true, if_true, true_or, or_true, am_kl, am_gf, am_ia, am_la, am_aa, am_len, am_cls, true_and, and_true]

set_option maxRecDepth 100000 in
theorem ct_59_1 {X : List Int32} {M : am_Mem} {r : Nat} {nu a : Int32} (hr : M[r]? = some (.inr (.inr (.inr (1, [.int nu, .int a]))))) :
    am_mt X 59 [.ref r] M = some (some (.int 6), M) := by
  rw [as_mt (n := 1) (by decide +kernel), show am_ent 1 [.ref r] = [some (.ref r)] from rfl]
  simp only [q59_0, q59_2, hr, as_10, as_01, Nat.reduceBEq, Nat.reduceEqDiff, ↓reduceIte, Option.bind_some, Option.getD_some, Option.isSome_some, Option.isSome_none, Bool.false_eq_true, Option.toList, List.nil_append, List.cons_append, List.lookup, Option.isSome, List.getElem?_cons_zero, List.getElem?_cons_succ, beq_self_eq_true, if_true, true_or, or_true, am_kl, am_gf, am_ia, am_la, am_aa, am_len, am_cls, true_and, and_true]

set_option maxRecDepth 100000 in
theorem ct_60_2 {X : List Int32} {M : am_Mem} {r : Nat} {nu a : Int32} (hr : M[r]? = some (.inr (.inr (.inr (2, [.int nu, .int a]))))) :
    am_mt X 60 [.ref r] M = some (some (.int 2), M) := by
  rw [as_mt (n := 1) (by decide +kernel), show am_ent 1 [.ref r] = [some (.ref r)] from rfl]
  simp only [q60_0, q60_1, hr, as_10, as_01, Nat.reduceBEq, Nat.reduceEqDiff, ↓reduceIte, Option.bind_some, Option.getD_some, Option.isSome_some, Option.isSome_none, Bool.false_eq_true, Option.toList, List.nil_append, List.cons_append, List.lookup, Option.isSome, List.getElem?_cons_zero, List.getElem?_cons_succ, beq_self_eq_true, if_true, true_or, or_true, am_kl, am_gf, am_ia, am_la, am_aa, am_len, am_cls, true_and, and_true]

set_option maxRecDepth 100000 in
theorem ct_61_4 {X : List Int32} {M : am_Mem} {r : Nat} {nu a : Int32} (hr : M[r]? = some (.inr (.inr (.inr (4, [.int nu, .int a]))))) :
    am_mt X 61 [.ref r] M = some (some (.int 5), M) := by
  rw [as_mt (n := 1) (by decide +kernel), show am_ent 1 [.ref r] = [some (.ref r)] from rfl]
  simp only [q61_0, q61_1, hr, as_10, as_01, Nat.reduceBEq, Nat.reduceEqDiff, ↓reduceIte, Option.bind_some, Option.getD_some, Option.isSome_some, Option.isSome_none, Bool.false_eq_true, Option.toList, List.nil_append, List.cons_append, List.lookup, Option.isSome, List.getElem?_cons_zero, List.getElem?_cons_succ, beq_self_eq_true, if_true, true_or, or_true, am_kl, am_gf, am_ia, am_la, am_aa, am_len, am_cls, true_and, and_true]

set_option maxRecDepth 100000 in
theorem ct_62_6 {X : List Int32} {M : am_Mem} {r : Nat} {nu a : Int32} (hr : M[r]? = some (.inr (.inr (.inr (6, [.int nu, .int a]))))) :
    am_mt X 62 [.ref r] M = some (some (.int 4), M) := by
  rw [as_mt (n := 1) (by decide +kernel), show am_ent 1 [.ref r] = [some (.ref r)] from rfl]
  simp only [q62_0, q62_1, hr, as_10, as_01, Nat.reduceBEq, Nat.reduceEqDiff, ↓reduceIte, Option.bind_some, Option.getD_some, Option.isSome_some, Option.isSome_none, Bool.false_eq_true, Option.toList, List.nil_append, List.cons_append, List.lookup, Option.isSome, List.getElem?_cons_zero, List.getElem?_cons_succ, beq_self_eq_true, if_true, true_or, or_true, am_kl, am_gf, am_ia, am_la, am_aa, am_len, am_cls, true_and, and_true]

set_option maxRecDepth 100000 in
theorem ct_63_7 {X : List Int32} {M : am_Mem} {r : Nat} {nu a : Int32} (hr : M[r]? = some (.inr (.inr (.inr (7, [.int nu, .int a]))))) :
    am_mt X 63 [.ref r] M = some (some (.int 1), M) := by
  rw [as_mt (n := 1) (by decide +kernel), show am_ent 1 [.ref r] = [some (.ref r)] from rfl]
  simp only [q63_0, q63_1, hr, as_10, as_01, Nat.reduceBEq, Nat.reduceEqDiff, ↓reduceIte, Option.bind_some, Option.getD_some, Option.isSome_some, Option.isSome_none, Bool.false_eq_true, Option.toList, List.nil_append, List.cons_append, List.lookup, Option.isSome, List.getElem?_cons_zero, List.getElem?_cons_succ, beq_self_eq_true, if_true, true_or, or_true, am_kl, am_gf, am_ia, am_la, am_aa, am_len, am_cls, true_and, and_true]

set_option maxRecDepth 100000 in
theorem ct_64_8 {X : List Int32} {M : am_Mem} {r : Nat} {nu a : Int32} (hr : M[r]? = some (.inr (.inr (.inr (8, [.int nu, .int a]))))) :
    am_mt X 64 [.ref r] M = some (some (.int 3), M) := by
  rw [as_mt (n := 1) (by decide +kernel), show am_ent 1 [.ref r] = [some (.ref r)] from rfl]
  simp only [q64_0, q64_1, hr, as_10, as_01, Nat.reduceBEq, Nat.reduceEqDiff, ↓reduceIte, Option.bind_some, Option.getD_some, Option.isSome_some, Option.isSome_none, Bool.false_eq_true, Option.toList, List.nil_append, List.cons_append, List.lookup, Option.isSome, List.getElem?_cons_zero, List.getElem?_cons_succ, beq_self_eq_true, if_true, true_or, or_true, am_kl, am_gf, am_ia, am_la, am_aa, am_len, am_cls, true_and, and_true]

set_option maxRecDepth 100000 in
theorem ct_65_3 {X : List Int32} {M : am_Mem} {r : Nat} {nu a : Int32} (hr : M[r]? = some (.inr (.inr (.inr (3, [.int nu, .int a]))))) :
    am_mt X 65 [.ref r] M = some (some (.int 0), M) := by
  rw [as_mt (n := 1) (by decide +kernel), show am_ent 1 [.ref r] = [some (.ref r)] from rfl]
  simp only [q65_0, q65_1, hr, as_10, as_01, Nat.reduceBEq, Nat.reduceEqDiff, ↓reduceIte, Option.bind_some, Option.getD_some, Option.isSome_some, Option.isSome_none, Bool.false_eq_true, Option.toList, List.nil_append, List.cons_append, List.lookup, Option.isSome, List.getElem?_cons_zero, List.getElem?_cons_succ, beq_self_eq_true, if_true, true_or, or_true, am_kl, am_gf, am_ia, am_la, am_aa, am_len, am_cls, true_and, and_true]

