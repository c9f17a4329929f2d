/-! ===== contracts: a team ===== -/
def md_pl (pl : List Nat) : List Value := pl.map .ref ++ List.replicate (12 - pl.length) .null
def md_at (pl : List Nat) (i : Int32) : Value := if i < 0 then .null else match pl[i.toNatClampNeg]? with
  | some r => .ref r
  | none => .null
def md_pos : List Int32 → Int32 → Int32 → Int32
  | [], _, _ => -1
  | f :: r, k, x => if f = x then k else md_pos r (k + 1) x
theorem md_pl_len {pl : List Nat} (h : pl.length ≤ 12) : (md_pl pl).length = 12 := by
  simp [md_pl]; omega
theorem md_pl_get {pl : List Nat} {k : Nat} (h : k < pl.length) : (md_pl pl)[k]? = some (.ref pl[k]) := by
  unfold md_pl
  rw [List.getElem?_append_left (by simpa using h)]
  simp [h]
theorem md_at_lt {pl : List Nat} {k : Nat} (h : k < pl.length) (h2 : pl.length ≤ 12) : md_at pl (Int32.ofNat k) = .ref pl[k] := by
  unfold md_at
  rw [if_neg (as_pos (by omega)), as_nat (by omega), List.getElem?_eq_getElem h]
theorem md_at_ge {pl : List Nat} {k : Nat} (h : pl.length ≤ k) (h2 : k < 2147483648) : md_at pl (Int32.ofNat k) = .null := by
  unfold md_at
  rw [if_neg (as_pos (by omega)), as_nat (by omega), List.getElem?_eq_none h]
theorem md_at_neg {pl : List Nat} {i : Int32} (h : i < 0) : md_at pl i = .null := by
  unfold md_at; rw [if_pos h]
set_option maxRecDepth 100000 in
theorem ct_30 {X : List Int32} {M : am_Mem} {t pa fa : Nat} {c b sp sf bp gl us th sv su st ra sd : Int32} {pl : List Nat} {i : Int32} (hT : M[t]? = some (.inr (.inr (.inr (9, [.ref pa, .ref fa, .int c, .int b, .int sp, .int sf, .int bp, .int gl, .int us, .int th, .int sv, .int su, .int st, .int ra, .int sd]))))) (hP : M[pa]? = some (.inr (.inr (.inl (3, md_pl pl))))) (hl : pl.length ≤ 12) (hc : c = Int32.ofNat pl.length) :
    am_mt X 30 [.ref t, .int i] M = some (some (md_at pl i), M) := by
  rw [as_mt (n := 2) (by decide +kernel), show am_ent 2 [.ref t, .int i] = [some (.ref t), some (.int i)] from rfl]
  simp only [q30_0, q30_1, q30_4, q30_5, q30_6, q30_9, q30_12, q30_13, q30_14, q30_17, q30_18, q30_21, q30_22, q30_25, q30_26, q30_27, q30_30, q30_31, q30_31n, hT, hP, hl, hc, as_10, as_01, Nat.reduceBEq, Nat.reduceEqDiff, ↓reduceIte, Option.bind_some, Option.getD_some, Option.isSome_some, Option.isSome_none, Bool.false_eq_true, Option.toList, List.nil_append, List.cons_append, List.lookup, Option.isSome, List.getElem?_cons_zero, List.getElem?_cons_succ, beq_self_eq_true, if_true, true_or, or_true, am_kl, am_gf, am_ia, am_la, am_aa, am_len, am_cls, true_and, and_true, List.length_cons, List.length_nil, Nat.reduceAdd, Int32.reduceLT, Int32.reduceLE, Int32.reduceAdd, Int32.reduceSub, Int32.reduceToNatClampNeg, if_false, false_or, or_false, Nat.reduceLeDiff, Nat.reduceLT, List.set_cons_zero, List.set_cons_succ]
  by_cases h0 : i < 0
  · simp only [h0, md_at_neg h0, ↓reduceIte]
  · obtain ⟨k, hk, rfl⟩ := as_ofN h0
    have e1 := as_lt hk (show pl.length < 2147483648 by omega)
    have e2 := as_lt hk (show 12 < 2147483648 by decide)
    by_cases h1 : k < pl.length
    · have h2 : k < 12 := by omega
      simp only [h0, as_nat hk, md_pl_len hl, e1, e2, h1, h2, md_pl_get h1, md_at_lt h1 hl, am_isO, as_10, as_01, Nat.reduceBEq, Nat.reduceEqDiff, ↓reduceIte, Option.bind_some, Option.getD_some, Option.isSome_some, Option.isSome_none, Bool.false_eq_true, Option.toList, List.nil_append, List.cons_append, List.lookup, Option.isSome, List.getElem?_cons_zero, List.getElem?_cons_succ, beq_self_eq_true, if_true, true_or, or_true, am_kl, am_gf, am_ia, am_la, am_aa, am_len, am_cls, true_and, and_true, List.length_cons, List.length_nil, Nat.reduceAdd, Int32.reduceLT, Int32.reduceLE, Int32.reduceAdd, Int32.reduceSub, Int32.reduceToNatClampNeg, if_false, false_or, or_false, Nat.reduceLeDiff, Nat.reduceLT, List.set_cons_zero, List.set_cons_succ, q30_0, q30_1, q30_4, q30_5, q30_6, q30_9, q30_12, q30_13, q30_14, q30_17, q30_18, q30_21, q30_22, q30_25, q30_26, q30_27, q30_30, q30_31, q30_31n, or_true, ↓reduceIte]
    · simp only [h0, e1, h1, ↓reduceIte, md_at_ge (Nat.le_of_not_lt h1) hk]

set_option maxRecDepth 100000 in
theorem ct_33 {X : List Int32} {M : am_Mem} {t pa fa : Nat} {c b sp sf bp gl us th sv su st ra sd : Int32} {f0 f1 f2 f3 f4 f5 : Int32} {x : Int32} (hT : M[t]? = some (.inr (.inr (.inr (9, [.ref pa, .ref fa, .int c, .int b, .int sp, .int sf, .int bp, .int gl, .int us, .int th, .int sv, .int su, .int st, .int ra, .int sd]))))) (hF : M[fa]? = some (.inl [f0, f1, f2, f3, f4, f5])) :
    am_mt X 33 [.ref t, .int x] M = some (some (.int (md_pos [f0, f1, f2, f3, f4, f5] 0 x)), M) := by
  rw [as_mt (n := 3) (by decide +kernel), show am_ent 3 [.ref t, .int x] = [some (.ref t), some (.int x), none] from rfl]
  simp only [q33_0, q33_1, q33_2, q33_3, q33_4, q33_7, q33_8, q33_11, q33_12, q33_15, q33_16, q33_17, q33_18, q33_21, q33_22, q33_23, q33_26, q33_29, q33_30, hT, hF, as_10, as_01, Nat.reduceBEq, Nat.reduceEqDiff, ↓reduceIte, Option.bind_some, Option.getD_some, Option.isSome_some, Option.isSome_none, Bool.false_eq_true, Option.toList, List.nil_append, List.cons_append, List.lookup, Option.isSome, List.getElem?_cons_zero, List.getElem?_cons_succ, beq_self_eq_true, if_true, true_or, or_true, am_kl, am_gf, am_ia, am_la, am_aa, am_len, am_cls, true_and, and_true, List.length_cons, List.length_nil, Nat.reduceAdd, Int32.reduceOfNat, Int32.reduceLT, Int32.reduceLE, Int32.reduceAdd, Int32.reduceSub, Int32.reduceToNatClampNeg, if_false, false_or, or_false, Nat.reduceLeDiff, Nat.reduceLT, List.set_cons_zero, List.set_cons_succ, md_pos]
  (repeat' split) <;> rfl

set_option maxRecDepth 100000 in
theorem ct_75 {X : List Int32} {M : am_Mem} {t pa fa : Nat} {c b sp sf bp gl us th sv su st ra sd : Int32} {w : Int32} (hT : M[t]? = some (.inr (.inr (.inr (9, [.ref pa, .ref fa, .int c, .int b, .int sp, .int sf, .int bp, .int gl, .int us, .int th, .int sv, .int su, .int st, .int ra, .int sd]))))) :
    am_mt X 75 [.ref t, .int w] M = some (some (.int (if w = 0 then b else if w = 1 then sp else if w = 2 then sf else if w = 3 then bp else gl)), M) := by
  rw [as_mt (n := 2) (by decide +kernel), show am_ent 2 [.ref t, .int w] = [some (.ref t), some (.int w)] from rfl]
  simp only [q75_0, q75_1, q75_32, q75_33, q75_36, q75_37, q75_38, q75_41, q75_42, q75_43, q75_46, q75_47, q75_48, q75_51, q75_52, q75_53, q75_56, hT, as_10, as_01, Nat.reduceBEq, Nat.reduceEqDiff, ↓reduceIte, Option.bind_some, Option.getD_some, Option.isSome_some, Option.isSome_none, Bool.false_eq_true, Option.toList, List.nil_append, List.cons_append, List.lookup, Option.isSome, List.getElem?_cons_zero, List.getElem?_cons_succ, beq_self_eq_true, if_true, true_or, or_true, am_kl, am_gf, am_ia, am_la, am_aa, am_len, am_cls, true_and, and_true, List.length_cons, List.length_nil, Nat.reduceAdd, Int32.reduceOfNat, Int32.reduceLT, Int32.reduceLE, Int32.reduceAdd, Int32.reduceSub, Int32.reduceToNatClampNeg, if_false, false_or, or_false, Nat.reduceLeDiff, Nat.reduceLT, List.set_cons_zero, List.set_cons_succ]
  (repeat' split) <;> rfl

set_option maxRecDepth 100000 in
theorem ct_47 {X : List Int32} {M : am_Mem} {t pa fa : Nat} {c b sp sf bp gl us th sv su st ra sd : Int32} {pl : List Nat} (hT : M[t]? = some (.inr (.inr (.inr (9, [.ref pa, .ref fa, .int c, .int b, .int sp, .int sf, .int bp, .int gl, .int us, .int th, .int sv, .int su, .int st, .int ra, .int sd]))))) (hP : M[pa]? = some (.inr (.inr (.inl (3, md_pl pl))))) (hl : pl.length ≤ 12) (hc : c = Int32.ofNat pl.length) :
    am_mt X 47 [.ref t] M = some (some (.int (if pl.length < 12 then 1 else 0)), M) := by
  rw [as_mt (n := 1) (by decide +kernel), show am_ent 1 [.ref t] = [some (.ref t)] from rfl]
  simp only [q47_0, q47_1, q47_4, q47_5, q47_8, q47_9, q47_12, q47_13, q47_16, q47_17, hT, hP, hl, hc, as_10, as_01, Nat.reduceBEq, Nat.reduceEqDiff, ↓reduceIte, Option.bind_some, Option.getD_some, Option.isSome_some, Option.isSome_none, Bool.false_eq_true, Option.toList, List.nil_append, List.cons_append, List.lookup, Option.isSome, List.getElem?_cons_zero, List.getElem?_cons_succ, beq_self_eq_true, if_true, true_or, or_true, am_kl, am_gf, am_ia, am_la, am_aa, am_len, am_cls, true_and, and_true, List.length_cons, List.length_nil, Nat.reduceAdd, Int32.reduceOfNat, Int32.reduceLT, Int32.reduceLE, Int32.reduceAdd, Int32.reduceSub, Int32.reduceToNatClampNeg, if_false, false_or, or_false, Nat.reduceLeDiff, Nat.reduceLT, List.set_cons_zero, List.set_cons_succ, md_pl_len hl]
  have e := as_lt (a := pl.length) (b := 12) (by omega) (by decide)
  rw [show Int32.ofNat 12 = 12 from rfl] at e
  by_cases h : pl.length < 12
  · rw [if_pos (e.mpr h), if_pos h]
  · rw [if_neg (fun q => h (e.mp q)), if_neg h]

set_option maxRecDepth 100000 in
theorem ct_9 {X : List Int32} {M : am_Mem} {fa : Nat} {xs : List Int32} {k : Nat} (hF : M[fa]? = some (.inl xs)) (hk : k < xs.length) (hx : xs.length < 1000) :
    am_mt X 9 [.ref fa, .int (Int32.ofNat k)] M = some (some (.int (xs.getD k 0)), M) := by
  rw [as_mt (n := 2) (by decide +kernel), show am_ent 2 [.ref fa, .int (Int32.ofNat k)] = [some (.ref fa), some (.int (Int32.ofNat k))] from rfl]
  simp only [q9_0, q9_1, q9_4, q9_5, q9_5n, q9_6, q9_7, q9_10, q9_10n, q9_11, q9_12, q9_13, q9_16, q9_17, hF, hk, hx, as_10, as_01, Nat.reduceBEq, Nat.reduceEqDiff, ↓reduceIte, Option.bind_some, Option.getD_some, Option.isSome_some, Option.isSome_none, Bool.false_eq_true, Option.toList, List.nil_append, List.cons_append, List.lookup, Option.isSome, List.getElem?_cons_zero, List.getElem?_cons_succ, beq_self_eq_true, if_true, true_or, or_true, am_kl, am_gf, am_ia, am_la, am_aa, am_len, am_cls, true_and, and_true, List.length_cons, List.length_nil, Nat.reduceAdd, Int32.reduceOfNat, Int32.reduceLT, Int32.reduceLE, Int32.reduceAdd, Int32.reduceSub, Int32.reduceToNatClampNeg, if_false, false_or, or_false, Nat.reduceLeDiff, Nat.reduceLT, List.set_cons_zero, List.set_cons_succ, if_neg (as_pos (show k < 2147483648 by omega)), as_nat (show k < 2147483648 by omega), as_lt (show k < 2147483648 by omega) (show xs.length < 2147483648 by omega), if_pos hk, List.getElem?_eq_getElem hk, List.getD_eq_getElem?_getD, Option.getD_some]

set_option maxRecDepth 100000 in
theorem ct_10 {X : List Int32} {M : am_Mem} {fa : Nat} {xs : List Int32} {k : Nat} {v : Int32} (hF : M[fa]? = some (.inl xs)) (hk : k < xs.length) (hx : xs.length < 1000) :
    am_mt X 10 [.ref fa, .int (Int32.ofNat k), .int v] M = some (none, M.set fa (.inl (xs.set k v))) := by
  rw [as_mt (n := 3) (by decide +kernel), show am_ent 3 [.ref fa, .int (Int32.ofNat k), .int v] = [some (.ref fa), some (.int (Int32.ofNat k)), some (.int v)] from rfl]
  simp only [q10_0, q10_1, q10_4, q10_5, q10_5n, q10_6, q10_7, q10_10, q10_10n, q10_11, q10_12, q10_13, q10_14, hF, hk, hx, as_10, as_01, Nat.reduceBEq, Nat.reduceEqDiff, ↓reduceIte, Option.bind_some, Option.getD_some, Option.isSome_some, Option.isSome_none, Bool.false_eq_true, Option.toList, List.nil_append, List.cons_append, List.lookup, Option.isSome, List.getElem?_cons_zero, List.getElem?_cons_succ, beq_self_eq_true, if_true, true_or, or_true, am_kl, am_gf, am_ia, am_la, am_aa, am_len, am_cls, true_and, and_true, List.length_cons, List.length_nil, Nat.reduceAdd, Int32.reduceOfNat, Int32.reduceLT, Int32.reduceLE, Int32.reduceAdd, Int32.reduceSub, Int32.reduceToNatClampNeg, if_false, false_or, or_false, Nat.reduceLeDiff, Nat.reduceLT, List.set_cons_zero, List.set_cons_succ, am_iset, if_neg (as_pos (show k < 2147483648 by omega)), as_nat (show k < 2147483648 by omega), as_lt (show k < 2147483648 by omega) (show xs.length < 2147483648 by omega), if_pos hk, Nat.not_le.mpr hk, as_pos (show k < 2147483648 by omega)]

set_option maxRecDepth 100000 in
theorem ct_68 {X : List Int32} {M : am_Mem} {t pa fa : Nat} {c b sp sf bp gl us th sv su st ra sd : Int32} {fl : List Int32} {p u : Nat} (hT : M[t]? = some (.inr (.inr (.inr (9, [.ref pa, .ref fa, .int c, .int b, .int sp, .int sf, .int bp, .int gl, .int us, .int th, .int sv, .int su, .int st, .int ra, .int sd]))))) (hF : M[fa]? = some (.inl fl)) (hfl : fl.length = 6) (hp : p < 6) (hu : u < 6) :
    am_mt X 68 [.ref t, .int (Int32.ofNat p), .int (Int32.ofNat u)] M = some (some (.int (fl.getD ((p + 6 - u) % 6) (-1))), M) := by
  rw [as_mt (n := 4) (by decide +kernel), show am_ent 4 [.ref t, .int (Int32.ofNat p), .int (Int32.ofNat u)] = [some (.ref t), some (.int (Int32.ofNat p)), some (.int (Int32.ofNat u)), none] from rfl]
  simp only [q68_0, q68_1, q68_2, q68_3, q68_5, q68_6, q68_8, q68_9, q68_10, q68_11, q68_14, q68_15, q68_16, q68_19, q68_20, q68_23, q68_24, q68_27, q68_28, q68_29, q68_32, q68_33, hT, hF, hfl, hp, hu, as_10, as_01, Nat.reduceBEq, Nat.reduceEqDiff, ↓reduceIte, Option.bind_some, Option.getD_some, Option.isSome_some, Option.isSome_none, Bool.false_eq_true, Option.toList, List.nil_append, List.cons_append, List.lookup, Option.isSome, List.getElem?_cons_zero, List.getElem?_cons_succ, beq_self_eq_true, if_true, true_or, or_true, am_kl, am_gf, am_ia, am_la, am_aa, am_len, am_cls, true_and, and_true, List.length_cons, List.length_nil, Nat.reduceAdd, Int32.reduceLT, Int32.reduceLE, Int32.reduceAdd, Int32.reduceSub, Int32.reduceToNatClampNeg, if_false, false_or, or_false, Nat.reduceLeDiff, Nat.reduceLT, List.set_cons_zero, List.set_cons_succ, as_z6, as_rot hp hu, as_pos (show (p + 6 - u) % 6 < 2147483648 by omega), as_nat (show (p + 6 - u) % 6 < 2147483648 by omega), as_lt (show (p + 6 - u) % 6 < 2147483648 by omega) (show 6 < 2147483648 by decide), show (p + 6 - u) % 6 < 6 from Nat.mod_lt _ (by decide), List.getElem?_eq_getElem (show (p + 6 - u) % 6 < fl.length by rw [hfl]; exact Nat.mod_lt _ (by decide)), List.getD_eq_getElem?_getD, Option.getD_some]

theorem md_at_c (pl : List Nat) (i : Int32) : (∃ r, md_at pl i = .ref r) ∨ md_at pl i = .null := by
  unfold md_at
  split
  · exact .inr rfl
  · split
    · exact .inl ⟨_, rfl⟩
    · exact .inr rfl
set_option maxRecDepth 100000 in
theorem ct_100 {X : List Int32} {M : am_Mem} {t pa fa : Nat} {c b sp sf bp gl us th sv su st ra sd : Int32} {fl : List Int32} {pl : List Nat} {p u : Nat} (hT : M[t]? = some (.inr (.inr (.inr (9, [.ref pa, .ref fa, .int c, .int b, .int sp, .int sf, .int bp, .int gl, .int us, .int th, .int sv, .int su, .int st, .int ra, .int sd]))))) (hF : M[fa]? = some (.inl fl)) (hfl : fl.length = 6) (hP : M[pa]? = some (.inr (.inr (.inl (3, md_pl pl))))) (hl : pl.length ≤ 12) (hc : c = Int32.ofNat pl.length) (hp : p < 6) (hu : u < 6) :
    am_mt X 100 [.ref t, .int (Int32.ofNat p), .int (Int32.ofNat u)] M = some (some (md_at pl (fl.getD ((p + 6 - u) % 6) (-1))), M) := by
  rw [as_mt (n := 3) (by decide +kernel), show am_ent 3 [.ref t, .int (Int32.ofNat p), .int (Int32.ofNat u)] = [some (.ref t), some (.int (Int32.ofNat p)), some (.int (Int32.ofNat u))] from rfl]
  simp only [q100_0, q100_1, q100_2, q100_3, q100_4, q100_7, q100_10, q100_10n, hT, hF, hfl, hP, hl, hc, hp, hu, as_10, as_01, Nat.reduceBEq, Nat.reduceEqDiff, ↓reduceIte, Option.bind_some, Option.getD_some, Option.isSome_some, Option.isSome_none, Bool.false_eq_true, Option.toList, List.nil_append, List.cons_append, List.lookup, Option.isSome, List.getElem?_cons_zero, List.getElem?_cons_succ, beq_self_eq_true, if_true, true_or, or_true, am_kl, am_gf, am_ia, am_la, am_aa, am_len, am_cls, true_and, and_true, List.length_cons, List.length_nil, Nat.reduceAdd, Int32.reduceLT, Int32.reduceLE, Int32.reduceAdd, Int32.reduceSub, Int32.reduceToNatClampNeg, if_false, false_or, or_false, Nat.reduceLeDiff, Nat.reduceLT, List.set_cons_zero, List.set_cons_succ, ct_68 hT hF hfl hp hu, ct_30 hT hP hl hc]
  rcases md_at_c pl (fl.getD ((p + 6 - u) % 6) (-1)) with ⟨r, h⟩ | h <;> simp only [h, q100_10, q100_10n]

