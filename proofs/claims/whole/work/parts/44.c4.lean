/-! ===== contracts: players in a team, values ===== -/
theorem ct_skA {M : am_Mem} {r c : Nat} {nu a : Int32} (hc : md_pc c) (hM : M[r]? = some (.inr (.inr (.inr (c, [.int nu, .int a]))))) : (List.lookup ((am_cls M r).getD 0) [(3, 38), (7, 35), (2, 38), (8, 37), (6, 36), (4, 35), (1, 34)]).isSome = true := by
  rcases hc with rfl | rfl | rfl | rfl | rfl | rfl | rfl <;> simp [am_cls, hM, List.lookup]
theorem ct_skB {X : List Int32} {M : am_Mem} {r c : Nat} {nu a : Int32} (hc : md_pc c) (hM : M[r]? = some (.inr (.inr (.inr (c, [.int nu, .int a]))))) : am_mt X ((List.lookup ((am_cls M r).getD 0) [(3, 38), (7, 35), (2, 38), (8, 37), (6, 36), (4, 35), (1, 34)]).getD 0) [.ref r] M = some (some (.int (md_sk c a)), M) := by
  have e : (am_cls M r).getD 0 = c := by simp [am_cls, hM]
  rw [e]
  rcases hc with rfl | rfl | rfl | rfl | rfl | rfl | rfl
  · exact ct_34_1 hM
  · exact ct_38_2 hM
  · exact ct_38_3 hM
  · exact ct_35_4 hM
  · exact ct_36_6 hM
  · exact ct_35_7 hM
  · exact ct_37_8 hM
theorem ct_blA {M : am_Mem} {r c : Nat} {nu a : Int32} (hc : md_pc c) (hM : M[r]? = some (.inr (.inr (.inr (c, [.int nu, .int a]))))) : (List.lookup ((am_cls M r).getD 0) [(3, 45), (7, 42), (2, 40), (8, 44), (6, 43), (4, 41), (1, 39)]).isSome = true := by
  rcases hc with rfl | rfl | rfl | rfl | rfl | rfl | rfl <;> simp [am_cls, hM, List.lookup]
theorem ct_blB {X : List Int32} {M : am_Mem} {r c : Nat} {nu a g : Int32} (hc : md_pc c) (hM : M[r]? = some (.inr (.inr (.inr (c, [.int nu, .int a]))))) : am_mt X ((List.lookup ((am_cls M r).getD 0) [(3, 45), (7, 42), (2, 40), (8, 44), (6, 43), (4, 41), (1, 39)]).getD 0) [.ref r, .int g] M = some (some (.int (md_bl c a g)), M) := by
  have e : (am_cls M r).getD 0 = c := by simp [am_cls, hM]
  rw [e]
  rcases hc with rfl | rfl | rfl | rfl | rfl | rfl | rfl
  · exact ct_39_1 hM
  · exact ct_40_2 hM
  · exact ct_45_3 hM
  · exact ct_41_4 hM
  · exact ct_43_6 hM
  · exact ct_42_7 hM
  · exact ct_44_8 hM
theorem ct_knA {M : am_Mem} {r c : Nat} {nu a : Int32} (hc : md_pc c) (hM : M[r]? = some (.inr (.inr (.inr (c, [.int nu, .int a]))))) : (List.lookup ((am_cls M r).getD 0) [(3, 65), (7, 63), (2, 60), (8, 64), (6, 62), (4, 61), (1, 59)]).isSome = true := by
  rcases hc with rfl | rfl | rfl | rfl | rfl | rfl | rfl <;> simp [am_cls, hM, List.lookup]
theorem ct_knB {X : List Int32} {M : am_Mem} {r c : Nat} {nu a : Int32} (hc : md_pc c) (hM : M[r]? = some (.inr (.inr (.inr (c, [.int nu, .int a]))))) : am_mt X ((List.lookup ((am_cls M r).getD 0) [(3, 65), (7, 63), (2, 60), (8, 64), (6, 62), (4, 61), (1, 59)]).getD 0) [.ref r] M = some (some (.int (md_kn c)), M) := by
  have e : (am_cls M r).getD 0 = c := by simp [am_cls, hM]
  rw [e]
  rcases hc with rfl | rfl | rfl | rfl | rfl | rfl | rfl
  · exact ct_59_1 hM
  · exact ct_60_2 hM
  · exact ct_65_3 hM
  · exact ct_61_4 hM
  · exact ct_62_6 hM
  · exact ct_63_7 hM
  · exact ct_64_8 hM
/-- the players of a team: places of their objects, and (class, a) of each -/
def md_ps (M : am_Mem) (pl : List Nat) (pd : List (Nat × Int32)) : Prop := pl.length = pd.length ∧ ∀ k r c a, pl[k]? = some r → pd[k]? = some (c, a) → md_pc c ∧ M[r]? = (some (.inr (.inr (.inr (c, [.int (Int32.ofNat k), .int a])))) : Option am_Ob)
def md_q (pd : List (Nat × Int32)) (x : Int32) : Option (Nat × Int32) := if x < 0 then none else pd[x.toNatClampNeg]?
theorem md_at_q {M : am_Mem} {pl : List Nat} {pd : List (Nat × Int32)} (h : md_ps M pl pd) (x : Int32) : (md_at pl x = .null ∧ md_q pd x = none) ∨ (∃ r c a, md_at pl x = .ref r ∧ md_q pd x = some (c, a) ∧ md_pc c ∧ M[r]? = some (.inr (.inr (.inr (c, [.int x, .int a]))))) := by
  by_cases h0 : x < 0
  · exact .inl ⟨md_at_neg h0, by unfold md_q; rw [if_pos h0]⟩
  · obtain ⟨k, hk, rfl⟩ := as_ofN h0
    unfold md_at md_q
    rw [if_neg h0, if_neg h0, as_nat hk]
    by_cases h1 : k < pl.length
    · refine .inr ⟨pl[k], (pd[k]'(by rw [← h.1]; exact h1)).1, (pd[k]'(by rw [← h.1]; exact h1)).2, by rw [List.getElem?_eq_getElem h1], by rw [List.getElem?_eq_getElem (by rw [← h.1]; exact h1)], ?_⟩
      exact h.2 k _ _ _ (List.getElem?_eq_getElem h1) (List.getElem?_eq_getElem (by rw [← h.1]; exact h1))
    · refine .inl ⟨by rw [List.getElem?_eq_none (Nat.le_of_not_lt h1)], by rw [List.getElem?_eq_none (by rw [← h.1]; exact Nat.le_of_not_lt h1)]⟩
def md_good (pd : List (Nat × Int32)) (x f : Int32) : Int32 := match md_q pd x with
  | none => 0
  | some (c, a) => if 0 < md_sk c a - 5 * f then md_sk c a - 5 * f else 0
def md_ten (pd : List (Nat × Int32)) (x g : Int32) : Int32 := match md_q pd x with
  | none => 0
  | some (c, a) => 10 * md_bl c a g
set_option maxRecDepth 100000 in
theorem ct_99 {X : List Int32} {M : am_Mem} {t pa fa : Nat} {c b sp sf bp gl us th sv su st ra sd : Int32} {fl : List Int32} {pl : List Nat} {pd : List (Nat × Int32)} {p u : Nat} {f : Int32} (hT : M[t]? = some (.inr (.inr (.inr (9, [.ref pa, .ref fa, .int c, .int b, .int sp, .int sf, .int bp, .int gl, .int us, .int th, .int sv, .int su, .int st, .int ra, .int sd]))))) (hF : M[fa]? = some (.inl fl)) (hfl : fl.length = 6) (hP : M[pa]? = some (.inr (.inr (.inl (3, md_pl pl))))) (hl : pl.length ≤ 12) (hc : c = Int32.ofNat pl.length) (hQ : md_ps M pl pd) (hp : p < 6) (hu : u < 6) :
    am_mt X 99 [.ref t, .int (Int32.ofNat p), .int f, .int (Int32.ofNat u)] M = some (some (.int (md_good pd (fl.getD ((p + 6 - u) % 6) (-1)) f)), M) := by
  rw [as_mt (n := 5) (by decide +kernel), show am_ent 5 [.ref t, .int (Int32.ofNat p), .int f, .int (Int32.ofNat u)] = [some (.ref t), some (.int (Int32.ofNat p)), some (.int f), some (.int (Int32.ofNat u)), none] from rfl]
  rcases md_at_q hQ (fl.getD ((p + 6 - u) % 6) (-1)) with ⟨e1, e2⟩ | ⟨r, c1, a1, e1, e2, hc1, hM⟩
  · simp only [q99_0, q99_1, q99_2, q99_3, q99_6, q99_6n, q99_8, q99_8n, q99_10n, q99_10, q99_13, q99_14, q99_17, q99_18, q99_18n, q99_20, q99_23, q99_24, q99_25, q99_26, q99_27, q99_30, hT, hF, hfl, hP, hl, hc,  hp, hu, as_10, as_01, Nat.reduceBEq, Nat.reduceEqDiff, ↓reduceIte, Option.bind_some, Option.getD_some, Option.isSome_some, Option.isSome_none, Bool.false_eq_true, Option.toList, List.nil_append, List.cons_append, List.lookup, Option.isSome, List.getElem?_cons_zero, List.getElem?_cons_succ, beq_self_eq_true, if_true, true_or, or_true, am_kl, am_gf, am_ia, am_la, am_aa, am_len, am_cls, true_and, and_true, List.length_cons, List.length_nil, Nat.reduceAdd, Int32.reduceLT, Int32.reduceLE, Int32.reduceAdd, Int32.reduceSub, Int32.reduceToNatClampNeg, if_false, false_or, or_false, Nat.reduceLeDiff, Nat.reduceLT, List.set_cons_zero, List.set_cons_succ, ct_100 hT hF hfl hP hl hc hp hu, e1, e2, md_good]
  · simp only [q99_0, q99_1, q99_2, q99_3, q99_6, q99_6n, q99_8, q99_8n, q99_10n, q99_10, q99_13, q99_14, q99_17, q99_18, q99_18n, q99_20, q99_23, q99_24, q99_25, q99_26, q99_27, q99_30, hT, hF, hfl, hP, hl, hc,  hp, hu, as_10, as_01, Nat.reduceBEq, Nat.reduceEqDiff, ↓reduceIte, Option.bind_some, Option.getD_some, Option.isSome_some, Option.isSome_none, Bool.false_eq_true, Option.toList, List.nil_append, List.cons_append, List.lookup, Option.isSome, List.getElem?_cons_zero, List.getElem?_cons_succ, beq_self_eq_true, if_true, true_or, or_true, am_kl, am_gf, am_ia, am_la, am_aa, am_len, am_cls, true_and, and_true, List.length_cons, List.length_nil, Nat.reduceAdd, Int32.reduceLT, Int32.reduceLE, Int32.reduceAdd, Int32.reduceSub, Int32.reduceToNatClampNeg, if_false, false_or, or_false, Nat.reduceLeDiff, Nat.reduceLT, List.set_cons_zero, List.set_cons_succ, ct_100 hT hF hfl hP hl hc hp hu, e1, e2, md_good, ↓ct_skA hc1 hM, ↓ct_skB hc1 hM, hM]

set_option maxRecDepth 100000 in
theorem ct_106 {X : List Int32} {M : am_Mem} {t pa fa : Nat} {c b sp sf bp gl us th sv su st ra sd : Int32} {fl : List Int32} {pl : List Nat} {pd : List (Nat × Int32)} {p u : Nat} {g : Int32} (hT : M[t]? = some (.inr (.inr (.inr (9, [.ref pa, .ref fa, .int c, .int b, .int sp, .int sf, .int bp, .int gl, .int us, .int th, .int sv, .int su, .int st, .int ra, .int sd]))))) (hF : M[fa]? = some (.inl fl)) (hfl : fl.length = 6) (hP : M[pa]? = some (.inr (.inr (.inl (3, md_pl pl))))) (hl : pl.length ≤ 12) (hc : c = Int32.ofNat pl.length) (hQ : md_ps M pl pd) (hp : p < 6) (hu : u < 6) :
    am_mt X 106 [.ref t, .int (Int32.ofNat p), .int g, .int (Int32.ofNat u)] M = some (some (.int (if (Int32.ofNat p = 0 ∨ g = 1 ∧ 0 < Int32.ofNat p ∧ Int32.ofNat p < 3) then md_ten pd (fl.getD ((p + 6 - u) % 6) (-1)) g else 0)), M) := by
  rw [as_mt (n := 5) (by decide +kernel), show am_ent 5 [.ref t, .int (Int32.ofNat p), .int g, .int (Int32.ofNat u)] = [some (.ref t), some (.int (Int32.ofNat p)), some (.int g), some (.int (Int32.ofNat u)), none] from rfl]
  by_cases ho : (Int32.ofNat p = 0 ∨ g = 1 ∧ 0 < Int32.ofNat p ∧ Int32.ofNat p < 3)
  · rcases md_at_q hQ (fl.getD ((p + 6 - u) % 6) (-1)) with ⟨e1, e2⟩ | ⟨r, c1, a1, e1, e2, hc1, hM⟩
    · simp only [q106_0, q106_1, q106_2, q106_5, q106_8, q106_9, q106_10, q106_11, q106_14, q106_17, q106_18, q106_18n, q106_20, q106_20n, q106_22n, q106_22, q106_25, q106_26, q106_29, q106_31, q106_31n, q106_33, q106_34, q106_37, q106_38, hT, hF, hfl, hP, hl, hc,  hp, hu, as_10, as_01, Nat.reduceBEq, Nat.reduceEqDiff, ↓reduceIte, Option.bind_some, Option.getD_some, Option.isSome_some, Option.isSome_none, Bool.false_eq_true, Option.toList, List.nil_append, List.cons_append, List.lookup, Option.isSome, List.getElem?_cons_zero, List.getElem?_cons_succ, beq_self_eq_true, if_true, true_or, or_true, am_kl, am_gf, am_ia, am_la, am_aa, am_len, am_cls, true_and, and_true, List.length_cons, List.length_nil, Nat.reduceAdd, Int32.reduceLT, Int32.reduceLE, Int32.reduceAdd, Int32.reduceSub, Int32.reduceToNatClampNeg, if_false, false_or, or_false, Nat.reduceLeDiff, Nat.reduceLT, List.set_cons_zero, List.set_cons_succ, ct_103, as_b0, as_b1, not_true_eq_false, not_false_eq_true, ct_100 hT hF hfl hP hl hc hp hu, ho, e1, e2, md_ten]
    · simp only [q106_0, q106_1, q106_2, q106_5, q106_8, q106_9, q106_10, q106_11, q106_14, q106_17, q106_18, q106_18n, q106_20, q106_20n, q106_22n, q106_22, q106_25, q106_26, q106_29, q106_31, q106_31n, q106_33, q106_34, q106_37, q106_38, hT, hF, hfl, hP, hl, hc,  hp, hu, as_10, as_01, Nat.reduceBEq, Nat.reduceEqDiff, ↓reduceIte, Option.bind_some, Option.getD_some, Option.isSome_some, Option.isSome_none, Bool.false_eq_true, Option.toList, List.nil_append, List.cons_append, List.lookup, Option.isSome, List.getElem?_cons_zero, List.getElem?_cons_succ, beq_self_eq_true, if_true, true_or, or_true, am_kl, am_gf, am_ia, am_la, am_aa, am_len, am_cls, true_and, and_true, List.length_cons, List.length_nil, Nat.reduceAdd, Int32.reduceLT, Int32.reduceLE, Int32.reduceAdd, Int32.reduceSub, Int32.reduceToNatClampNeg, if_false, false_or, or_false, Nat.reduceLeDiff, Nat.reduceLT, List.set_cons_zero, List.set_cons_succ, ct_103, as_b0, as_b1, not_true_eq_false, not_false_eq_true, ct_100 hT hF hfl hP hl hc hp hu, ho, e1, e2, md_ten, ↓ct_blA hc1 hM, ↓ct_blB hc1 hM, hM]
  · simp only [q106_0, q106_1, q106_2, q106_5, q106_8, q106_9, q106_10, q106_11, q106_14, q106_17, q106_18, q106_18n, q106_20, q106_20n, q106_22n, q106_22, q106_25, q106_26, q106_29, q106_31, q106_31n, q106_33, q106_34, q106_37, q106_38, hT, hF, hfl, hP, hl, hc,  hp, hu, as_10, as_01, Nat.reduceBEq, Nat.reduceEqDiff, ↓reduceIte, Option.bind_some, Option.getD_some, Option.isSome_some, Option.isSome_none, Bool.false_eq_true, Option.toList, List.nil_append, List.cons_append, List.lookup, Option.isSome, List.getElem?_cons_zero, List.getElem?_cons_succ, beq_self_eq_true, if_true, true_or, or_true, am_kl, am_gf, am_ia, am_la, am_aa, am_len, am_cls, true_and, and_true, List.length_cons, List.length_nil, Nat.reduceAdd, Int32.reduceLT, Int32.reduceLE, Int32.reduceAdd, Int32.reduceSub, Int32.reduceToNatClampNeg, if_false, false_or, or_false, Nat.reduceLeDiff, Nat.reduceLT, List.set_cons_zero, List.set_cons_succ, ct_103, as_b0, as_b1, not_true_eq_false, not_false_eq_true, ct_100 hT hF hfl hP hl hc hp hu, ho]

/-- the search for the value: n halvings to go -/
def md_bs (x y z B : Int32) : Nat → Int32 → Int32
  | 0, L => L
  | n + 1, L => if 10 * B < (if 0 < x - (L + Int32.ofNat (2 ^ n) - 1) then x - (L + Int32.ofNat (2 ^ n) - 1) else 0) + (if 0 < y - (L + Int32.ofNat (2 ^ n) - 1) then y - (L + Int32.ofNat (2 ^ n) - 1) else 0) + (if 0 < z - (L + Int32.ofNat (2 ^ n) - 1) then z - (L + Int32.ofNat (2 ^ n) - 1) else 0) then md_bs x y z B n (L + Int32.ofNat (2 ^ n)) else md_bs x y z B n L
def md_stp : Nat → Int32
  | 0 => 0
  | n + 1 => Int32.ofNat (2 ^ n)
theorem md_stp_half : ∀ n, n < 10 → md_stp (n + 1) / 2 = md_stp n := by decide +kernel
theorem md_stp_pos : ∀ n, n < 10 → 0 < md_stp (n + 1) := by decide +kernel
set_option maxRecDepth 100000 in
theorem ct_105_l {X : List Int32} {M : am_Mem} {t pa fa : Nat} {c b sp sf bp gl us th sv su st ra sd : Int32} {g u x y z : Int32} (hT : M[t]? = some (.inr (.inr (.inr (9, [.ref pa, .ref fa, .int c, .int b, .int sp, .int sf, .int bp, .int gl, .int us, .int th, .int sv, .int su, .int st, .int ra, .int sd]))))) : ∀ (n : Nat) (L : Int32) (o8 o9 : Option Value), n ≤ 10 →
    am_go X 105 34 [some (.ref t), some (.int g), some (.int u), some (.int x), some (.int y), some (.int z), some (.int L), some (.int (md_stp n)), o8, o9] [] M = some (some (.int (md_bs x y z b n L)), M)
  | 0, L, o8, o9, h => by
    simp only [q105_34, q105_36, q105_39, q105_41, q105_43, q105_44, q105_45, q105_46, q105_48, q105_49, q105_51, q105_54, q105_56, q105_58, q105_61, q105_62, q105_64, q105_66, q105_69, q105_70, q105_72, q105_74, q105_76, q105_77, q105_80, q105_81, q105_84, q105_86, q105_88, q105_89, q105_91, q105_93, q105_94, q105_95, q105_97, q105_100, q105_102, md_stp, md_bs, as_10, as_01, Nat.reduceBEq, Nat.reduceEqDiff, ↓reduceIte, Option.bind_some, Option.getD_some, Option.isSome_some, Option.isSome_none, Bool.false_eq_true, Option.toList, List.nil_append, List.cons_append, List.lookup, Option.isSome, List.getElem?_cons_zero, List.getElem?_cons_succ, beq_self_eq_true, if_true, true_or, or_true, am_kl, am_gf, am_ia, am_la, am_aa, am_len, am_cls, true_and, and_true, List.length_cons, List.length_nil, Nat.reduceAdd, Int32.reduceLT, Int32.reduceLE, Int32.reduceAdd, Int32.reduceSub, Int32.reduceToNatClampNeg, if_false, false_or, or_false, Nat.reduceLeDiff, Nat.reduceLT, List.set_cons_zero, List.set_cons_succ]
  | n + 1, L, o8, o9, h => by
    have hp := md_stp_pos n (by omega)
    have hh := md_stp_half n (by omega)
    have he : md_stp (n + 1) = Int32.ofNat (2 ^ n) := rfl
    rw [md_bs]
    rw [← he]
    generalize md_stp (n + 1) = S at hp hh
    have ih := fun L' p q => ct_105_l (X := X) (g := g) (u := u) (x := x) (y := y) (z := z) hT n L' p q (by omega)
    simp only [q105_34, q105_36, hp, ↓reduceIte]
    simp only [q105_39, q105_41, q105_43, q105_44, q105_45, q105_46, q105_48, q105_49, q105_51, q105_54, q105_56, q105_58, q105_61, q105_62, q105_64, q105_66, q105_69, q105_70, q105_72, q105_74, q105_76, q105_77, q105_80, q105_81, q105_84, q105_86, q105_88, q105_89, q105_91, q105_93, q105_94, q105_95, q105_97, q105_100, q105_102, ct_107, hT, hh, as_z2, as_10, as_01, Nat.reduceBEq, Nat.reduceEqDiff, ↓reduceIte, Option.bind_some, Option.getD_some, Option.isSome_some, Option.isSome_none, Bool.false_eq_true, Option.toList, List.nil_append, List.cons_append, List.lookup, Option.isSome, List.getElem?_cons_zero, List.getElem?_cons_succ, beq_self_eq_true, if_true, true_or, or_true, am_kl, am_gf, am_ia, am_la, am_aa, am_len, am_cls, true_and, and_true, List.length_cons, List.length_nil, Nat.reduceAdd, Int32.reduceLT, Int32.reduceLE, Int32.reduceAdd, Int32.reduceSub, Int32.reduceToNatClampNeg, if_false, false_or, or_false, Nat.reduceLeDiff, Nat.reduceLT, List.set_cons_zero, List.set_cons_succ, ih]
    exact as_rif

