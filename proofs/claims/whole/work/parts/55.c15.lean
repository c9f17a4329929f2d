/-! ===== contracts: the floor counted, the sides learned ===== -/
def md_onl : List Int32 → Int32 → Int32
  | [], a => a
  | f :: r, a => md_onl r (a + if f = -1 then 0 else 1)
set_option maxRecDepth 100000 in
theorem ct_163_l {X : List Int32} {M : am_Mem} {t pa fa : Nat} {c b sp sf bp gl us th sv su st ra sd : Int32} {fl : List Int32} (hT : M[t]? = some (.inr (.inr (.inr (9, [.ref pa, .ref fa, .int c, .int b, .int sp, .int sf, .int bp, .int gl, .int us, .int th, .int sv, .int su, .int st, .int ra, .int sd]))))) (hF : M[fa]? = some (.inl fl)) (hfl : fl.length = 6) : ∀ (j k : Nat) (a : Int32), k + j = 6 →
    am_go X 163 4 [some (.ref t), some (.int a), some (.int (Int32.ofNat k))] [] M = some (some (.int (md_onl (fl.drop k) a)), M)
  | 0, k, a, h => by
    obtain rfl : k = 6 := by omega
    rw [List.drop_eq_nil_of_le (by omega), md_onl]
    simp only [q163_4, q163_5, q163_6, q163_9, q163_10, q163_13, q163_14, q163_15, q163_18, q163_19, q163_20, q163_21, q163_24, q163_25, q163_28, q163_29, q163_30, q163_31, q163_34, q163_37, q163_38, hT, hF, hfl, Int32.reduceOfNat, Int32.reduceLT, as_10, as_01, Nat.reduceBEq, Nat.reduceEqDiff, ↓reduceIte, Option.bind_some, Option.getD_some, Option.isSome_some, Option.isSome_none, Bool.false_eq_true, Option.toList, List.nil_append, List.cons_append, List.lookup, Option.isSome, List.getElem?_cons_zero, List.getElem?_cons_succ, beq_self_eq_true, if_true, true_or, or_true, am_kl, am_gf, am_ia, am_la, am_aa, am_len, am_cls, true_and, and_true, List.length_cons, List.length_nil, Nat.reduceAdd, Int32.reduceLT, Int32.reduceLE, Int32.reduceAdd, Int32.reduceSub, Int32.reduceToNatClampNeg, if_false, false_or, or_false, Nat.reduceLeDiff, Nat.reduceLT, List.set_cons_zero, List.set_cons_succ]
  | j + 1, k, a, h => by
    have hk : k < fl.length := by omega
    have ih := fun a' => ct_163_l (X := X) hT hF hfl j (k + 1) a' (by omega)
    have e1 := as_lt (show k < 2147483648 by omega) (show 6 < 2147483648 by decide)
    have h2 : k < 6 := by omega
    have e5 : Int32.ofNat k + 1 = Int32.ofNat (k + 1) := as_add (b := 1)
    rw [List.drop_eq_getElem_cons hk, md_onl]
    by_cases hn : fl[k] = -1 <;>
      simp only [q163_4, q163_5, q163_6, q163_9, q163_10, q163_13, q163_14, q163_15, q163_18, q163_19, q163_20, q163_21, q163_24, q163_25, q163_28, q163_29, q163_30, q163_31, q163_34, hT, hF, hfl, e1, h2, as_pos (show k < 2147483648 by omega), as_nat (show k < 2147483648 by omega), List.getElem?_eq_getElem hk, hn, e5, ih, as_10, as_01, Nat.reduceBEq, Nat.reduceEqDiff, ↓reduceIte, Option.bind_some, Option.getD_some, Option.isSome_some, Option.isSome_none, Bool.false_eq_true, Option.toList, List.nil_append, List.cons_append, List.lookup, Option.isSome, List.getElem?_cons_zero, List.getElem?_cons_succ, beq_self_eq_true, if_true, true_or, or_true, am_kl, am_gf, am_ia, am_la, am_aa, am_len, am_cls, true_and, and_true, List.length_cons, List.length_nil, Nat.reduceAdd, Int32.reduceLT, Int32.reduceLE, Int32.reduceAdd, Int32.reduceSub, Int32.reduceToNatClampNeg, if_false, false_or, or_false, Nat.reduceLeDiff, Nat.reduceLT, List.set_cons_zero, List.set_cons_succ]
set_option maxRecDepth 100000 in
theorem ct_163 {X : List Int32} {M : am_Mem} {t pa fa : Nat} {c b sp sf bp gl us th sv su st ra sd : Int32} {fl : List Int32} (hT : M[t]? = some (.inr (.inr (.inr (9, [.ref pa, .ref fa, .int c, .int b, .int sp, .int sf, .int bp, .int gl, .int us, .int th, .int sv, .int su, .int st, .int ra, .int sd]))))) (hF : M[fa]? = some (.inl fl)) (hfl : fl.length = 6) :
    am_mt X 163 [.ref t] M = some (some (.int (md_onl fl 0)), M) := by
  rw [as_mt (n := 3) (by decide +kernel), show am_ent 3 [.ref t] = [some (.ref t), none, none] from rfl]
  simp only [q163_0, q163_1, q163_2, q163_3, am_kl]
  exact ct_163_l hT hF hfl 6 0 0 (by omega)

set_option maxRecDepth 100000 in
theorem ct_119_l {X : List Int32} {t pa fa : Nat} {c b sf bp gl us th sv su st ra sd : Int32} {fl : List Int32} {pl : List Nat} {pd : List (Nat × Int32)} {wp h sa wa ta : Nat} (hw : wp < 6) (hfl : fl.length = 6) (hl : pl.length ≤ 12) (hc : c = Int32.ofNat pl.length) (hsf : ¬ sa = fa) : ∀ (j k : Nat) (ys : List Int32) (M : am_Mem), M[t]? = some (.inr (.inr (.inr (9, [.ref pa, .ref fa, .int c, .int b, .int (Int32.ofNat wp), .int sf, .int bp, .int gl, .int us, .int th, .int sv, .int su, .int st, .int ra, .int sd])))) → M[fa]? = some (.inl fl) → M[pa]? = some (.inr (.inr (.inl (3, md_pl pl)))) → md_ps M pl pd → M[h]? = some (.inr (.inr (.inr (0, [.ref sa, .ref wa, .ref ta])))) → M[sa]? = some (.inl ys) → ys.length = 6 → k + j = 6 → (∀ q, q < k → ys[q]? = some (md_side pd fl b wp sf q)) →
    am_go X 119 2 [some (.ref h), some (.ref t), some (.int (Int32.ofNat k))] [] M = some (none, M.set sa (.inl ((List.range 6).map (md_side pd fl b wp sf))))
  | 0, k, ys, M, hT, hF, hP, hQ, hH, hS, hy, hk, hz => by
    obtain rfl : k = 6 := by omega
    have e3 : ys = (List.range 6).map (md_side pd fl b wp sf) := by
      apply List.ext_getElem?
      intro q
      by_cases hq : q < 6
      · rw [hz q hq, List.getElem?_map, List.getElem?_range hq]; rfl
      · rw [List.getElem?_eq_none (by omega), List.getElem?_eq_none (by simp; omega)]
    rw [← e3, as_same hS]
    simp only [q119_2, q119_3, q119_4, q119_7, q119_8, q119_11, q119_12, q119_15, q119_16, q119_16n, q119_17, q119_17n, q119_18, q119_21, q119_21n, q119_22, q119_25, q119_26, q119_29, q119_30, q119_33, q119_36, hH, hS, hy, Int32.reduceOfNat, Int32.reduceLT, as_10, as_01, Nat.reduceBEq, Nat.reduceEqDiff, ↓reduceIte, Option.bind_some, Option.getD_some, Option.isSome_some, Option.isSome_none, Bool.false_eq_true, Option.toList, List.nil_append, List.cons_append, List.lookup, Option.isSome, List.getElem?_cons_zero, List.getElem?_cons_succ, beq_self_eq_true, if_true, true_or, or_true, am_kl, am_gf, am_ia, am_la, am_aa, am_len, am_cls, true_and, and_true, List.length_cons, List.length_nil, Nat.reduceAdd, Int32.reduceLT, Int32.reduceLE, Int32.reduceAdd, Int32.reduceSub, Int32.reduceToNatClampNeg, if_false, false_or, or_false, Nat.reduceLeDiff, Nat.reduceLT, List.set_cons_zero, List.set_cons_succ]
  | j + 1, k, ys, M, hT, hF, hP, hQ, hH, hS, hy, hk, hz => by
    have e1 := as_lt (show k < 2147483648 by omega) (show 6 < 2147483648 by decide)
    have h2 : k < 6 := by omega
    have h3 : ¬ 6 ≤ k := by omega
    have e5 : Int32.ofNat k + 1 = Int32.ofNat (k + 1) := as_add (b := 1)
    have a0 := ct_113 (X := X) hT hF hfl hP hl hc hQ (u := k) (f := sf) h2 hw
    have ih := ct_119_l (X := X) hw hfl hl hc hsf j (k + 1) (ys.set k (md_side pd fl b wp sf k)) (M.set sa (.inl (ys.set k (md_side pd fl b wp sf k)))) (by rw [as_sne (as_neq hS hT (by simp))]; exact hT) (by rw [as_sne hsf]; exact hF) (by rw [as_sne (as_neq hS hP (by simp))]; exact hP) (md_ps_set hQ hS (by simp)) (by rw [as_sne (as_neq hS hH (by simp))]; exact hH) (as_set hS) (by rw [List.length_set]; exact hy) (by omega) (fun q hq => by
      by_cases h : k = q
      · subst h; exact List.getElem?_set_self (by omega)
      · rw [List.getElem?_set_ne h]; exact hz q (by omega))
    rw [List.set_set] at ih
    simp only [q119_2, q119_3, q119_4, q119_7, q119_8, q119_11, q119_12, q119_15, q119_16, q119_16n, q119_17, q119_17n, q119_18, q119_21, q119_21n, q119_22, q119_25, q119_26, q119_29, q119_30, q119_33, hT, hH, hS, hy, e1, h2, h3, a0, am_iset, as_pos (show k < 2147483648 by omega), as_nat (show k < 2147483648 by omega), or_false, false_or, e5, ih, as_10, as_01, Nat.reduceBEq, Nat.reduceEqDiff, ↓reduceIte, Option.bind_some, Option.getD_some, Option.isSome_some, Option.isSome_none, Bool.false_eq_true, Option.toList, List.nil_append, List.cons_append, List.lookup, Option.isSome, List.getElem?_cons_zero, List.getElem?_cons_succ, beq_self_eq_true, if_true, true_or, or_true, am_kl, am_gf, am_ia, am_la, am_aa, am_len, am_cls, true_and, and_true, List.length_cons, List.length_nil, Nat.reduceAdd, Int32.reduceLT, Int32.reduceLE, Int32.reduceAdd, Int32.reduceSub, Int32.reduceToNatClampNeg, if_false, false_or, or_false, Nat.reduceLeDiff, Nat.reduceLT, List.set_cons_zero, List.set_cons_succ]
