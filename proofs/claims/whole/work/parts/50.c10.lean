/-! ===== contracts: one team taken over from another ===== -/
def md_pobj (M : am_Mem) (v : Value) : Prop := v = .null ∨ ∃ r c nu a, v = .ref r ∧ md_pc c ∧ M[r]? = (some (.inr (.inr (.inr (c, [.int nu, .int a])))) : Option am_Ob)
theorem md_pobj_set {M : am_Mem} {v : Value} {t : Nat} {q x : am_Ob} (h : md_pobj M v) (ht : M[t]? = some q) (hq : ∀ (c : Nat) (a b : Int32), md_pc c → q ≠ .inr (.inr (.inr (c, [.int a, .int b])))) : md_pobj (M.set t x) v := by
  rcases h with h | ⟨r, c, nu, a, h1, h2, h3⟩
  · exact .inl h
  · refine .inr ⟨r, c, nu, a, h1, h2, ?_⟩
    rw [as_sne (as_neq ht h3 (hq _ _ _ h2))]
    exact h3
theorem md_pl_obj {M : am_Mem} {pl : List Nat} {pd : List (Nat × Int32)} (h : md_ps M pl pd) (v : Value) (hv : v ∈ md_pl pl) : md_pobj M v := by
  unfold md_pl at hv
  rcases List.mem_append.mp hv with h1 | h1
  · obtain ⟨r, hr, rfl⟩ := List.mem_map.mp h1
    obtain ⟨k, hk⟩ := List.getElem?_of_mem hr
    have hk2 : k < pd.length := by rw [← h.1]; exact (List.getElem?_eq_some_iff.mp hk).1
    obtain ⟨h3, h4⟩ := h.2 k r _ _ hk (List.getElem?_eq_getElem hk2)
    exact .inr ⟨r, _, _, _, rfl, h3, h4⟩
  · exact .inl (List.eq_of_mem_replicate h1)
set_option maxRecDepth 100000 in
theorem ct_80_l {X : List Int32} {t pa fa : Nat} {c b sp sf bp gl us th sv su st ra sd : Int32} {o pa2 fa2 : Nat} {c2 b2 sp2 sf2 bp2 gl2 us2 th2 sv2 su2 st2 ra2 sd2 : Int32} {vs : List Value} (hpp : ¬ pa = pa2) : ∀ (j k : Nat) (ws : List Value) (M : am_Mem), M[t]? = some (.inr (.inr (.inr (9, [.ref pa, .ref fa, .int c, .int b, .int sp, .int sf, .int bp, .int gl, .int us, .int th, .int sv, .int su, .int st, .int ra, .int sd])))) → M[o]? = some (.inr (.inr (.inr (9, [.ref pa2, .ref fa2, .int c2, .int b2, .int sp2, .int sf2, .int bp2, .int gl2, .int us2, .int th2, .int sv2, .int su2, .int st2, .int ra2, .int sd2])))) → M[pa]? = some (.inr (.inr (.inl (3, ws)))) → M[pa2]? = some (.inr (.inr (.inl (3, vs)))) → ws.length = 12 → vs.length = 12 → (∀ v ∈ vs, md_pobj M v) → k + j = 12 → (∀ q, q < k → ws[q]? = vs[q]?) →
    am_go X 80 2 [some (.ref t), some (.ref o), some (.int (Int32.ofNat k))] [] M = am_go X 80 38 [some (.ref t), some (.ref o), some (.int (Int32.ofNat 12))] [] (M.set pa (.inr (.inr (.inl (3, vs)))))
  | 0, k, ws, M, hT, hO, hP, hP2, hw, hv, hg, hk, hz => by
    obtain rfl : k = 12 := by omega
    have e3 : ws = vs := by
      apply List.ext_getElem?
      intro q
      by_cases hq : q < 12
      · exact hz q hq
      · rw [List.getElem?_eq_none (by omega), List.getElem?_eq_none (by omega)]
    subst e3
    rw [as_same hP]
    have e2 := as_lt (show 12 < 2147483648 by decide) (show 12 < 2147483648 by decide)
    simp only [q80_2, q80_3, q80_4, q80_7, q80_8, q80_11, q80_12, q80_12n, q80_13, q80_16, q80_17, q80_20, q80_21, q80_24, q80_25, q80_25n, q80_26, q80_29, q80_30, q80_31, q80_32, q80_35, hT, hO, hP, hP2, hw, e2, Nat.lt_irrefl, as_10, as_01, Nat.reduceBEq, Nat.reduceEqDiff, ↓reduceIte, Option.bind_some, Option.getD_some, Option.isSome_some, Option.isSome_none, Bool.false_eq_true, Option.toList, List.nil_append, List.cons_append, List.lookup, Option.isSome, List.getElem?_cons_zero, List.getElem?_cons_succ, beq_self_eq_true, if_true, true_or, or_true, am_kl, am_gf, am_ia, am_la, am_aa, am_len, am_cls, true_and, and_true, List.length_cons, List.length_nil, Nat.reduceAdd, Int32.reduceLT, Int32.reduceLE, Int32.reduceAdd, Int32.reduceSub, Int32.reduceToNatClampNeg, if_false, false_or, or_false, Nat.reduceLeDiff, Nat.reduceLT, List.set_cons_zero, List.set_cons_succ]
  | j + 1, k, ws, M, hT, hO, hP, hP2, hw, hv, hg, hk, hz => by
    have e2 := as_lt (show k < 2147483648 by omega) (show 12 < 2147483648 by decide)
    have h2 : k < 12 := by omega
    have h3 : ¬ 12 ≤ k := by omega
    have hkv : k < vs.length := by omega
    have e5 : Int32.ofNat k + 1 = Int32.ofNat (k + 1) := as_add (b := 1)
    have ih := ct_80_l (X := X) hpp j (k + 1) (ws.set k vs[k]) (M.set pa (.inr (.inr (.inl (3, ws.set k vs[k]))))) (by rw [as_sne (as_neq hP hT (by simp))]; exact hT) (by rw [as_sne (as_neq hP hO (by simp))]; exact hO) (as_set hP) (by rw [as_sne hpp]; exact hP2) (by rw [List.length_set]; exact hw) hv (fun v h => md_pobj_set (hg v h) hP (by simp)) (by omega) (fun q hq => by
      by_cases h : k = q
      · subst h; rw [List.getElem?_set_self (by omega), List.getElem?_eq_getElem hkv]
      · rw [List.getElem?_set_ne h]; exact hz q (by omega))
    rw [List.set_set] at ih
    rcases hg vs[k] (List.getElem_mem hkv) with h | ⟨r, c1, nu, a1, h, hc1, hM⟩
    · rw [h] at ih
      simp only [q80_2, q80_3, q80_4, q80_7, q80_8, q80_11, q80_12, q80_12n, q80_13, q80_16, q80_17, q80_20, q80_21, q80_24, q80_25, q80_25n, q80_26, q80_29, q80_30, q80_31, q80_32, q80_35, hT, hO, hP, hP2, hw, hv, e2, h2, h3, h, am_aset, am_isO, as_pos (show k < 2147483648 by omega), as_nat (show k < 2147483648 by omega), List.getElem?_eq_getElem hkv, or_false, false_or, e5, ih, as_10, as_01, Nat.reduceBEq, Nat.reduceEqDiff, ↓reduceIte, Option.bind_some, Option.getD_some, Option.isSome_some, Option.isSome_none, Bool.false_eq_true, Option.toList, List.nil_append, List.cons_append, List.lookup, Option.isSome, List.getElem?_cons_zero, List.getElem?_cons_succ, beq_self_eq_true, if_true, true_or, or_true, am_kl, am_gf, am_ia, am_la, am_aa, am_len, am_cls, true_and, and_true, List.length_cons, List.length_nil, Nat.reduceAdd, Int32.reduceLT, Int32.reduceLE, Int32.reduceAdd, Int32.reduceSub, Int32.reduceToNatClampNeg, if_false, false_or, or_false, Nat.reduceLeDiff, Nat.reduceLT, List.set_cons_zero, List.set_cons_succ]
    · rw [h] at ih
      have hk3 : am_takes 3 c1 = true := by rcases hc1 with rfl | rfl | rfl | rfl | rfl | rfl | rfl <;> rfl
      simp only [q80_2, q80_3, q80_4, q80_7, q80_8, q80_11, q80_12, q80_12n, q80_13, q80_16, q80_17, q80_20, q80_21, q80_24, q80_25, q80_25n, q80_26, q80_29, q80_30, q80_31, q80_32, q80_35, hT, hO, hP, hP2, hw, hv, e2, h2, h3, h, hM, hk3, Option.any_some, am_aset, am_isO, as_pos (show k < 2147483648 by omega), as_nat (show k < 2147483648 by omega), List.getElem?_eq_getElem hkv, or_false, false_or, e5, ih, as_10, as_01, Nat.reduceBEq, Nat.reduceEqDiff, ↓reduceIte, Option.bind_some, Option.getD_some, Option.isSome_some, Option.isSome_none, Bool.false_eq_true, Option.toList, List.nil_append, List.cons_append, List.lookup, Option.isSome, List.getElem?_cons_zero, List.getElem?_cons_succ, beq_self_eq_true, if_true, true_or, or_true, am_kl, am_gf, am_ia, am_la, am_aa, am_len, am_cls, true_and, and_true, List.length_cons, List.length_nil, Nat.reduceAdd, Int32.reduceLT, Int32.reduceLE, Int32.reduceAdd, Int32.reduceSub, Int32.reduceToNatClampNeg, if_false, false_or, or_false, Nat.reduceLeDiff, Nat.reduceLT, List.set_cons_zero, List.set_cons_succ]
