theorem en_uku {α : Type} {f : Nat → α} {k j : Nat} {a b c : α} : en_u (en_u (en_u f k a) j b) k c = en_u (en_u f j b) k c := by
  funext i; unfold en_u
  by_cases h1 : i = k <;> by_cases h2 : i = j <;> simp only [h1, h2, ↓reduceIte]
def md_mean (p w l : Int32) : Int32 := (p * w + (1000 - p) * l) / 1000
def md_r1 (S W : List Int32) (f : Nat) : Nat → Nat → List Int32 → List Int32
  | 0, _, T => T
  | j + 1, t, T => md_r1 S W f j (t + 1) (T.set (f + t) (md_mean (S.getD t 0) (W.getD (f + (if t = 5 then 0 else t + 1)) 0) (T.getD (f + 6 + t) 0)))
def md_r2 (br : Int32) (T : List Int32) (f : Nat) : Nat → Nat → List Int32 → List Int32
  | 0, _, W => W
  | j + 1, t, W => md_r2 br T f j (t + 1) (W.set (f + t) (md_mean br (W.getD (f + t) 0) (T.getD (f + 6 + t) 0)))
theorem md_r1_len {S W : List Int32} {f : Nat} : ∀ (j t : Nat) (T : List Int32), (md_r1 S W f j t T).length = T.length
  | 0, _, _ => rfl
  | j + 1, t, T => by rw [md_r1, md_r1_len j, List.length_set]
theorem md_r2_len {br : Int32} {T : List Int32} {f : Nat} : ∀ (j t : Nat) (W : List Int32), (md_r2 br T f j t W).length = W.length
  | 0, _, _ => rfl
  | j + 1, t, W => by rw [md_r2, md_r2_len j, List.length_set]
theorem md_r1_get {S W : List Int32} {f c : Nat} : ∀ (j t : Nat) (T : List Int32), t + j ≤ 6 → f + 6 ≤ T.length → (md_r1 S W f j t T).getD c 0 = if f + t ≤ c ∧ c < f + t + j then md_mean (S.getD (c - f) 0) (W.getD (f + (if c - f = 5 then 0 else c - f + 1)) 0) (T.getD (c + 6) 0) else T.getD c 0
  | 0, t, T, h, hl => by rw [md_r1, if_neg (by omega)]
  | j + 1, t, T, h, hl => by
    rw [md_r1, md_r1_get j (t + 1) _ (by omega) (by rw [List.length_set]; exact hl), as_getset, as_getset]
    have z0 : ¬ (f + t = c + 6 ∧ f + t < T.length) ∨ ¬ (f + (t + 1) ≤ c ∧ c < f + (t + 1) + j) := by omega
    by_cases h1 : f + t = c
    · subst h1
      have z1 : ¬ (f + (t + 1) ≤ f + t ∧ f + t < f + (t + 1) + j) := by omega
      have z2 : f + t = f + t ∧ f + t < T.length := ⟨rfl, by omega⟩
      have z3 : f + t ≤ f + t ∧ f + t < f + t + (j + 1) := by omega
      rw [if_neg z1, if_pos z2, if_pos z3, show f + t - f = t by omega, show f + 6 + t = f + t + 6 by omega]
    · have z4 : ¬ (f + t = c ∧ f + t < T.length) := fun h => h1 h.1
      by_cases h2 : f + (t + 1) ≤ c ∧ c < f + (t + 1) + j
      · have z5 : ¬ (f + t = c + 6 ∧ f + t < T.length) := by omega
        have z6 : f + t ≤ c ∧ c < f + t + (j + 1) := by omega
        rw [if_pos h2, if_neg z5, if_pos z6]
      · have z6 : ¬ (f + t ≤ c ∧ c < f + t + (j + 1)) := by omega
        rw [if_neg h2, if_neg z4, if_neg z6]
theorem md_r2_get {br : Int32} {T : List Int32} {f c : Nat} : ∀ (j t : Nat) (W : List Int32), t + j ≤ 6 → f + 6 ≤ W.length → (md_r2 br T f j t W).getD c 0 = if f + t ≤ c ∧ c < f + t + j then md_mean br (W.getD c 0) (T.getD (c + 6) 0) else W.getD c 0
  | 0, t, W, h, hl => by rw [md_r2, if_neg (by omega)]
  | j + 1, t, W, h, hl => by
    rw [md_r2, md_r2_get j (t + 1) _ (by omega) (by rw [List.length_set]; exact hl), as_getset]
    by_cases h1 : f + t = c
    · subst h1
      have z1 : ¬ (f + (t + 1) ≤ f + t ∧ f + t < f + (t + 1) + j) := by omega
      have z2 : f + t = f + t ∧ f + t < W.length := ⟨rfl, by omega⟩
      have z3 : f + t ≤ f + t ∧ f + t < f + t + (j + 1) := by omega
      rw [if_neg z1, if_pos z2, if_pos z3, show f + 6 + t = f + t + 6 by omega]
    · have z4 : ¬ (f + t = c ∧ f + t < W.length) := fun h => h1 h.1
      by_cases h2 : f + (t + 1) ≤ c ∧ c < f + (t + 1) + j
      · have z6 : f + t ≤ c ∧ c < f + t + (j + 1) := by omega
        rw [if_pos h2, if_neg z4, if_pos z6]
      · have z6 : ¬ (f + t ≤ c ∧ c < f + t + (j + 1)) := by omega
        rw [if_neg h2, if_neg z4, if_neg z6]
set_option maxRecDepth 100000 in
theorem ct_121_2 {X : List Int32} {I : Nat → Nat → Int32} {L : Nat → List Int64} {V : Nat → List Value} {W : Value} {Q : am_Mem} {f : Nat} {br : Int32} (hf : f ≤ 144) : ∀ (j t : Nat) (A : Nat → List Int32) (z : Option Value), t + j = 6 → (A 30).length = 6 → (A 31).length = 156 → (A 32).length = 156 → am_go X 121 116 [some (.ref 29), some (.int (Int32.ofNat f)), some (.int br), some (.int (Int32.ofNat (f + 6))), some (.int (Int32.ofNat t)), z] [] (en_E I A L V W Q) = some (none, en_E I (en_u A 31 (md_r2 br (A 32) f j t (A 31))) L V W Q)
  | 0, t, A, z, h, h30, h31, h32 => by
    have ht : t = 6 := by omega
    subst ht
    simp only [q121_116, q121_118, q121_120, q121_123, q121_124, q121_127, q121_128, q121_130, q121_131, q121_132, q121_133, q121_136, q121_137, q121_139, q121_140, q121_141, q121_142, q121_145, q121_146, q121_148, q121_149, q121_150, q121_153, q121_154, q121_157, q121_160, en_c29, en_f29_0, en_f29_1, en_f29_2, en_a30, en_l30, en_s30, en_a31, en_l31, en_s31, en_a32, en_l32, en_s32, as_10, as_01, Nat.reduceBEq, Nat.reduceEqDiff, ↓reduceIte, Option.bind_some, Option.getD_some, Option.isSome_some, Option.isSome_none, Bool.false_eq_true, Option.toList, List.nil_append, List.cons_append, List.lookup, Option.isSome, List.getElem?_cons_zero, List.getElem?_cons_succ, beq_self_eq_true, if_true, true_or, or_true, or_false, false_or, am_kl, true_and, and_true, and_false, false_and, if_false, not_true_eq_false, not_false_eq_true, as_b0, as_b1, as_em, as_ne, List.length_cons, List.length_nil, Nat.reduceAdd, Int32.reduceLT, Int32.reduceLE, Int32.reduceAdd, Int32.reduceSub, Int32.neg_neg, Int32.reduceMul, Int32.reduceToNatClampNeg, Nat.reduceLeDiff, Nat.reduceLT, List.set_cons_zero, List.set_cons_succ, List.length_set, en_at, en_uu, en_gd, Int32.reduceOfNat, md_r2, en_id]
  | j + 1, t, A, z, h, h30, h31, h32 => by
    have e1 : (Int32.ofNat t < 6) ↔ t < 6 := as_lt (show t < 2147483648 by omega) (show 6 < 2147483648 by decide)
    have h1 : t < 6 := by omega
    have e5 : Int32.ofNat t + 1 = Int32.ofNat (t + 1) := as_add (b := 1)
    have n0 := as_nat (show f + t < 2147483648 by omega)
    have p0 := as_pos (show f + t < 2147483648 by omega)
    have l0 : f + t < 156 := by omega
    have g0 : ¬ 156 ≤ f + t := by omega
    have n1 := as_nat (show f + 6 + t < 2147483648 by omega)
    have p1 := as_pos (show f + 6 + t < 2147483648 by omega)
    have l1 : f + 6 + t < 156 := by omega
    have g1 : ¬ 156 ≤ f + 6 + t := by omega
    have ih := ct_121_2 (X := X) (I := I) (L := L) (V := V) (W := W) (Q := Q) (br := br) hf j (t + 1) (en_u A 31 ((A 31).set (f + t) (md_mean br ((A 31).getD (f + t) 0) ((A 32).getD (f + 6 + t) 0)))) z (by omega) (by rw [en_at, if_neg (by decide)]; exact h30) (by rw [en_at, if_pos rfl, List.length_set]; exact h31) (by rw [en_at, if_neg (by decide)]; exact h32)
    rw [md_r2]
    rw [en_uu, en_at, en_at, if_pos rfl, if_neg (by decide)] at ih
    unfold md_mean at ih ⊢
    simp only [q121_116, q121_118, q121_120, q121_123, q121_124, q121_127, q121_128, q121_130, q121_131, q121_132, q121_133, q121_136, q121_137, q121_139, q121_140, q121_141, q121_142, q121_145, q121_146, q121_148, q121_149, q121_150, q121_153, q121_154, q121_157, q121_160, en_c29, en_f29_0, en_f29_1, en_f29_2, en_a30, en_l30, en_s30, en_a31, en_l31, en_s31, en_a32, en_l32, en_s32, as_10, as_01, Nat.reduceBEq, Nat.reduceEqDiff, ↓reduceIte, Option.bind_some, Option.getD_some, Option.isSome_some, Option.isSome_none, Bool.false_eq_true, Option.toList, List.nil_append, List.cons_append, List.lookup, Option.isSome, List.getElem?_cons_zero, List.getElem?_cons_succ, beq_self_eq_true, if_true, true_or, or_true, or_false, false_or, am_kl, true_and, and_true, and_false, false_and, if_false, not_true_eq_false, not_false_eq_true, as_b0, as_b1, as_em, as_ne, List.length_cons, List.length_nil, Nat.reduceAdd, Int32.reduceLT, Int32.reduceLE, Int32.reduceAdd, Int32.reduceSub, Int32.neg_neg, Int32.reduceMul, Int32.reduceToNatClampNeg, Nat.reduceLeDiff, Nat.reduceLT, List.set_cons_zero, List.set_cons_succ, List.length_set, en_at, en_uu, en_gd, e1, h1, e5, ih, ct_122, as_add, h31, h32, n0, p0, l0, g0, n1, p1, l1, g1]
set_option maxRecDepth 100000 in
theorem ct_121_1 {X : List Int32} {I : Nat → Nat → Int32} {L : Nat → List Int64} {V : Nat → List Value} {W : Value} {Q : am_Mem} {f : Nat} {br : Int32} (hf : f ≤ 144) : ∀ (j t : Nat) (A : Nat → List Int32) (z : Option Value), t + j = 6 → (A 30).length = 6 → (A 31).length = 156 → (A 32).length = 156 → am_go X 121 37 [some (.ref 29), some (.int (Int32.ofNat f)), some (.int br), some (.int (Int32.ofNat (f + 6))), some (.int (Int32.ofNat t)), z] [] (en_E I A L V W Q) = some (none, en_E I (en_u (en_u A 31 (md_r2 br (md_r1 (A 30) (A 31) f j t (A 32)) f 6 0 (A 31))) 32 (md_r1 (A 30) (A 31) f j t (A 32))) L V W Q)
  | 0, t, A, z, h, h30, h31, h32 => by
    have ht : t = 6 := by omega
    subst ht
    have e2 := ct_121_2 (X := X) (I := I) (L := L) (V := V) (W := W) (Q := Q) (br := br) hf 6 0 A z (by omega) h30 h31 h32
    rw [show Int32.ofNat 0 = 0 from rfl] at e2
    simp only [q121_37, q121_39, q121_41, q121_44, q121_46, q121_47, q121_50, q121_51, q121_54, q121_56, q121_57, q121_60, q121_61, q121_64, q121_66, q121_67, q121_68, q121_70, q121_71, q121_74, q121_75, q121_77, q121_78, q121_79, q121_82, q121_84, q121_85, q121_86, q121_89, q121_90, q121_92, q121_93, q121_94, q121_95, q121_98, q121_99, q121_101, q121_102, q121_103, q121_106, q121_107, q121_110, q121_113, q121_114, en_c29, en_f29_0, en_f29_1, en_f29_2, en_a30, en_l30, en_s30, en_a31, en_l31, en_s31, en_a32, en_l32, en_s32, as_10, as_01, Nat.reduceBEq, Nat.reduceEqDiff, ↓reduceIte, Option.bind_some, Option.getD_some, Option.isSome_some, Option.isSome_none, Bool.false_eq_true, Option.toList, List.nil_append, List.cons_append, List.lookup, Option.isSome, List.getElem?_cons_zero, List.getElem?_cons_succ, beq_self_eq_true, if_true, true_or, or_true, or_false, false_or, am_kl, true_and, and_true, and_false, false_and, if_false, not_true_eq_false, not_false_eq_true, as_b0, as_b1, as_em, as_ne, List.length_cons, List.length_nil, Nat.reduceAdd, Int32.reduceLT, Int32.reduceLE, Int32.reduceAdd, Int32.reduceSub, Int32.neg_neg, Int32.reduceMul, Int32.reduceToNatClampNeg, Nat.reduceLeDiff, Nat.reduceLT, List.set_cons_zero, List.set_cons_succ, List.length_set, en_at, en_uu, en_gd, Int32.reduceOfNat]
    rw [e2]
    simp only [md_r1, en_cm, Nat.reduceLT]
    rw [en_ix (f := en_u A 31 _) (k := 32) (by rw [en_at, if_neg (by decide)])]
  | j + 1, t, A, z, h, h30, h31, h32 => by
    have e1 : (Int32.ofNat t < 6) ↔ t < 6 := as_lt (show t < 2147483648 by omega) (show 6 < 2147483648 by decide)
    have e1b := as_lt (show t < 2147483648 by omega) (show 6 < 2147483648 by decide)
    have h1 : t < 6 := by omega
    have e5 : Int32.ofNat t + 1 = Int32.ofNat (t + 1) := as_add (b := 1)
    have e6 : (Int32.ofNat t = 5) ↔ t = 5 := as_eq (show t < 2147483648 by omega) (show 5 < 2147483648 by decide)
    have nt := as_nat (show t < 2147483648 by omega)
    have pt := as_pos (show t < 2147483648 by omega)
    have n0 := as_nat (show f + t < 2147483648 by omega)
    have p0 := as_pos (show f + t < 2147483648 by omega)
    have l0 : f + t < 156 := by omega
    have g0 : ¬ 156 ≤ f + t := by omega
    have n1 := as_nat (show f + 6 + t < 2147483648 by omega)
    have p1 := as_pos (show f + 6 + t < 2147483648 by omega)
    have l1 : f + 6 + t < 156 := by omega
    have g1 : ¬ 156 ≤ f + 6 + t := by omega
    have n2 := as_nat (show f + (t + 1) < 2147483648 by omega)
    have p2 := as_pos (show f + (t + 1) < 2147483648 by omega)
    have l2 : f + (t + 1) < 156 := by omega
    have g2 : ¬ 156 ≤ f + (t + 1) := by omega
    have n3 := as_nat (show f < 2147483648 by omega)
    have p3 := as_pos (show f < 2147483648 by omega)
    have l3 : f < 156 := by omega
    have g3 : ¬ 156 ≤ f := by omega
    have ih := fun z => ct_121_1 (X := X) (I := I) (L := L) (V := V) (W := W) (Q := Q) (br := br) hf j (t + 1) (en_u A 32 ((A 32).set (f + t) (md_mean ((A 30).getD t 0) ((A 31).getD (f + (if t = 5 then 0 else t + 1)) 0) ((A 32).getD (f + 6 + t) 0)))) z (by omega) (by rw [en_at, if_neg (by decide)]; exact h30) (by rw [en_at, if_neg (by decide)]; exact h31) (by rw [en_at, if_pos rfl, List.length_set]; exact h32)
    rw [md_r1]
    unfold md_mean at ih ⊢
    by_cases h5 : t = 5
    · have c0 : Int32.ofNat f + 0 = Int32.ofNat (f + 0) := as_add (b := 0)
      simp only [h5, ↓reduceIte, Nat.add_zero, en_at, en_uu, Nat.reduceEqDiff, en_cm, Nat.reduceLT] at ih
      subst h5
      simp only [q121_37, q121_39, q121_41, q121_44, q121_46, q121_47, q121_50, q121_51, q121_54, q121_56, q121_57, q121_60, q121_61, q121_64, q121_66, q121_67, q121_68, q121_70, q121_71, q121_74, q121_75, q121_77, q121_78, q121_79, q121_82, q121_84, q121_85, q121_86, q121_89, q121_90, q121_92, q121_93, q121_94, q121_95, q121_98, q121_99, q121_101, q121_102, q121_103, q121_106, q121_107, q121_110, en_c29, en_f29_0, en_f29_1, en_f29_2, en_a30, en_l30, en_s30, en_a31, en_l31, en_s31, en_a32, en_l32, en_s32, as_10, as_01, Nat.reduceBEq, Nat.reduceEqDiff, ↓reduceIte, Option.bind_some, Option.getD_some, Option.isSome_some, Option.isSome_none, Bool.false_eq_true, Option.toList, List.nil_append, List.cons_append, List.lookup, Option.isSome, List.getElem?_cons_zero, List.getElem?_cons_succ, beq_self_eq_true, if_true, true_or, or_true, or_false, false_or, am_kl, true_and, and_true, and_false, false_and, if_false, not_true_eq_false, not_false_eq_true, as_b0, as_b1, as_em, as_ne, List.length_cons, List.length_nil, Nat.reduceAdd, Int32.reduceLT, Int32.reduceLE, Int32.reduceAdd, Int32.reduceSub, Int32.neg_neg, Int32.reduceMul, Int32.reduceToNatClampNeg, Nat.reduceLeDiff, Nat.reduceLT, List.set_cons_zero, List.set_cons_succ, List.length_set, en_at, en_uu, en_gd, ih, e1, e1b, h1, e5, e6, ct_122, as_add, c0, Nat.add_zero, h30, h31, h32, nt, pt, n0, p0, l0, g0, n1, p1, l1, g1, n2, p2, l2, g2, n3, p3, l3, g3]
      simp only [en_uku]
    · simp only [h5, ↓reduceIte, en_at, en_uu, Nat.reduceEqDiff, en_cm, Nat.reduceLT] at ih
      simp only [q121_37, q121_39, q121_41, q121_44, q121_46, q121_47, q121_50, q121_51, q121_54, q121_56, q121_57, q121_60, q121_61, q121_64, q121_66, q121_67, q121_68, q121_70, q121_71, q121_74, q121_75, q121_77, q121_78, q121_79, q121_82, q121_84, q121_85, q121_86, q121_89, q121_90, q121_92, q121_93, q121_94, q121_95, q121_98, q121_99, q121_101, q121_102, q121_103, q121_106, q121_107, q121_110, en_c29, en_f29_0, en_f29_1, en_f29_2, en_a30, en_l30, en_s30, en_a31, en_l31, en_s31, en_a32, en_l32, en_s32, as_10, as_01, Nat.reduceBEq, Nat.reduceEqDiff, ↓reduceIte, Option.bind_some, Option.getD_some, Option.isSome_some, Option.isSome_none, Bool.false_eq_true, Option.toList, List.nil_append, List.cons_append, List.lookup, Option.isSome, List.getElem?_cons_zero, List.getElem?_cons_succ, beq_self_eq_true, if_true, true_or, or_true, or_false, false_or, am_kl, true_and, and_true, and_false, false_and, if_false, not_true_eq_false, not_false_eq_true, as_b0, as_b1, as_em, as_ne, List.length_cons, List.length_nil, Nat.reduceAdd, Int32.reduceLT, Int32.reduceLE, Int32.reduceAdd, Int32.reduceSub, Int32.neg_neg, Int32.reduceMul, Int32.reduceToNatClampNeg, Nat.reduceLeDiff, Nat.reduceLT, List.set_cons_zero, List.set_cons_succ, List.length_set, en_at, en_uu, en_gd, ih, e1, e1b, h1, e5, e6, h5, ct_122, as_add, h30, h31, h32, nt, pt, n0, p0, l0, g0, n1, p1, l1, g1, n2, p2, l2, g2, n3, p3, l3, g3]
      simp only [en_uku]
set_option maxRecDepth 100000 in
theorem ct_121 {X : List Int32} {I : Nat → Nat → Int32} {A : Nat → List Int32} {L : Nat → List Int64} {V : Nat → List Value} {W : Value} {Q : am_Mem} {f : Nat} {br : Int32} (hf : f ≤ 144) (h30 : (A 30).length = 6) (h31 : (A 31).length = 156) (h32 : (A 32).length = 156) :
    am_mt X 121 [.ref 29, .int (Int32.ofNat f), .int br] (en_E I A L V W Q) = some (none, en_E I (en_u (en_u A 31 (md_r2 br (md_r1 (A 30) (A 31) f 6 0 (A 32)) f 6 0 (A 31))) 32 (md_r1 (A 30) (A 31) f 6 0 (A 32))) L V W Q) := by
  rw [as_mt (n := 6) (by decide +kernel), show am_ent 6 [.ref 29, .int (Int32.ofNat f), .int br] = [some (.ref 29), some (.int (Int32.ofNat f)), some (.int br), none, none, none] from rfl]
  have e2 := ct_121_1 (X := X) (I := I) (L := L) (V := V) (W := W) (Q := Q) (br := br) hf 6 0 A none (by omega) h30 h31 h32
  rw [show Int32.ofNat 0 = 0 from rfl] at e2
  have c1 : Int32.ofNat f + 6 = Int32.ofNat (f + 6) := as_add (b := 6)
  have c2 : Int32.ofNat (f + 6) + 6 = Int32.ofNat (f + 6 + 6) := as_add (b := 6)
  have pf := as_pos (show f < 2147483648 by omega)
  have k1 := as_lt (show 156 < 2147483648 by decide) (show f + 6 + 6 < 2147483648 by omega)
  have k2 : ¬ 156 < f + 6 + 6 := by omega
  simp only [q121_0, q121_1, q121_3, q121_4, q121_5, q121_6, q121_9, q121_10, q121_12, q121_13, q121_14, q121_17, q121_18, q121_21, q121_22, q121_24, q121_25, q121_26, q121_29, q121_30, q121_33, q121_34, q121_35, en_c29, en_f29_0, en_f29_1, en_f29_2, en_a30, en_l30, en_s30, en_a31, en_l31, en_s31, en_a32, en_l32, en_s32, as_10, as_01, Nat.reduceBEq, Nat.reduceEqDiff, ↓reduceIte, Option.bind_some, Option.getD_some, Option.isSome_some, Option.isSome_none, Bool.false_eq_true, Option.toList, List.nil_append, List.cons_append, List.lookup, Option.isSome, List.getElem?_cons_zero, List.getElem?_cons_succ, beq_self_eq_true, if_true, true_or, or_true, or_false, false_or, am_kl, true_and, and_true, and_false, false_and, if_false, not_true_eq_false, not_false_eq_true, as_b0, as_b1, as_em, as_ne, List.length_cons, List.length_nil, Nat.reduceAdd, Int32.reduceLT, Int32.reduceLE, Int32.reduceAdd, Int32.reduceSub, Int32.neg_neg, Int32.reduceMul, Int32.reduceToNatClampNeg, Nat.reduceLeDiff, Nat.reduceLT, List.set_cons_zero, List.set_cons_succ, List.length_set, en_at, en_uu, en_gd, h30, h31, h32, c1, c2, k1, k2, pf]
  exact e2

