def md_EQ (T D : Nat → Int32) : Prop := D 0 = T 2 ∧ D 1 = T 3 ∧ D 2 = T 4 ∧ D 3 = T 5 ∧ D 4 = T 6 ∧ D 5 = T 7 ∧ D 6 = T 8 ∧ D 7 = T 9 ∧ D 8 = T 10 ∧ D 9 = T 11 ∧ D 10 = T 12 ∧ D 11 = T 13 ∧ D 12 = T 14
def md_rg (D : Nat → Int32) : Prop := (∃ n, n ≤ 60 ∧ D 1 = Int32.ofNat n) ∧ (∃ n, n < 6 ∧ D 2 = Int32.ofNat n) ∧ (∃ n, n ≤ 9 ∧ D 3 = Int32.ofNat n) ∧ (∃ n, n ≤ 1000 ∧ D 4 = Int32.ofNat n) ∧ (∃ g u t, 1 ≤ g ∧ g ≤ 25 ∧ u < g ∧ t < g ∧ D 5 = Int32.ofNat g ∧ D 6 = Int32.ofNat u ∧ D 7 = Int32.ofNat t) ∧ (D 8 = 0 ∨ D 8 = 1)
def md_kq (T : Nat → Int32) (fl : List Int32) (pd : List (Nat × Int32)) (kp : List Int32) : Prop := pd.length ≤ 12 ∧ T 2 = Int32.ofNat pd.length ∧ md_PR pd ∧ (∀ k, k < pd.length → pd[k]? = some (md_kc (kp.getD k 0), kp.getD (12 + k) 0) ∧ md_kn (md_kc (kp.getD k 0)) = kp.getD k 0) ∧ (∀ i, i < 6 → kp.getD (24 + i) 0 = fl.getD i 0) ∧ md_FL fl pd ∧ md_EQ T (fun j => kp.getD (if j = 0 then 35 else if j < 6 then 29 + j else 30 + j) 0) ∧ md_rg (fun j => T (j + 2))
def md_IM (tk ik : Int32) (T : Nat → Int32) (fl : List Int32) (v24 : List Value) (kp : List Int32) (Q : am_Mem) (pl : List Nat) (pd : List (Nat × Int32)) : Prop := tk = ik ∧ (tk = 0 ∨ tk = 1) ∧ fl.length = 6 ∧ v24 = md_pl pl ∧ pl.length ≤ 12 ∧ kp.length = 60 ∧ md_psQ Q pl pd ∧ (tk = 1 → md_kq T fl pd kp)
def md_SH (so sz : Int32) (el : List Int64) (hd m1 m2 m3 m4 : Int32) (sl : List Int64) (c : Nat) : Prop := el.length = 160 ∧ (∃ n, n ≤ 160 ∧ sz = Int32.ofNat n) ∧ ((m1 = 0 ∧ hd = -1) ∨ (m1 = 2 ∧ hd = m4 ∧ ∃ k, k < c ∧ m4 = Int32.ofNat k) ∨ (m1 = 1 ∧ (∃ o, o < 4 ∧ so = Int32.ofNat o ∧ hd = Int32.ofNat (100 + o)) ∧ m2 = so ∧ m3 = sz ∧ sl = el))
def md_SHS (I : Nat → Nat → Int32) (A : Nat → List Int32) (L : Nat → List Int64) (c : Nat) : Prop := ((A 2).length = 8 ∧ (A 41).length = 8 ∧ (A 42).length = 8 ∧ (A 43).length = 8 ∧ (A 44).length = 8 ∧ (L 45).length = 1280) ∧ ∀ s, s < 8 → md_SH (I (3 + 2 * s) 1) (I (3 + 2 * s) 2) (L (4 + 2 * s)) ((A 2).getD s 0) ((A 41).getD s 0) ((A 42).getD s 0) ((A 43).getD s 0) ((A 44).getD s 0) (md_sl (L 45) s) c
def md_RF (a b : List Int32) : Prop := a.length = 7 ∧ b.length = 8 ∧ ∀ k, k < 7 → a.getD k 0 = b.getD (k + 1) 0
def md_TR (n m : Int32) (l : List Int64) (a : List Int32) : Prop := l.length = 160 ∧ a.length = 20 ∧ ∃ k, k ≤ 20 ∧ n = Int32.ofNat k ∧ m = Int32.ofNat k ∧ ∀ i, i < k → (l.getD i 0).toInt32 = a.getD i 0
def md_SC (a30 a31 a32 a51 a52 a54 a55 a28 : List Int32) (l46 : List Int64) (v27 : List Value) : Prop := a30.length = 6 ∧ a31.length = 156 ∧ a32.length = 156 ∧ a51.length = 2 ∧ a52.length = 60 ∧ a54.length = 6 ∧ a55.length = 8112 ∧ a28.length = 6 ∧ l46.length = 160 ∧ ∃ pl, v27 = md_pl pl ∧ pl.length ≤ 12
def md_TM (T D : Nat → Int32) (f22 f40 : List Int32) (A : Nat → List Int32) (v21 : List Value) (Q : am_Mem) (pl : List Nat) (pd : List (Nat × Int32)) : Prop := md_EQ T D ∧ md_rg D ∧ f40 = f22 ∧ md_FL f22 pd ∧ md_PD A pd ∧ v21 = md_pl pl ∧ T 2 = Int32.ofNat pl.length ∧ md_psQ Q pl pd
def md_QS (Q : am_Mem) : Prop := ∀ x ∈ Q, ∃ (c : Nat) (a b : Int32), x = .inr (.inr (.inr (c, [.int a, .int b])))
def md_R (I : Nat → Nat → Int32) (A : Nat → List Int32) (L : Nat → List Int64) (V : Nat → List Value) (Q : am_Mem) (pl : List Nat) (pd : List (Nat × Int32)) (pl2 : List Nat) (pd2 : List (Nat × Int32)) : Prop :=
  md_TM (I 20) (I 36) (A 22) (A 40) A (V 21) Q pl pd ∧ md_IM (I 0 9) (I 36 41) (I 23) (A 25) (V 24) (A 53) Q pl2 pd2 ∧ md_SHS I A L pl.length ∧ md_RF (A 19) (A 37) ∧ I 0 10 = I 36 13 ∧ md_TR (I 34 2) (I 36 40) (L 35) (A 56) ∧ md_SC (A 30) (A 31) (A 32) (A 51) (A 52) (A 54) (A 55) (A 28) (L 46) (V 27) ∧ md_QS Q
def md_RX (I : Nat → Nat → Int32) (A : Nat → List Int32) (L : Nat → List Int64) (V : Nat → List Value) (Q : am_Mem) : Prop := ∃ pl pd pl2 pd2, md_R I A L V Q pl pd pl2 pd2
def md_Stp (X : List Int32) (mc mm : Nat) (as : List Value) (I : Nat → Nat → Int32) (A : Nat → List Int32) (L : Nat → List Int64) (V : Nat → List Value) (W : Value) (Q : am_Mem) : Prop :=
  ∃ (v : Value) (I1 : Nat → Nat → Int32) (A1 : Nat → List Int32) (L1 : Nat → List Int64) (V1 : Nat → List Value) (W1 : Value) (Q1 : am_Mem) (I2 : Nat → Nat → Int32) (A2 : Nat → List Int32) (L2 : Nat → List Int64) (V2 : Nat → List Value) (W2 : Value) (Q2 : am_Mem), am_mt X mc (.ref 0 :: as) (en_E I A L V W Q) = some (some v, en_E I1 A1 L1 V1 W1 Q1) ∧ am_mt X mm (.ref 36 :: as) (en_E I1 A1 L1 V1 W1 Q1) = some (some v, en_E I2 A2 L2 V2 W2 Q2) ∧ md_RX I2 A2 L2 V2 Q2 ∧ Q2.length ≤ Q.length + 200
theorem md_same {X : List Int32} {mc mm : Nat} {as : List Value} {I : Nat → Nat → Int32} {A : Nat → List Int32} {L : Nat → List Int64} {V : Nat → List Value} {W : Value} {Q : am_Mem} {v : Value} (hR : md_RX I A L V Q) (h1 : am_mt X mc (.ref 0 :: as) (en_E I A L V W Q) = some (some v, en_E I A L V W Q)) (h2 : am_mt X mm (.ref 36 :: as) (en_E I A L V W Q) = some (some v, en_E I A L V W Q)) : md_Stp X mc mm as I A L V W Q := ⟨v, _, _, _, _, _, _, I, A, L, V, W, Q, h1, h2, hR, by omega⟩
theorem md_SHS_I {I : Nat → Nat → Int32} {A : Nat → List Int32} {L : Nat → List Int64} {c k : Nat} {x : Nat → Int32} (h : k < 3 ∨ 17 < k) : md_SHS (en_u I k x) A L c ↔ md_SHS I A L c := by
  unfold md_SHS
  refine and_congr Iff.rfl (forall_congr' fun s => forall_congr' fun hs => ?_)
  rw [en_at, if_neg (by omega)]
theorem md_SHS_A {I : Nat → Nat → Int32} {A : Nat → List Int32} {L : Nat → List Int64} {c k : Nat} {x : List Int32} (h : ¬ 2 = k) (h1 : ¬ 41 = k) (h2 : ¬ 42 = k) (h3 : ¬ 43 = k) (h4 : ¬ 44 = k) : md_SHS I (en_u A k x) L c ↔ md_SHS I A L c := by
  unfold md_SHS
  rw [en_at, if_neg h, en_at, if_neg h1, en_at, if_neg h2, en_at, if_neg h3, en_at, if_neg h4]
theorem md_SHS_L {I : Nat → Nat → Int32} {A : Nat → List Int32} {L : Nat → List Int64} {c k : Nat} {x : List Int64} (h : 18 < k) (h2 : ¬ 45 = k) : md_SHS I A (en_u L k x) c ↔ md_SHS I A L c := by
  unfold md_SHS
  rw [en_at (k := k) (j := 45), if_neg h2]
  refine and_congr Iff.rfl (forall_congr' fun s => forall_congr' fun hs => ?_)
  rw [en_at, if_neg (by omega)]
theorem md_TM_A {T D : Nat → Int32} {f22 f40 : List Int32} {A : Nat → List Int32} {v21 : List Value} {Q : am_Mem} {pl : List Nat} {pd : List (Nat × Int32)} {k : Nat} {x : List Int32} (h1 : ¬ 38 = k) (h2 : ¬ 39 = k) : md_TM T D f22 f40 (en_u A k x) v21 Q pl pd ↔ md_TM T D f22 f40 A v21 Q pl pd := by
  unfold md_TM; rw [md_PDu h1 h2]
theorem md_RF_s {a b : List Int32} {k : Nat} (h : md_RF a b) (hk : k < 7) : md_RF (a.set k (a.getD k 0 + 1)) (b.set (k + 1) (b.getD (k + 1) 0 + 1)) := by
  obtain ⟨h1, h2, h3⟩ := h
  refine ⟨by rw [List.length_set, h1], by rw [List.length_set, h2], fun j hj => ?_⟩
  rw [as_getset, as_getset]
  by_cases hc : k = j
  · subst hc
    have z1 : k = k ∧ k < a.length := ⟨rfl, by omega⟩
    have z2 : k + 1 = k + 1 ∧ k + 1 < b.length := ⟨rfl, by omega⟩
    rw [if_pos z1, if_pos z2, h3 k hk]
  · have z1 : ¬ (k = j ∧ k < a.length) := fun h => hc h.1
    have z2 : ¬ (k + 1 = j + 1 ∧ k + 1 < b.length) := fun h => hc (by omega)
    rw [if_neg z1, if_neg z2, h3 j hj]
theorem md_ref1 {X : List Int32} {mc mm : Nat} {as : List Value} {I : Nat → Nat → Int32} {A : Nat → List Int32} {L : Nat → List Int64} {V : Nat → List Value} {W : Value} {Q : am_Mem} {b : Int32} (hR : md_RX I A L V Q) (h1 : am_mt X mc (.ref 0 :: as) (en_E I A L V W Q) = some (some (.int b), en_E I (en_u A 19 ((A 19).set 0 ((A 19).getD 0 0 + 1))) L V W Q)) (h2 : am_mt X mm (.ref 36 :: as) (en_E I (en_u A 19 ((A 19).set 0 ((A 19).getD 0 0 + 1))) L V W Q) = some (some (.int b), en_E I (en_u (en_u A 19 ((A 19).set 0 ((A 19).getD 0 0 + 1))) 37 ((A 37).set 1 ((A 37).getD 1 0 + 1))) L V W Q)) : md_Stp X mc mm as I A L V W Q := by
  refine ⟨_, _, _, _, _, _, _, _, _, _, _, _, _, h1, h2, ?_, by omega⟩
  obtain ⟨pl, pd, pl2, pd2, r1, r2, r3, r4, r5, r6, r7, r8⟩ := hR
  refine ⟨pl, pd, pl2, pd2, ?_⟩
  unfold md_R
  simp only [en_at, ↓reduceIte, Nat.reduceEqDiff, md_SHS_I, md_SHS_A, md_SHS_L, md_TM_A, Nat.reduceLT, or_true, true_or, or_false, false_or, not_false_eq_true, not_true_eq_false]
  exact ⟨r1, r2, r3, md_RF_s r4 (by decide), r5, r6, r7, r8⟩
theorem md_ref2 {X : List Int32} {mc mm : Nat} {as : List Value} {I : Nat → Nat → Int32} {A : Nat → List Int32} {L : Nat → List Int64} {V : Nat → List Value} {W : Value} {Q : am_Mem} {b : Int32} (hR : md_RX I A L V Q) (h1 : am_mt X mc (.ref 0 :: as) (en_E I A L V W Q) = some (some (.int b), en_E I (en_u A 19 ((A 19).set 1 ((A 19).getD 1 0 + 1))) L V W Q)) (h2 : am_mt X mm (.ref 36 :: as) (en_E I (en_u A 19 ((A 19).set 1 ((A 19).getD 1 0 + 1))) L V W Q) = some (some (.int b), en_E I (en_u (en_u A 19 ((A 19).set 1 ((A 19).getD 1 0 + 1))) 37 ((A 37).set 2 ((A 37).getD 2 0 + 1))) L V W Q)) : md_Stp X mc mm as I A L V W Q := by
  refine ⟨_, _, _, _, _, _, _, _, _, _, _, _, _, h1, h2, ?_, by omega⟩
  obtain ⟨pl, pd, pl2, pd2, r1, r2, r3, r4, r5, r6, r7, r8⟩ := hR
  refine ⟨pl, pd, pl2, pd2, ?_⟩
  unfold md_R
  simp only [en_at, ↓reduceIte, Nat.reduceEqDiff, md_SHS_I, md_SHS_A, md_SHS_L, md_TM_A, Nat.reduceLT, or_true, true_or, or_false, false_or, not_false_eq_true, not_true_eq_false]
  exact ⟨r1, r2, r3, md_RF_s r4 (by decide), r5, r6, r7, r8⟩
theorem md_ref3 {X : List Int32} {mc mm : Nat} {as : List Value} {I : Nat → Nat → Int32} {A : Nat → List Int32} {L : Nat → List Int64} {V : Nat → List Value} {W : Value} {Q : am_Mem} {b : Int32} (hR : md_RX I A L V Q) (h1 : am_mt X mc (.ref 0 :: as) (en_E I A L V W Q) = some (some (.int b), en_E I (en_u A 19 ((A 19).set 2 ((A 19).getD 2 0 + 1))) L V W Q)) (h2 : am_mt X mm (.ref 36 :: as) (en_E I (en_u A 19 ((A 19).set 2 ((A 19).getD 2 0 + 1))) L V W Q) = some (some (.int b), en_E I (en_u (en_u A 19 ((A 19).set 2 ((A 19).getD 2 0 + 1))) 37 ((A 37).set 3 ((A 37).getD 3 0 + 1))) L V W Q)) : md_Stp X mc mm as I A L V W Q := by
  refine ⟨_, _, _, _, _, _, _, _, _, _, _, _, _, h1, h2, ?_, by omega⟩
  obtain ⟨pl, pd, pl2, pd2, r1, r2, r3, r4, r5, r6, r7, r8⟩ := hR
  refine ⟨pl, pd, pl2, pd2, ?_⟩
  unfold md_R
  simp only [en_at, ↓reduceIte, Nat.reduceEqDiff, md_SHS_I, md_SHS_A, md_SHS_L, md_TM_A, Nat.reduceLT, or_true, true_or, or_false, false_or, not_false_eq_true, not_true_eq_false]
  exact ⟨r1, r2, r3, md_RF_s r4 (by decide), r5, r6, r7, r8⟩
theorem md_ref4 {X : List Int32} {mc mm : Nat} {as : List Value} {I : Nat → Nat → Int32} {A : Nat → List Int32} {L : Nat → List Int64} {V : Nat → List Value} {W : Value} {Q : am_Mem} {b : Int32} (hR : md_RX I A L V Q) (h1 : am_mt X mc (.ref 0 :: as) (en_E I A L V W Q) = some (some (.int b), en_E I (en_u A 19 ((A 19).set 3 ((A 19).getD 3 0 + 1))) L V W Q)) (h2 : am_mt X mm (.ref 36 :: as) (en_E I (en_u A 19 ((A 19).set 3 ((A 19).getD 3 0 + 1))) L V W Q) = some (some (.int b), en_E I (en_u (en_u A 19 ((A 19).set 3 ((A 19).getD 3 0 + 1))) 37 ((A 37).set 4 ((A 37).getD 4 0 + 1))) L V W Q)) : md_Stp X mc mm as I A L V W Q := by
  refine ⟨_, _, _, _, _, _, _, _, _, _, _, _, _, h1, h2, ?_, by omega⟩
  obtain ⟨pl, pd, pl2, pd2, r1, r2, r3, r4, r5, r6, r7, r8⟩ := hR
  refine ⟨pl, pd, pl2, pd2, ?_⟩
  unfold md_R
  simp only [en_at, ↓reduceIte, Nat.reduceEqDiff, md_SHS_I, md_SHS_A, md_SHS_L, md_TM_A, Nat.reduceLT, or_true, true_or, or_false, false_or, not_false_eq_true, not_true_eq_false]
  exact ⟨r1, r2, r3, md_RF_s r4 (by decide), r5, r6, r7, r8⟩
theorem md_ref5 {X : List Int32} {mc mm : Nat} {as : List Value} {I : Nat → Nat → Int32} {A : Nat → List Int32} {L : Nat → List Int64} {V : Nat → List Value} {W : Value} {Q : am_Mem} {b : Int32} (hR : md_RX I A L V Q) (h1 : am_mt X mc (.ref 0 :: as) (en_E I A L V W Q) = some (some (.int b), en_E I (en_u A 19 ((A 19).set 4 ((A 19).getD 4 0 + 1))) L V W Q)) (h2 : am_mt X mm (.ref 36 :: as) (en_E I (en_u A 19 ((A 19).set 4 ((A 19).getD 4 0 + 1))) L V W Q) = some (some (.int b), en_E I (en_u (en_u A 19 ((A 19).set 4 ((A 19).getD 4 0 + 1))) 37 ((A 37).set 5 ((A 37).getD 5 0 + 1))) L V W Q)) : md_Stp X mc mm as I A L V W Q := by
  refine ⟨_, _, _, _, _, _, _, _, _, _, _, _, _, h1, h2, ?_, by omega⟩
  obtain ⟨pl, pd, pl2, pd2, r1, r2, r3, r4, r5, r6, r7, r8⟩ := hR
  refine ⟨pl, pd, pl2, pd2, ?_⟩
  unfold md_R
  simp only [en_at, ↓reduceIte, Nat.reduceEqDiff, md_SHS_I, md_SHS_A, md_SHS_L, md_TM_A, Nat.reduceLT, or_true, true_or, or_false, false_or, not_false_eq_true, not_true_eq_false]
  exact ⟨r1, r2, r3, md_RF_s r4 (by decide), r5, r6, r7, r8⟩
theorem md_ref6 {X : List Int32} {mc mm : Nat} {as : List Value} {I : Nat → Nat → Int32} {A : Nat → List Int32} {L : Nat → List Int64} {V : Nat → List Value} {W : Value} {Q : am_Mem} {b : Int32} (hR : md_RX I A L V Q) (h1 : am_mt X mc (.ref 0 :: as) (en_E I A L V W Q) = some (some (.int b), en_E I (en_u A 19 ((A 19).set 5 ((A 19).getD 5 0 + 1))) L V W Q)) (h2 : am_mt X mm (.ref 36 :: as) (en_E I (en_u A 19 ((A 19).set 5 ((A 19).getD 5 0 + 1))) L V W Q) = some (some (.int b), en_E I (en_u (en_u A 19 ((A 19).set 5 ((A 19).getD 5 0 + 1))) 37 ((A 37).set 6 ((A 37).getD 6 0 + 1))) L V W Q)) : md_Stp X mc mm as I A L V W Q := by
  refine ⟨_, _, _, _, _, _, _, _, _, _, _, _, _, h1, h2, ?_, by omega⟩
  obtain ⟨pl, pd, pl2, pd2, r1, r2, r3, r4, r5, r6, r7, r8⟩ := hR
  refine ⟨pl, pd, pl2, pd2, ?_⟩
  unfold md_R
  simp only [en_at, ↓reduceIte, Nat.reduceEqDiff, md_SHS_I, md_SHS_A, md_SHS_L, md_TM_A, Nat.reduceLT, or_true, true_or, or_false, false_or, not_false_eq_true, not_true_eq_false]
  exact ⟨r1, r2, r3, md_RF_s r4 (by decide), r5, r6, r7, r8⟩
theorem md_ref7 {X : List Int32} {mc mm : Nat} {as : List Value} {I : Nat → Nat → Int32} {A : Nat → List Int32} {L : Nat → List Int64} {V : Nat → List Value} {W : Value} {Q : am_Mem} {b : Int32} (hR : md_RX I A L V Q) (h1 : am_mt X mc (.ref 0 :: as) (en_E I A L V W Q) = some (some (.int b), en_E I (en_u A 19 ((A 19).set 6 ((A 19).getD 6 0 + 1))) L V W Q)) (h2 : am_mt X mm (.ref 36 :: as) (en_E I (en_u A 19 ((A 19).set 6 ((A 19).getD 6 0 + 1))) L V W Q) = some (some (.int b), en_E I (en_u (en_u A 19 ((A 19).set 6 ((A 19).getD 6 0 + 1))) 37 ((A 37).set 7 ((A 37).getD 7 0 + 1))) L V W Q)) : md_Stp X mc mm as I A L V W Q := by
  refine ⟨_, _, _, _, _, _, _, _, _, _, _, _, _, h1, h2, ?_, by omega⟩
  obtain ⟨pl, pd, pl2, pd2, r1, r2, r3, r4, r5, r6, r7, r8⟩ := hR
  refine ⟨pl, pd, pl2, pd2, ?_⟩
  unfold md_R
  simp only [en_at, ↓reduceIte, Nat.reduceEqDiff, md_SHS_I, md_SHS_A, md_SHS_L, md_TM_A, Nat.reduceLT, or_true, true_or, or_false, false_or, not_false_eq_true, not_true_eq_false]
  exact ⟨r1, r2, r3, md_RF_s r4 (by decide), r5, r6, r7, r8⟩
