def md_ri (g : Nat) : Nat → Nat → List Int32 → List Int32
  | 0, _, W => W
  | j + 1, i, W => md_ri g j (i + 1) (W.set i (if i < g * 6 then 1000000 else 0))
theorem md_ri_len {g : Nat} : ∀ (j i : Nat) (W : List Int32), (md_ri g j i W).length = W.length
  | 0, _, _ => rfl
  | j + 1, i, W => by rw [md_ri, md_ri_len j, List.length_set]
theorem md_ri_get {g c : Nat} : ∀ (j i : Nat) (W : List Int32), i + j ≤ W.length → (md_ri g j i W).getD c 0 = if i ≤ c ∧ c < i + j then (if c < g * 6 then 1000000 else 0) else W.getD c 0
  | 0, i, W, h => by rw [md_ri, if_neg (by omega)]
  | j + 1, i, W, h => by
    rw [md_ri, md_ri_get j (i + 1) _ (by rw [List.length_set]; omega), as_getset]
    by_cases h1 : i = c
    · subst h1
      have z1 : ¬ (i + 1 ≤ i ∧ i < i + 1 + j) := by omega
      have z2 : i = i ∧ i < W.length := ⟨rfl, by omega⟩
      have z3 : i ≤ i ∧ i < i + (j + 1) := by omega
      rw [if_neg z1, if_pos z2, if_pos z3]
    · have z4 : ¬ (i = c ∧ i < W.length) := fun h => h1 h.1
      by_cases h2 : i + 1 ≤ c ∧ c < i + 1 + j
      · have z6 : i ≤ c ∧ c < i + (j + 1) := by omega
        rw [if_pos h2, if_pos z6]
      · have z6 : ¬ (i ≤ c ∧ c < i + (j + 1)) := by omega
        rw [if_neg h2, if_neg z4, if_neg z6]
def md_in (br : Int32) (S : List Int32) (them : Nat) : Nat → List Int32 → List Int32 → List Int32 × List Int32
  | 0, W, T => (W, T)
  | n + 1, W, T => md_in br S them n (md_r2 br (md_r1 S W ((them + n) * 6) 6 0 T) ((them + n) * 6) 6 0 W) (md_r1 S W ((them + n) * 6) 6 0 T)
def md_ou (br : Int32) (S : List Int32) (them k : Nat) : Nat → List Int32 → List Int32 → List Int32 × List Int32
  | 0, W, T => (W, T)
  | n + 1, W, T => md_ou br S them k n (md_in br S them k W T).1 (md_in br S them k W T).2
theorem md_in_len {br : Int32} {S : List Int32} {them : Nat} : ∀ (n : Nat) (W T : List Int32), (md_in br S them n W T).1.length = W.length ∧ (md_in br S them n W T).2.length = T.length
  | 0, _, _ => ⟨rfl, rfl⟩
  | n + 1, W, T => by
    rw [md_in]
    obtain ⟨h1, h2⟩ := md_in_len (br := br) (S := S) (them := them) n (md_r2 br (md_r1 S W ((them + n) * 6) 6 0 T) ((them + n) * 6) 6 0 W) (md_r1 S W ((them + n) * 6) 6 0 T)
    rw [md_r2_len] at h1; rw [md_r1_len] at h2
    exact ⟨h1, h2⟩
theorem md_ou_len {br : Int32} {S : List Int32} {them k : Nat} : ∀ (n : Nat) (W T : List Int32), (md_ou br S them k n W T).1.length = W.length ∧ (md_ou br S them k n W T).2.length = T.length
  | 0, _, _ => ⟨rfl, rfl⟩
  | n + 1, W, T => by
    rw [md_ou]
    obtain ⟨h1, h2⟩ := md_ou_len (br := br) (S := S) (them := them) (k := k) n (md_in br S them k W T).1 (md_in br S them k W T).2
    obtain ⟨h3, h4⟩ := md_in_len (br := br) (S := S) (them := them) k W T
    exact ⟨h1.trans h3, h2.trans h4⟩
def md_cr (pw : Int32) (ps : Nat → Int32) (prev : Nat → Nat → Nat → Int32) : Nat → Nat → Nat → Int32
  | 0, _, _ => 0
  | j + 1, who, t => if who = 0 then md_mean pw (prev (j + 1) 0 t) (md_cr pw ps prev j 1 t) else md_mean (ps t) (prev (j + 1) 0 (if t = 5 then 0 else t + 1)) (md_cr pw ps prev j 1 t)
def md_ch (pw : Int32) (ps : Nat → Int32) : Nat → Nat → Nat → Nat → Int32
  | 0 => fun _ _ _ => 1000000
  | i + 1 => md_cr pw ps (md_ch pw ps i)
def md_rws (br : Int32) (S : List Int32) (g lo i : Nat) (W T : List Int32) : Prop := ∀ x t, lo ≤ x → x ≤ g → t < 6 → (x < g → W.getD (x * 6 + t) 0 = md_ch br (fun t => S.getD t 0) i (g - x) 0 t ∧ T.getD (x * 6 + t) 0 = md_ch br (fun t => S.getD t 0) i (g - x) 1 t) ∧ (x = g → W.getD (x * 6 + t) 0 = 0 ∧ T.getD (x * 6 + t) 0 = 0)
theorem md_in_row {br : Int32} {S : List Int32} {g them i : Nat} (hg : g ≤ 25) : ∀ (n : Nat) (W T : List Int32), them + n ≤ g → W.length = 156 → T.length = 156 →
    (∀ x t, them ≤ x → x < them + n → t < 6 → W.getD (x * 6 + t) 0 = md_ch br (fun t => S.getD t 0) i (g - x) 0 t ∧ T.getD (x * 6 + t) 0 = md_ch br (fun t => S.getD t 0) i (g - x) 1 t) →
    md_rws br S g (them + n) (i + 1) W T → md_rws br S g them (i + 1) (md_in br S them n W T).1 (md_in br S them n W T).2
  | 0, W, T, _, _, _, _, h => h
  | n + 1, W, T, hn, hW, hT, h1, h2 => by
    rw [md_in]
    have gT := fun c => md_r1_get (S := S) (W := W) (f := (them + n) * 6) (c := c) 6 0 T (by omega) (by omega)
    have gW := fun c => md_r2_get (br := br) (T := md_r1 S W ((them + n) * 6) 6 0 T) (f := (them + n) * 6) (c := c) 6 0 W (by omega) (by omega)
    refine md_in_row hg n _ _ (by omega) (by rw [md_r2_len, hW]) (by rw [md_r1_len, hT]) (fun x t hx1 hx2 ht => ?_) (fun x t hx1 hx2 ht => ?_)
    · rw [gW, if_neg (by omega), gT, if_neg (by omega)]
      exact h1 x t hx1 (by omega) ht
    · by_cases hx : x = them + n
      · subst hx
        refine ⟨fun _ => ?_, fun h => absurd h (by omega)⟩
        have hh1 := fun t ht => h1 (them + n) t (by omega) (by omega) ht
        have hh2 := h2 (them + n + 1) t (by omega) (by omega) ht
        have e6 : (them + n) * 6 + t + 6 = (them + n + 1) * 6 + t := by omega
        have hlost : T.getD ((them + n + 1) * 6 + t) 0 = md_ch br (fun t => S.getD t 0) (i + 1) (g - (them + n + 1)) 1 t := by
          by_cases hlt : them + n + 1 < g
          · exact (hh2.1 hlt).2
          · have hge : them + n + 1 = g := by omega
            rw [(hh2.2 hge).2, hge, Nat.sub_self]
            rfl
        have hgx : g - (them + n) = (g - (them + n + 1)) + 1 := by omega
        have z1 : (them + n) * 6 + 0 ≤ (them + n) * 6 + t ∧ (them + n) * 6 + t < (them + n) * 6 + 0 + 6 := by omega
        have z2 : ¬ ((them + n) * 6 + 0 ≤ (them + n) * 6 + t + 6 ∧ (them + n) * 6 + t + 6 < (them + n) * 6 + 0 + 6) := by omega
        have ht5 : (if t = 5 then 0 else t + 1) < 6 := by split <;> omega
        constructor
        · rw [gW, gT, if_pos z1, if_neg z2, e6, hlost, (hh1 t ht).1, hgx]
          rfl
        · rw [gT, if_pos z1, e6, hlost, show (them + n) * 6 + t - (them + n) * 6 = t by omega, (hh1 _ ht5).1, hgx]
          rfl
      · rw [gW, if_neg (by omega), gT, if_neg (by omega)]
        exact h2 x t (by omega) hx2 ht
theorem md_ou_row {br : Int32} {S : List Int32} {g them : Nat} (hg : g ≤ 25) (ht : them ≤ g) : ∀ (n i : Nat) (W T : List Int32), W.length = 156 → T.length = 156 → md_rws br S g them i W T → md_rws br S g them (i + n) (md_ou br S them (g - them) n W T).1 (md_ou br S them (g - them) n W T).2
  | 0, i, W, T, _, _, h => h
  | n + 1, i, W, T, hW, hT, h => by
    rw [md_ou, show i + (n + 1) = (i + 1) + n by omega]
    obtain ⟨l1, l2⟩ := md_in_len (br := br) (S := S) (them := them) (g - them) W T
    refine md_ou_row hg ht n (i + 1) _ _ (l1.trans hW) (l2.trans hT) (md_in_row hg (g - them) W T (by omega) hW hT (fun x t hx1 hx2 h6 => (h x t hx1 (by omega) h6).1 (by omega)) (fun x t hx1 hx2 h6 => ⟨fun hc => absurd hc (by omega), fun hc => (h x t (by omega) hx2 h6).2 hc⟩))
theorem md_ri_row {br : Int32} {S : List Int32} {g them : Nat} (hg : g ≤ 25) {W T : List Int32} (hW : W.length = 156) (hT : T.length = 156) : md_rws br S g them 0 (md_ri g 156 0 W) (md_ri g 156 0 T) := by
  intro x t h1 h2 h3
  have zr : 0 ≤ x * 6 + t ∧ x * 6 + t < 0 + 156 := by omega
  rw [md_ri_get _ _ _ (by omega), md_ri_get _ _ _ (by omega), if_pos zr, if_pos zr]
  refine ⟨fun h => ?_, fun h => ?_⟩
  · have zg : x * 6 + t < g * 6 := by omega
    rw [if_pos zg]; exact ⟨rfl, rfl⟩
  · have zg : ¬ x * 6 + t < g * 6 := by omega
    rw [if_neg zg]; exact ⟨rfl, rfl⟩
theorem md_told {br : Int32} {S : List Int32} {g us them turns : Nat} (sv : Nat) (hsv : sv < 2) (hg : g ≤ 25) (hu : us ≤ g) (ht : them ≤ g) (hne : ¬ (us = g ∧ them = g)) (h6 : turns < 6) {W T : List Int32} (hW : W.length = 156) (hT : T.length = 156) :
    (if sv = 0 then (md_ou br S them (g - them) (g - us) (md_ri g 156 0 W) (md_ri g 156 0 T)).1 else (md_ou br S them (g - them) (g - us) (md_ri g 156 0 W) (md_ri g 156 0 T)).2).getD (them * 6 + turns) 0 = md_ch br (fun t => S.getD t 0) (g - us) (g - them) sv turns := by
  have h := md_ou_row (br := br) (S := S) hg ht (g - us) 0 _ _ ((md_ri_len 156 0 W).trans hW) ((md_ri_len 156 0 T).trans hT) (md_ri_row hg hW hT) them turns (Nat.le_refl _) ht h6
  rw [Nat.zero_add] at h
  by_cases hlt : them < g
  · obtain ⟨a, b⟩ := h.1 hlt
    match sv, hsv with
    | 0, _ => exact a
    | 1, _ => exact b
  · have hge : them = g := by omega
    obtain ⟨a, b⟩ := h.2 hge
    obtain ⟨k, hk⟩ : ∃ k, g - us = k + 1 := ⟨g - us - 1, by omega⟩
    have hz : md_ch br (fun t => S.getD t 0) (g - us) (g - them) sv turns = 0 := by
      rw [hk, hge, Nat.sub_self]; rfl
    rw [hz]
    match sv, hsv with
    | 0, _ => exact a
    | 1, _ => exact b
theorem as_pred {k : Nat} : Int32.ofNat (k + 1) - 1 = Int32.ofNat k := as_sub (b := 1) (by omega)
theorem as_m1lt {k : Nat} (h : k < 2147483648) : Int32.ofNat k - 1 < Int32.ofNat k := by
  cases k with
  | zero => decide
  | succ k => rw [as_pred]; exact (as_lt (by omega) h).mpr (by omega)
theorem as_addm1 {x : Int32} : x + -1 = x - 1 := (Int32.sub_eq_add_neg ..).symm
set_option maxRecDepth 100000 in
theorem ct_120_i {X : List Int32} {I : Nat → Nat → Int32} {L : Nat → List Int64} {V : Nat → List Value} {W : Value} {Q : am_Mem} {t g : Nat} {us them : Int32} {z : Option Value} (hg : g ≤ 25) : ∀ (j i : Nat) (A : Nat → List Int32), i + j = 156 → (A 30).length = 6 → (A 31).length = 156 → (A 32).length = 156 → am_go X 120 9 [some (.ref 29), some (.ref t), some (.int us), some (.int them), some (.int (Int32.ofNat g)), some (.int (Int32.ofNat i)), z] [] (en_E I A L V W Q) = am_go X 120 72 [some (.ref 29), some (.ref t), some (.int us), some (.int them), some (.int (Int32.ofNat g)), some (.int 156), z] [] (en_E I (en_u (en_u A 31 (md_ri g j i (A 31))) 32 (md_ri g j i (A 32))) L V W Q)
  | 0, i, A, h, h30, h31, h32 => by
    have hi : i = 156 := by omega
    subst hi
    simp only [q120_9, q120_11, q120_12, q120_15, q120_16, q120_19, q120_21, q120_22, q120_25, q120_26, q120_29, q120_30, q120_33, q120_35, q120_37, q120_39, q120_41, q120_42, q120_45, q120_47, q120_50, q120_51, q120_52, q120_53, q120_56, q120_58, q120_59, q120_62, q120_64, q120_65, q120_66, q120_69, en_c29, en_f29_0, en_f29_1, en_f29_2, en_a30, en_l30, en_s30, en_a31, en_l31, en_s31, en_a32, en_l32, en_s32, as_10, as_01, Nat.reduceBEq, Nat.reduceEqDiff, ↓reduceIte, Option.bind_some, Option.getD_some, Option.isSome_some, Option.isSome_none, Bool.false_eq_true, Option.toList, List.nil_append, List.cons_append, List.lookup, Option.isSome, List.getElem?_cons_zero, List.getElem?_cons_succ, beq_self_eq_true, if_true, true_or, or_true, or_false, false_or, am_kl, true_and, and_true, and_false, false_and, if_false, not_true_eq_false, not_false_eq_true, as_b0, as_b1, as_em, as_ne, List.length_cons, List.length_nil, Nat.reduceAdd, Int32.reduceLT, Int32.reduceLE, Int32.reduceAdd, Int32.reduceSub, Int32.neg_neg, Int32.reduceMul, Int32.reduceToNatClampNeg, Nat.reduceLeDiff, Nat.reduceLT, List.set_cons_zero, List.set_cons_succ, List.length_set, en_at, en_uu, en_gd, Int32.reduceOfNat, h31, md_ri]
    rw [en_ix (f := en_u A 31 _) (k := 32) (by rw [en_at, if_neg (by decide)]), en_id]
    try rfl
  | j + 1, i, A, h, h30, h31, h32 => by
    have e1 := as_lt (show i < 2147483648 by omega) (show 156 < 2147483648 by omega)
    have h1 : i < 156 := by omega
    have h1n : ¬ 156 ≤ i := by omega
    have e5 : Int32.ofNat i + 1 = Int32.ofNat (i + 1) := as_add (b := 1)
    have e6 : Int32.ofNat g * 6 = Int32.ofNat (g * 6) := as_mul (b := 6)
    have e7 := as_lt (show i < 2147483648 by omega) (show g * 6 < 2147483648 by omega)
    have ni := as_nat (show i < 2147483648 by omega)
    have pi := as_pos (show i < 2147483648 by omega)
    have gs : ∀ v : Int32, ((A 31).set i v).getD i 0 = v := fun v => by rw [as_getset, if_pos ⟨rfl, by omega⟩]
    have ih := ct_120_i (X := X) (I := I) (L := L) (V := V) (W := W) (Q := Q) (t := t) (us := us) (them := them) (z := z) hg j (i + 1) (en_u (en_u A 31 ((A 31).set i (if i < g * 6 then 1000000 else 0))) 32 ((A 32).set i (if i < g * 6 then 1000000 else 0))) (by omega) (by rw [en_at, if_neg (by decide), en_at, if_neg (by decide)]; exact h30) (by rw [en_at, if_neg (by decide), en_at, if_pos rfl, List.length_set]; exact h31) (by rw [en_at, if_pos rfl, List.length_set]; exact h32)
    rw [md_ri, md_ri]
    by_cases hc : i < g * 6
    · simp only [hc, ↓reduceIte, en_at, Nat.reduceEqDiff, en_uku, en_uu] at ih ⊢
      simp only [q120_9, q120_11, q120_12, q120_15, q120_16, q120_19, q120_21, q120_22, q120_25, q120_26, q120_29, q120_30, q120_33, q120_35, q120_37, q120_39, q120_41, q120_42, q120_45, q120_47, q120_50, q120_51, q120_52, q120_53, q120_56, q120_58, q120_59, q120_62, q120_64, q120_65, q120_66, q120_69, en_c29, en_f29_0, en_f29_1, en_f29_2, en_a30, en_l30, en_s30, en_a31, en_l31, en_s31, en_a32, en_l32, en_s32, as_10, as_01, Nat.reduceBEq, Nat.reduceEqDiff, ↓reduceIte, Option.bind_some, Option.getD_some, Option.isSome_some, Option.isSome_none, Bool.false_eq_true, Option.toList, List.nil_append, List.cons_append, List.lookup, Option.isSome, List.getElem?_cons_zero, List.getElem?_cons_succ, beq_self_eq_true, if_true, true_or, or_true, or_false, false_or, am_kl, true_and, and_true, and_false, false_and, if_false, not_true_eq_false, not_false_eq_true, as_b0, as_b1, as_em, as_ne, List.length_cons, List.length_nil, Nat.reduceAdd, Int32.reduceLT, Int32.reduceLE, Int32.reduceAdd, Int32.reduceSub, Int32.neg_neg, Int32.reduceMul, Int32.reduceToNatClampNeg, Nat.reduceLeDiff, Nat.reduceLT, List.set_cons_zero, List.set_cons_succ, List.length_set, en_at, en_uu, en_gd, ih, e1, h1, h1n, e5, e6, e7, hc, ni, pi, gs, h31, h32, en_uku]
    · simp only [hc, ↓reduceIte, en_at, Nat.reduceEqDiff, en_uku, en_uu] at ih ⊢
      simp only [q120_9, q120_11, q120_12, q120_15, q120_16, q120_19, q120_21, q120_22, q120_25, q120_26, q120_29, q120_30, q120_33, q120_35, q120_37, q120_39, q120_41, q120_42, q120_45, q120_47, q120_50, q120_51, q120_52, q120_53, q120_56, q120_58, q120_59, q120_62, q120_64, q120_65, q120_66, q120_69, en_c29, en_f29_0, en_f29_1, en_f29_2, en_a30, en_l30, en_s30, en_a31, en_l31, en_s31, en_a32, en_l32, en_s32, as_10, as_01, Nat.reduceBEq, Nat.reduceEqDiff, ↓reduceIte, Option.bind_some, Option.getD_some, Option.isSome_some, Option.isSome_none, Bool.false_eq_true, Option.toList, List.nil_append, List.cons_append, List.lookup, Option.isSome, List.getElem?_cons_zero, List.getElem?_cons_succ, beq_self_eq_true, if_true, true_or, or_true, or_false, false_or, am_kl, true_and, and_true, and_false, false_and, if_false, not_true_eq_false, not_false_eq_true, as_b0, as_b1, as_em, as_ne, List.length_cons, List.length_nil, Nat.reduceAdd, Int32.reduceLT, Int32.reduceLE, Int32.reduceAdd, Int32.reduceSub, Int32.neg_neg, Int32.reduceMul, Int32.reduceToNatClampNeg, Nat.reduceLeDiff, Nat.reduceLT, List.set_cons_zero, List.set_cons_succ, List.length_set, en_at, en_uu, en_gd, ih, e1, h1, h1n, e5, e6, e7, hc, ni, pi, gs, h31, h32, en_uku]
set_option maxRecDepth 100000 in
theorem ct_120_n20 {X : List Int32} {I : Nat → Nat → Int32} {L : Nat → List Int64} {V : Nat → List Value} {W : Value} {Q : am_Mem} {g them : Nat} {us ours : Int32} (hg : g ≤ 25) (ht : them ≤ g) : ∀ (n : Nat) (A : Nat → List Int32), them + n ≤ g → (A 30).length = 6 → (A 31).length = 156 → (A 32).length = 156 → am_go X 120 95 [some (.ref 29), some (.ref 20), some (.int us), some (.int (Int32.ofNat them)), some (.int (Int32.ofNat g)), some (.int ours), some (.int (Int32.ofNat (them + n) - 1))] [] (en_E I A L V W Q) = am_go X 120 125 [some (.ref 29), some (.ref 20), some (.int us), some (.int (Int32.ofNat them)), some (.int (Int32.ofNat g)), some (.int ours), some (.int (Int32.ofNat them - 1))] [] (en_E I (en_u (en_u A 31 (md_in (I 20 6) (A 30) them n (A 31) (A 32)).1) 32 (md_in (I 20 6) (A 30) them n (A 31) (A 32)).2) L V W Q)
  | 0, A, h, h30, h31, h32 => by
    have e1 := as_m1lt (show them < 2147483648 by omega)
    simp only [q120_95, q120_97, q120_98, q120_101, q120_103, q120_106, q120_107, q120_109, q120_111, q120_112, q120_112n, q120_113, q120_116, q120_119, q120_122, en_c29, en_f29_0, en_f29_1, en_f29_2, en_a30, en_l30, en_s30, en_a31, en_l31, en_s31, en_a32, en_l32, en_s32, en_c20, en_f20_0, en_f20_1, en_f20_2, en_p20_2, en_f20_3, en_p20_3, en_f20_4, en_p20_4, en_f20_5, en_p20_5, en_f20_6, en_p20_6, en_f20_7, en_p20_7, en_f20_8, en_p20_8, en_f20_9, en_p20_9, en_f20_10, en_p20_10, en_f20_11, en_p20_11, en_f20_12, en_p20_12, en_f20_13, en_p20_13, en_f20_14, en_p20_14, as_10, as_01, Nat.reduceBEq, Nat.reduceEqDiff, ↓reduceIte, Option.bind_some, Option.getD_some, Option.isSome_some, Option.isSome_none, Bool.false_eq_true, Option.toList, List.nil_append, List.cons_append, List.lookup, Option.isSome, List.getElem?_cons_zero, List.getElem?_cons_succ, beq_self_eq_true, if_true, true_or, or_true, or_false, false_or, am_kl, true_and, and_true, and_false, false_and, if_false, not_true_eq_false, not_false_eq_true, as_b0, as_b1, as_em, as_ne, List.length_cons, List.length_nil, Nat.reduceAdd, Int32.reduceLT, Int32.reduceLE, Int32.reduceAdd, Int32.reduceSub, Int32.neg_neg, Int32.reduceMul, Int32.reduceToNatClampNeg, Nat.reduceLeDiff, Nat.reduceLT, List.set_cons_zero, List.set_cons_succ, List.length_set, en_at, en_uu, en_gd, Nat.add_zero, e1]
    rw [en_ix (f := en_u A 31 _) (k := 32) (by rw [en_at, if_neg (by decide)]; rfl), md_in, en_id]
  | n + 1, A, h, h30, h31, h32 => by
    have e0 : Int32.ofNat (them + (n + 1)) - 1 = Int32.ofNat (them + n) := as_pred
    have e1 := as_lt (show them + n < 2147483648 by omega) (show them < 2147483648 by omega)
    have h1 : ¬ them + n < them := by omega
    have p1 := as_pos (show them + n < 2147483648 by omega)
    have e6 : Int32.ofNat (them + n) * 6 = Int32.ofNat ((them + n) * 6) := as_mul (b := 6)
    have e7 := ct_121 (X := X) (I := I) (L := L) (V := V) (W := W) (Q := Q) (f := (them + n) * 6) (br := I 20 6) (by omega) h30 h31 h32
    have ih := ct_120_n20 (X := X) (I := I) (L := L) (V := V) (W := W) (Q := Q) (us := us) (ours := ours) hg ht n (en_u (en_u A 31 (md_r2 (I 20 6) (md_r1 (A 30) (A 31) ((them + n) * 6) 6 0 (A 32)) ((them + n) * 6) 6 0 (A 31))) 32 (md_r1 (A 30) (A 31) ((them + n) * 6) 6 0 (A 32))) (by omega) (by rw [en_at, if_neg (by decide), en_at, if_neg (by decide)]; exact h30) (by rw [en_at, if_neg (by decide), en_at, if_pos rfl, md_r2_len]; exact h31) (by rw [en_at, if_pos rfl, md_r1_len]; exact h32)
    rw [md_in]
    simp only [en_at, ↓reduceIte, Nat.reduceEqDiff, en_uku, en_uu] at ih
    simp only [q120_95, q120_97, q120_98, q120_101, q120_103, q120_106, q120_107, q120_109, q120_111, q120_112, q120_112n, q120_113, q120_116, q120_119, q120_122, en_c29, en_f29_0, en_f29_1, en_f29_2, en_a30, en_l30, en_s30, en_a31, en_l31, en_s31, en_a32, en_l32, en_s32, en_c20, en_f20_0, en_f20_1, en_f20_2, en_p20_2, en_f20_3, en_p20_3, en_f20_4, en_p20_4, en_f20_5, en_p20_5, en_f20_6, en_p20_6, en_f20_7, en_p20_7, en_f20_8, en_p20_8, en_f20_9, en_p20_9, en_f20_10, en_p20_10, en_f20_11, en_p20_11, en_f20_12, en_p20_12, en_f20_13, en_p20_13, en_f20_14, en_p20_14, as_10, as_01, Nat.reduceBEq, Nat.reduceEqDiff, ↓reduceIte, Option.bind_some, Option.getD_some, Option.isSome_some, Option.isSome_none, Bool.false_eq_true, Option.toList, List.nil_append, List.cons_append, List.lookup, Option.isSome, List.getElem?_cons_zero, List.getElem?_cons_succ, beq_self_eq_true, if_true, true_or, or_true, or_false, false_or, am_kl, true_and, and_true, and_false, false_and, if_false, not_true_eq_false, not_false_eq_true, as_b0, as_b1, as_em, as_ne, List.length_cons, List.length_nil, Nat.reduceAdd, Int32.reduceLT, Int32.reduceLE, Int32.reduceAdd, Int32.reduceSub, Int32.neg_neg, Int32.reduceMul, Int32.reduceToNatClampNeg, Nat.reduceLeDiff, Nat.reduceLT, List.set_cons_zero, List.set_cons_succ, List.length_set, en_at, en_uu, en_gd, ih, e0, e1, h1, p1, e6, e7, as_addm1]
set_option maxRecDepth 100000 in
theorem ct_120_o20 {X : List Int32} {I : Nat → Nat → Int32} {L : Nat → List Int64} {V : Nat → List Value} {W : Value} {Q : am_Mem} {g us them : Nat} (hg : g ≤ 25) (ht : them ≤ g) : ∀ (n : Nat) (A : Nat → List Int32) (z : Option Value), us + n ≤ g → (A 30).length = 6 → (A 31).length = 156 → (A 32).length = 156 → am_go X 120 78 [some (.ref 29), some (.ref 20), some (.int (Int32.ofNat us)), some (.int (Int32.ofNat them)), some (.int (Int32.ofNat g)), some (.int (Int32.ofNat (us + n) - 1)), z] [] (en_E I A L V W Q) = some (none, en_E I (en_u (en_u A 31 (md_ou (I 20 6) (A 30) them (g - them) n (A 31) (A 32)).1) 32 (md_ou (I 20 6) (A 30) them (g - them) n (A 31) (A 32)).2) L V W Q)
  | 0, A, z, h, h30, h31, h32 => by
    have e1 := as_m1lt (show us < 2147483648 by omega)
    simp only [q120_78, q120_80, q120_81, q120_84, q120_86, q120_89, q120_91, q120_92, q120_93, q120_95, q120_97, q120_98, q120_101, q120_103, q120_106, q120_107, q120_109, q120_111, q120_112, q120_112n, q120_113, q120_116, q120_119, q120_122, q120_125, q120_128, q120_131, en_c29, en_f29_0, en_f29_1, en_f29_2, en_a30, en_l30, en_s30, en_a31, en_l31, en_s31, en_a32, en_l32, en_s32, en_c20, en_f20_0, en_f20_1, en_f20_2, en_p20_2, en_f20_3, en_p20_3, en_f20_4, en_p20_4, en_f20_5, en_p20_5, en_f20_6, en_p20_6, en_f20_7, en_p20_7, en_f20_8, en_p20_8, en_f20_9, en_p20_9, en_f20_10, en_p20_10, en_f20_11, en_p20_11, en_f20_12, en_p20_12, en_f20_13, en_p20_13, en_f20_14, en_p20_14, as_10, as_01, Nat.reduceBEq, Nat.reduceEqDiff, ↓reduceIte, Option.bind_some, Option.getD_some, Option.isSome_some, Option.isSome_none, Bool.false_eq_true, Option.toList, List.nil_append, List.cons_append, List.lookup, Option.isSome, List.getElem?_cons_zero, List.getElem?_cons_succ, beq_self_eq_true, if_true, true_or, or_true, or_false, false_or, am_kl, true_and, and_true, and_false, false_and, if_false, not_true_eq_false, not_false_eq_true, as_b0, as_b1, as_em, as_ne, List.length_cons, List.length_nil, Nat.reduceAdd, Int32.reduceLT, Int32.reduceLE, Int32.reduceAdd, Int32.reduceSub, Int32.neg_neg, Int32.reduceMul, Int32.reduceToNatClampNeg, Nat.reduceLeDiff, Nat.reduceLT, List.set_cons_zero, List.set_cons_succ, List.length_set, en_at, en_uu, en_gd, Nat.add_zero, e1]
    rw [en_ix (f := en_u A 31 _) (k := 32) (by rw [en_at, if_neg (by decide)]; rfl), md_ou, en_id]
  | n + 1, A, z, h, h30, h31, h32 => by
    have e0 : Int32.ofNat (us + (n + 1)) - 1 = Int32.ofNat (us + n) := as_pred
    have e1 := as_lt (show us + n < 2147483648 by omega) (show us < 2147483648 by omega)
    have h1 : ¬ us + n < us := by omega
    have p1 := as_pos (show us + n < 2147483648 by omega)
    have e7 := ct_120_n20 (X := X) (I := I) (L := L) (V := V) (W := W) (Q := Q) (us := Int32.ofNat us) (ours := Int32.ofNat (us + n)) hg ht (g - them) A (by omega) h30 h31 h32
    rw [show them + (g - them) = g by omega] at e7
    obtain ⟨q1, q2⟩ := md_in_len (br := I 20 6) (S := A 30) (them := them) (g - them) (A 31) (A 32)
    have ih := fun z => ct_120_o20 (X := X) (I := I) (L := L) (V := V) (W := W) (Q := Q) (us := us) hg ht n (en_u (en_u A 31 (md_in (I 20 6) (A 30) them (g - them) (A 31) (A 32)).1) 32 (md_in (I 20 6) (A 30) them (g - them) (A 31) (A 32)).2) z (by omega) (by rw [en_at, if_neg (by decide), en_at, if_neg (by decide)]; exact h30) (by rw [en_at, if_neg (by decide), en_at, if_pos rfl, q1]; exact h31) (by rw [en_at, if_pos rfl, q2]; exact h32)
    rw [md_ou]
    simp only [en_at, ↓reduceIte, Nat.reduceEqDiff, en_uku, en_uu] at ih
    simp only [q120_78, q120_80, q120_81, q120_84, q120_86, q120_89, q120_91, q120_92, q120_93, q120_125, q120_128, q120_131, en_c29, en_f29_0, en_f29_1, en_f29_2, en_a30, en_l30, en_s30, en_a31, en_l31, en_s31, en_a32, en_l32, en_s32, en_c20, en_f20_0, en_f20_1, en_f20_2, en_p20_2, en_f20_3, en_p20_3, en_f20_4, en_p20_4, en_f20_5, en_p20_5, en_f20_6, en_p20_6, en_f20_7, en_p20_7, en_f20_8, en_p20_8, en_f20_9, en_p20_9, en_f20_10, en_p20_10, en_f20_11, en_p20_11, en_f20_12, en_p20_12, en_f20_13, en_p20_13, en_f20_14, en_p20_14, as_10, as_01, Nat.reduceBEq, Nat.reduceEqDiff, ↓reduceIte, Option.bind_some, Option.getD_some, Option.isSome_some, Option.isSome_none, Bool.false_eq_true, Option.toList, List.nil_append, List.cons_append, List.lookup, Option.isSome, List.getElem?_cons_zero, List.getElem?_cons_succ, beq_self_eq_true, if_true, true_or, or_true, or_false, false_or, am_kl, true_and, and_true, and_false, false_and, if_false, not_true_eq_false, not_false_eq_true, as_b0, as_b1, as_em, as_ne, List.length_cons, List.length_nil, Nat.reduceAdd, Int32.reduceLT, Int32.reduceLE, Int32.reduceAdd, Int32.reduceSub, Int32.neg_neg, Int32.reduceMul, Int32.reduceToNatClampNeg, Nat.reduceLeDiff, Nat.reduceLT, List.set_cons_zero, List.set_cons_succ, List.length_set, en_at, en_uu, en_gd, ih, e0, e1, h1, p1, e7, as_addm1]
set_option maxRecDepth 100000 in
theorem ct_120_20 {X : List Int32} {I : Nat → Nat → Int32} {A : Nat → List Int32} {L : Nat → List Int64} {V : Nat → List Value} {W : Value} {Q : am_Mem} {g us them : Nat} (hgl : I 20 7 = Int32.ofNat g) (hg : g ≤ 25) (hu : us ≤ g) (ht : them ≤ g) (h30 : (A 30).length = 6) (h31 : (A 31).length = 156) (h32 : (A 32).length = 156) :
    am_mt X 120 [.ref 29, .ref 20, .int (Int32.ofNat us), .int (Int32.ofNat them)] (en_E I A L V W Q) = some (none, en_E I (en_u (en_u A 31 (md_ou (I 20 6) (A 30) them (g - them) (g - us) (md_ri g 156 0 (A 31)) (md_ri g 156 0 (A 32))).1) 32 (md_ou (I 20 6) (A 30) them (g - them) (g - us) (md_ri g 156 0 (A 31)) (md_ri g 156 0 (A 32))).2) L V W Q) := by
  rw [as_mt (n := 7) (by decide +kernel), show am_ent 7 [.ref 29, .ref 20, .int (Int32.ofNat us), .int (Int32.ofNat them)] = [some (.ref 29), some (.ref 20), some (.int (Int32.ofNat us)), some (.int (Int32.ofNat them)), none, none, none] from rfl]
  have e1 := ct_120_i (X := X) (I := I) (L := L) (V := V) (W := W) (Q := Q) (t := 20) (us := Int32.ofNat us) (them := Int32.ofNat them) (z := none) hg 156 0 A (by omega) h30 h31 h32
  have e2 := ct_120_o20 (X := X) (I := I) (L := L) (V := V) (W := W) (Q := Q) (g := g) (us := us) (them := them) hg ht (g - us) (en_u (en_u A 31 (md_ri g 156 0 (A 31))) 32 (md_ri g 156 0 (A 32))) none (by omega) (by rw [en_at, if_neg (by decide), en_at, if_neg (by decide)]; exact h30) (by rw [en_at, if_neg (by decide), en_at, if_pos rfl, md_ri_len]; exact h31) (by rw [en_at, if_pos rfl, md_ri_len]; exact h32)
  rw [show us + (g - us) = g by omega] at e2
  rw [show Int32.ofNat 0 = 0 from rfl] at e1
  simp only [en_at, ↓reduceIte, Nat.reduceEqDiff, en_uku, en_uu] at e2
  simp only [q120_0, q120_0n, q120_1, q120_4, q120_6, q120_7, q120_72, q120_74, q120_75, q120_76, en_c29, en_f29_0, en_f29_1, en_f29_2, en_a30, en_l30, en_s30, en_a31, en_l31, en_s31, en_a32, en_l32, en_s32, en_c20, en_f20_0, en_f20_1, en_f20_2, en_p20_2, en_f20_3, en_p20_3, en_f20_4, en_p20_4, en_f20_5, en_p20_5, en_f20_6, en_p20_6, en_f20_7, en_p20_7, en_f20_8, en_p20_8, en_f20_9, en_p20_9, en_f20_10, en_p20_10, en_f20_11, en_p20_11, en_f20_12, en_p20_12, en_f20_13, en_p20_13, en_f20_14, en_p20_14, as_10, as_01, Nat.reduceBEq, Nat.reduceEqDiff, ↓reduceIte, Option.bind_some, Option.getD_some, Option.isSome_some, Option.isSome_none, Bool.false_eq_true, Option.toList, List.nil_append, List.cons_append, List.lookup, Option.isSome, List.getElem?_cons_zero, List.getElem?_cons_succ, beq_self_eq_true, if_true, true_or, or_true, or_false, false_or, am_kl, true_and, and_true, and_false, false_and, if_false, not_true_eq_false, not_false_eq_true, as_b0, as_b1, as_em, as_ne, List.length_cons, List.length_nil, Nat.reduceAdd, Int32.reduceLT, Int32.reduceLE, Int32.reduceAdd, Int32.reduceSub, Int32.neg_neg, Int32.reduceMul, Int32.reduceToNatClampNeg, Nat.reduceLeDiff, Nat.reduceLT, List.set_cons_zero, List.set_cons_succ, List.length_set, en_at, en_uu, en_gd, hgl, e1, e2, Int32.reduceOfNat]

set_option maxRecDepth 100000 in
theorem ct_120_n26 {X : List Int32} {I : Nat → Nat → Int32} {L : Nat → List Int64} {V : Nat → List Value} {W : Value} {Q : am_Mem} {g them : Nat} {us ours : Int32} (hg : g ≤ 25) (ht : them ≤ g) : ∀ (n : Nat) (A : Nat → List Int32), them + n ≤ g → (A 30).length = 6 → (A 31).length = 156 → (A 32).length = 156 → am_go X 120 95 [some (.ref 29), some (.ref 26), some (.int us), some (.int (Int32.ofNat them)), some (.int (Int32.ofNat g)), some (.int ours), some (.int (Int32.ofNat (them + n) - 1))] [] (en_E I A L V W Q) = am_go X 120 125 [some (.ref 29), some (.ref 26), some (.int us), some (.int (Int32.ofNat them)), some (.int (Int32.ofNat g)), some (.int ours), some (.int (Int32.ofNat them - 1))] [] (en_E I (en_u (en_u A 31 (md_in (I 26 6) (A 30) them n (A 31) (A 32)).1) 32 (md_in (I 26 6) (A 30) them n (A 31) (A 32)).2) L V W Q)
  | 0, A, h, h30, h31, h32 => by
    have e1 := as_m1lt (show them < 2147483648 by omega)
    simp only [q120_95, q120_97, q120_98, q120_101, q120_103, q120_106, q120_107, q120_109, q120_111, q120_112, q120_112n, q120_113, q120_116, q120_119, q120_122, en_c29, en_f29_0, en_f29_1, en_f29_2, en_a30, en_l30, en_s30, en_a31, en_l31, en_s31, en_a32, en_l32, en_s32, en_c26, en_f26_0, en_f26_1, en_f26_2, en_p26_2, en_f26_3, en_p26_3, en_f26_4, en_p26_4, en_f26_5, en_p26_5, en_f26_6, en_p26_6, en_f26_7, en_p26_7, en_f26_8, en_p26_8, en_f26_9, en_p26_9, en_f26_10, en_p26_10, en_f26_11, en_p26_11, en_f26_12, en_p26_12, en_f26_13, en_p26_13, en_f26_14, en_p26_14, as_10, as_01, Nat.reduceBEq, Nat.reduceEqDiff, ↓reduceIte, Option.bind_some, Option.getD_some, Option.isSome_some, Option.isSome_none, Bool.false_eq_true, Option.toList, List.nil_append, List.cons_append, List.lookup, Option.isSome, List.getElem?_cons_zero, List.getElem?_cons_succ, beq_self_eq_true, if_true, true_or, or_true, or_false, false_or, am_kl, true_and, and_true, and_false, false_and, if_false, not_true_eq_false, not_false_eq_true, as_b0, as_b1, as_em, as_ne, List.length_cons, List.length_nil, Nat.reduceAdd, Int32.reduceLT, Int32.reduceLE, Int32.reduceAdd, Int32.reduceSub, Int32.neg_neg, Int32.reduceMul, Int32.reduceToNatClampNeg, Nat.reduceLeDiff, Nat.reduceLT, List.set_cons_zero, List.set_cons_succ, List.length_set, en_at, en_uu, en_gd, Nat.add_zero, e1]
    rw [en_ix (f := en_u A 31 _) (k := 32) (by rw [en_at, if_neg (by decide)]; rfl), md_in, en_id]
  | n + 1, A, h, h30, h31, h32 => by
    have e0 : Int32.ofNat (them + (n + 1)) - 1 = Int32.ofNat (them + n) := as_pred
    have e1 := as_lt (show them + n < 2147483648 by omega) (show them < 2147483648 by omega)
    have h1 : ¬ them + n < them := by omega
    have p1 := as_pos (show them + n < 2147483648 by omega)
    have e6 : Int32.ofNat (them + n) * 6 = Int32.ofNat ((them + n) * 6) := as_mul (b := 6)
    have e7 := ct_121 (X := X) (I := I) (L := L) (V := V) (W := W) (Q := Q) (f := (them + n) * 6) (br := I 26 6) (by omega) h30 h31 h32
    have ih := ct_120_n26 (X := X) (I := I) (L := L) (V := V) (W := W) (Q := Q) (us := us) (ours := ours) hg ht n (en_u (en_u A 31 (md_r2 (I 26 6) (md_r1 (A 30) (A 31) ((them + n) * 6) 6 0 (A 32)) ((them + n) * 6) 6 0 (A 31))) 32 (md_r1 (A 30) (A 31) ((them + n) * 6) 6 0 (A 32))) (by omega) (by rw [en_at, if_neg (by decide), en_at, if_neg (by decide)]; exact h30) (by rw [en_at, if_neg (by decide), en_at, if_pos rfl, md_r2_len]; exact h31) (by rw [en_at, if_pos rfl, md_r1_len]; exact h32)
    rw [md_in]
    simp only [en_at, ↓reduceIte, Nat.reduceEqDiff, en_uku, en_uu] at ih
    simp only [q120_95, q120_97, q120_98, q120_101, q120_103, q120_106, q120_107, q120_109, q120_111, q120_112, q120_112n, q120_113, q120_116, q120_119, q120_122, en_c29, en_f29_0, en_f29_1, en_f29_2, en_a30, en_l30, en_s30, en_a31, en_l31, en_s31, en_a32, en_l32, en_s32, en_c26, en_f26_0, en_f26_1, en_f26_2, en_p26_2, en_f26_3, en_p26_3, en_f26_4, en_p26_4, en_f26_5, en_p26_5, en_f26_6, en_p26_6, en_f26_7, en_p26_7, en_f26_8, en_p26_8, en_f26_9, en_p26_9, en_f26_10, en_p26_10, en_f26_11, en_p26_11, en_f26_12, en_p26_12, en_f26_13, en_p26_13, en_f26_14, en_p26_14, as_10, as_01, Nat.reduceBEq, Nat.reduceEqDiff, ↓reduceIte, Option.bind_some, Option.getD_some, Option.isSome_some, Option.isSome_none, Bool.false_eq_true, Option.toList, List.nil_append, List.cons_append, List.lookup, Option.isSome, List.getElem?_cons_zero, List.getElem?_cons_succ, beq_self_eq_true, if_true, true_or, or_true, or_false, false_or, am_kl, true_and, and_true, and_false, false_and, if_false, not_true_eq_false, not_false_eq_true, as_b0, as_b1, as_em, as_ne, List.length_cons, List.length_nil, Nat.reduceAdd, Int32.reduceLT, Int32.reduceLE, Int32.reduceAdd, Int32.reduceSub, Int32.neg_neg, Int32.reduceMul, Int32.reduceToNatClampNeg, Nat.reduceLeDiff, Nat.reduceLT, List.set_cons_zero, List.set_cons_succ, List.length_set, en_at, en_uu, en_gd, ih, e0, e1, h1, p1, e6, e7, as_addm1]
set_option maxRecDepth 100000 in
theorem ct_120_o26 {X : List Int32} {I : Nat → Nat → Int32} {L : Nat → List Int64} {V : Nat → List Value} {W : Value} {Q : am_Mem} {g us them : Nat} (hg : g ≤ 25) (ht : them ≤ g) : ∀ (n : Nat) (A : Nat → List Int32) (z : Option Value), us + n ≤ g → (A 30).length = 6 → (A 31).length = 156 → (A 32).length = 156 → am_go X 120 78 [some (.ref 29), some (.ref 26), some (.int (Int32.ofNat us)), some (.int (Int32.ofNat them)), some (.int (Int32.ofNat g)), some (.int (Int32.ofNat (us + n) - 1)), z] [] (en_E I A L V W Q) = some (none, en_E I (en_u (en_u A 31 (md_ou (I 26 6) (A 30) them (g - them) n (A 31) (A 32)).1) 32 (md_ou (I 26 6) (A 30) them (g - them) n (A 31) (A 32)).2) L V W Q)
  | 0, A, z, h, h30, h31, h32 => by
    have e1 := as_m1lt (show us < 2147483648 by omega)
    simp only [q120_78, q120_80, q120_81, q120_84, q120_86, q120_89, q120_91, q120_92, q120_93, q120_95, q120_97, q120_98, q120_101, q120_103, q120_106, q120_107, q120_109, q120_111, q120_112, q120_112n, q120_113, q120_116, q120_119, q120_122, q120_125, q120_128, q120_131, en_c29, en_f29_0, en_f29_1, en_f29_2, en_a30, en_l30, en_s30, en_a31, en_l31, en_s31, en_a32, en_l32, en_s32, en_c26, en_f26_0, en_f26_1, en_f26_2, en_p26_2, en_f26_3, en_p26_3, en_f26_4, en_p26_4, en_f26_5, en_p26_5, en_f26_6, en_p26_6, en_f26_7, en_p26_7, en_f26_8, en_p26_8, en_f26_9, en_p26_9, en_f26_10, en_p26_10, en_f26_11, en_p26_11, en_f26_12, en_p26_12, en_f26_13, en_p26_13, en_f26_14, en_p26_14, as_10, as_01, Nat.reduceBEq, Nat.reduceEqDiff, ↓reduceIte, Option.bind_some, Option.getD_some, Option.isSome_some, Option.isSome_none, Bool.false_eq_true, Option.toList, List.nil_append, List.cons_append, List.lookup, Option.isSome, List.getElem?_cons_zero, List.getElem?_cons_succ, beq_self_eq_true, if_true, true_or, or_true, or_false, false_or, am_kl, true_and, and_true, and_false, false_and, if_false, not_true_eq_false, not_false_eq_true, as_b0, as_b1, as_em, as_ne, List.length_cons, List.length_nil, Nat.reduceAdd, Int32.reduceLT, Int32.reduceLE, Int32.reduceAdd, Int32.reduceSub, Int32.neg_neg, Int32.reduceMul, Int32.reduceToNatClampNeg, Nat.reduceLeDiff, Nat.reduceLT, List.set_cons_zero, List.set_cons_succ, List.length_set, en_at, en_uu, en_gd, Nat.add_zero, e1]
    rw [en_ix (f := en_u A 31 _) (k := 32) (by rw [en_at, if_neg (by decide)]; rfl), md_ou, en_id]
  | n + 1, A, z, h, h30, h31, h32 => by
    have e0 : Int32.ofNat (us + (n + 1)) - 1 = Int32.ofNat (us + n) := as_pred
    have e1 := as_lt (show us + n < 2147483648 by omega) (show us < 2147483648 by omega)
    have h1 : ¬ us + n < us := by omega
    have p1 := as_pos (show us + n < 2147483648 by omega)
    have e7 := ct_120_n26 (X := X) (I := I) (L := L) (V := V) (W := W) (Q := Q) (us := Int32.ofNat us) (ours := Int32.ofNat (us + n)) hg ht (g - them) A (by omega) h30 h31 h32
    rw [show them + (g - them) = g by omega] at e7
    obtain ⟨q1, q2⟩ := md_in_len (br := I 26 6) (S := A 30) (them := them) (g - them) (A 31) (A 32)
    have ih := fun z => ct_120_o26 (X := X) (I := I) (L := L) (V := V) (W := W) (Q := Q) (us := us) hg ht n (en_u (en_u A 31 (md_in (I 26 6) (A 30) them (g - them) (A 31) (A 32)).1) 32 (md_in (I 26 6) (A 30) them (g - them) (A 31) (A 32)).2) z (by omega) (by rw [en_at, if_neg (by decide), en_at, if_neg (by decide)]; exact h30) (by rw [en_at, if_neg (by decide), en_at, if_pos rfl, q1]; exact h31) (by rw [en_at, if_pos rfl, q2]; exact h32)
    rw [md_ou]
    simp only [en_at, ↓reduceIte, Nat.reduceEqDiff, en_uku, en_uu] at ih
    simp only [q120_78, q120_80, q120_81, q120_84, q120_86, q120_89, q120_91, q120_92, q120_93, q120_125, q120_128, q120_131, en_c29, en_f29_0, en_f29_1, en_f29_2, en_a30, en_l30, en_s30, en_a31, en_l31, en_s31, en_a32, en_l32, en_s32, en_c26, en_f26_0, en_f26_1, en_f26_2, en_p26_2, en_f26_3, en_p26_3, en_f26_4, en_p26_4, en_f26_5, en_p26_5, en_f26_6, en_p26_6, en_f26_7, en_p26_7, en_f26_8, en_p26_8, en_f26_9, en_p26_9, en_f26_10, en_p26_10, en_f26_11, en_p26_11, en_f26_12, en_p26_12, en_f26_13, en_p26_13, en_f26_14, en_p26_14, as_10, as_01, Nat.reduceBEq, Nat.reduceEqDiff, ↓reduceIte, Option.bind_some, Option.getD_some, Option.isSome_some, Option.isSome_none, Bool.false_eq_true, Option.toList, List.nil_append, List.cons_append, List.lookup, Option.isSome, List.getElem?_cons_zero, List.getElem?_cons_succ, beq_self_eq_true, if_true, true_or, or_true, or_false, false_or, am_kl, true_and, and_true, and_false, false_and, if_false, not_true_eq_false, not_false_eq_true, as_b0, as_b1, as_em, as_ne, List.length_cons, List.length_nil, Nat.reduceAdd, Int32.reduceLT, Int32.reduceLE, Int32.reduceAdd, Int32.reduceSub, Int32.neg_neg, Int32.reduceMul, Int32.reduceToNatClampNeg, Nat.reduceLeDiff, Nat.reduceLT, List.set_cons_zero, List.set_cons_succ, List.length_set, en_at, en_uu, en_gd, ih, e0, e1, h1, p1, e7, as_addm1]
set_option maxRecDepth 100000 in
theorem ct_120_26 {X : List Int32} {I : Nat → Nat → Int32} {A : Nat → List Int32} {L : Nat → List Int64} {V : Nat → List Value} {W : Value} {Q : am_Mem} {g us them : Nat} (hgl : I 26 7 = Int32.ofNat g) (hg : g ≤ 25) (hu : us ≤ g) (ht : them ≤ g) (h30 : (A 30).length = 6) (h31 : (A 31).length = 156) (h32 : (A 32).length = 156) :
    am_mt X 120 [.ref 29, .ref 26, .int (Int32.ofNat us), .int (Int32.ofNat them)] (en_E I A L V W Q) = some (none, en_E I (en_u (en_u A 31 (md_ou (I 26 6) (A 30) them (g - them) (g - us) (md_ri g 156 0 (A 31)) (md_ri g 156 0 (A 32))).1) 32 (md_ou (I 26 6) (A 30) them (g - them) (g - us) (md_ri g 156 0 (A 31)) (md_ri g 156 0 (A 32))).2) L V W Q) := by
  rw [as_mt (n := 7) (by decide +kernel), show am_ent 7 [.ref 29, .ref 26, .int (Int32.ofNat us), .int (Int32.ofNat them)] = [some (.ref 29), some (.ref 26), some (.int (Int32.ofNat us)), some (.int (Int32.ofNat them)), none, none, none] from rfl]
  have e1 := ct_120_i (X := X) (I := I) (L := L) (V := V) (W := W) (Q := Q) (t := 26) (us := Int32.ofNat us) (them := Int32.ofNat them) (z := none) hg 156 0 A (by omega) h30 h31 h32
  have e2 := ct_120_o26 (X := X) (I := I) (L := L) (V := V) (W := W) (Q := Q) (g := g) (us := us) (them := them) hg ht (g - us) (en_u (en_u A 31 (md_ri g 156 0 (A 31))) 32 (md_ri g 156 0 (A 32))) none (by omega) (by rw [en_at, if_neg (by decide), en_at, if_neg (by decide)]; exact h30) (by rw [en_at, if_neg (by decide), en_at, if_pos rfl, md_ri_len]; exact h31) (by rw [en_at, if_pos rfl, md_ri_len]; exact h32)
  rw [show us + (g - us) = g by omega] at e2
  rw [show Int32.ofNat 0 = 0 from rfl] at e1
  simp only [en_at, ↓reduceIte, Nat.reduceEqDiff, en_uku, en_uu] at e2
  simp only [q120_0, q120_0n, q120_1, q120_4, q120_6, q120_7, q120_72, q120_74, q120_75, q120_76, en_c29, en_f29_0, en_f29_1, en_f29_2, en_a30, en_l30, en_s30, en_a31, en_l31, en_s31, en_a32, en_l32, en_s32, en_c26, en_f26_0, en_f26_1, en_f26_2, en_p26_2, en_f26_3, en_p26_3, en_f26_4, en_p26_4, en_f26_5, en_p26_5, en_f26_6, en_p26_6, en_f26_7, en_p26_7, en_f26_8, en_p26_8, en_f26_9, en_p26_9, en_f26_10, en_p26_10, en_f26_11, en_p26_11, en_f26_12, en_p26_12, en_f26_13, en_p26_13, en_f26_14, en_p26_14, as_10, as_01, Nat.reduceBEq, Nat.reduceEqDiff, ↓reduceIte, Option.bind_some, Option.getD_some, Option.isSome_some, Option.isSome_none, Bool.false_eq_true, Option.toList, List.nil_append, List.cons_append, List.lookup, Option.isSome, List.getElem?_cons_zero, List.getElem?_cons_succ, beq_self_eq_true, if_true, true_or, or_true, or_false, false_or, am_kl, true_and, and_true, and_false, false_and, if_false, not_true_eq_false, not_false_eq_true, as_b0, as_b1, as_em, as_ne, List.length_cons, List.length_nil, Nat.reduceAdd, Int32.reduceLT, Int32.reduceLE, Int32.reduceAdd, Int32.reduceSub, Int32.neg_neg, Int32.reduceMul, Int32.reduceToNatClampNeg, Nat.reduceLeDiff, Nat.reduceLT, List.set_cons_zero, List.set_cons_succ, List.length_set, en_at, en_uu, en_gd, hgl, e1, e2, Int32.reduceOfNat]

