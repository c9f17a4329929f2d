theorem as_64 {n : Nat} (h : n < 2147483648) : (Int32.ofNat n).toInt64 = Int64.ofNat n := Int32.toInt64_ofNat' (by
  have : Int32.maxValue.toInt = 2147483647 := by decide
  omega)
theorem md_mean_nat {p w l : Nat} (hp : p ≤ 1000) (hw : w ≤ 1000000) (hl : l ≤ 1000000) : md_mean (Int32.ofNat p) (Int32.ofNat w) (Int32.ofNat l) = Int32.ofNat ((p * w + (1000 - p) * l) / 1000) ∧ (p * w + (1000 - p) * l) / 1000 ≤ 1000000 := by
  have h1 : p * w ≤ p * 1000000 := Nat.mul_le_mul_left p hw
  have h2 : (1000 - p) * l ≤ (1000 - p) * 1000000 := Nat.mul_le_mul_left _ hl
  have h3 : p * w + (1000 - p) * l ≤ 1000 * 1000000 := by
    have : p * 1000000 + (1000 - p) * 1000000 = 1000 * 1000000 := by rw [← Nat.add_mul]; congr 1; omega
    omega
  refine ⟨?_, by omega⟩
  unfold md_mean
  rw [show (1000 : Int32) = Int32.ofNat 1000 from rfl, as_sub hp, as_mul, as_mul, as_add, Int32.ofNat_div (by omega) (by omega)]
theorem md_meanL {p w l : Nat} (hp : p ≤ 1000) (hw : w ≤ 1000000) (hl : l ≤ 1000000) : (((Int32.ofNat p).toInt64 * (Int32.ofNat w).toInt64 + (1000 - Int32.ofNat p).toInt64 * (Int32.ofNat l).toInt64) / 1000).toInt32 = md_mean (Int32.ofNat p) (Int32.ofNat w) (Int32.ofNat l) := by
  have h1 : p * w ≤ p * 1000000 := Nat.mul_le_mul_left p hw
  have h2 : (1000 - p) * l ≤ (1000 - p) * 1000000 := Nat.mul_le_mul_left _ hl
  have h3 : p * w + (1000 - p) * l ≤ 1000 * 1000000 := by
    have : p * 1000000 + (1000 - p) * 1000000 = 1000 * 1000000 := by rw [← Nat.add_mul]; congr 1; omega
    omega
  rw [(md_mean_nat hp hw hl).1, show (1000 : Int32) = Int32.ofNat 1000 from rfl, as_sub hp, as_64 (by omega), as_64 (by omega), as_64 (by omega), as_64 (by omega), ← Int64.ofNat_mul, ← Int64.ofNat_mul, ← Int64.ofNat_add, show (1000 : Int64) = Int64.ofNat 1000 from rfl, ← Int64.ofNat_div (by omega) (by omega), Int64.toInt32_ofNat']
theorem md_ch_nat {br : Int32} {ps : Nat → Int32} (hb : ∃ n, n ≤ 1000 ∧ br = Int32.ofNat n) (hs : ∀ t, ∃ n, n ≤ 1000 ∧ ps t = Int32.ofNat n) : ∀ (i j who t : Nat), ∃ n, n ≤ 1000000 ∧ md_ch br ps i j who t = Int32.ofNat n
  | 0, j, who, t => ⟨1000000, Nat.le_refl _, rfl⟩
  | i + 1, j, who, t => by
    have h := md_ch_nat hb hs i
    have : ∀ (j who t : Nat), ∃ n, n ≤ 1000000 ∧ md_cr br ps (md_ch br ps i) j who t = Int32.ofNat n := by
      intro j
      induction j with
      | zero => intro who t; exact ⟨0, by omega, rfl⟩
      | succ j ih =>
        intro who t
        rw [md_cr]
        obtain ⟨l, hl, el⟩ := ih 1 t
        split
        · obtain ⟨w, hw, ew⟩ := h (j + 1) 0 t
          obtain ⟨p, hp, rfl⟩ := hb
          rw [ew, el, (md_mean_nat hp hw hl).1]
          exact ⟨_, (md_mean_nat hp hw hl).2, rfl⟩
        · obtain ⟨w, hw, ew⟩ := h (j + 1) 0 (if t = 5 then 0 else t + 1)
          obtain ⟨p, hp, ep⟩ := hs t
          rw [ew, el, ep, (md_mean_nat hp hw hl).1]
          exact ⟨_, (md_mean_nat hp hw hl).2, rfl⟩
    exact this j who t
theorem md_sk_nat {c n : Nat} (hc : md_pc c) (hn : n < 10) : ∃ b, b ≤ 100 ∧ md_sk c (Int32.ofNat n) = Int32.ofNat b := by
  have h1 : ∀ x y : Nat, Int32.ofNat x + Int32.ofNat y * Int32.ofNat n = Int32.ofNat (x + y * n) := fun x y => by rw [as_mul, as_add]
  have h2 : ∀ x : Nat, Int32.ofNat x + Int32.ofNat n = Int32.ofNat (x + n) := fun x => as_add
  rcases hc with rfl | rfl | rfl | rfl | rfl | rfl | rfl
  · exact ⟨60 + 4 * n, by omega, h1 60 4⟩
  · exact ⟨40 + 2 * n, by omega, h1 40 2⟩
  · exact ⟨40 + 2 * n, by omega, h1 40 2⟩
  · exact ⟨30 + n, by omega, h2 30⟩
  · exact ⟨50 + 3 * n, by omega, h1 50 3⟩
  · exact ⟨30 + n, by omega, h2 30⟩
  · exact ⟨25 + n, by omega, h2 25⟩
theorem md_good_nat {pd : List (Nat × Int32)} (x : Int32) {f : Nat} (hp : md_PR pd) (hf : f ≤ 9) : ∃ b, b ≤ 100 ∧ md_good pd x (Int32.ofNat f) = Int32.ofNat b := by
  unfold md_good md_q
  by_cases h0 : x < 0
  · rw [if_pos h0]; exact ⟨0, by omega, rfl⟩
  · rw [if_neg h0]
    cases h : pd[x.toNatClampNeg]? with
    | none => exact ⟨0, by omega, rfl⟩
    | some q =>
      obtain ⟨hc, n, hn, ha⟩ := hp q (List.mem_of_getElem? h)
      obtain ⟨b, hb, he⟩ := md_sk_nat hc hn
      obtain ⟨c, a⟩ := q
      dsimp only at ha he ⊢
      rw [ha, he, show (5 : Int32) = Int32.ofNat 5 from rfl, as_mul]
      rw [md_s1 (by omega) (by omega)]
      exact ⟨b - 5 * f, by omega, rfl⟩
theorem md_val_nat {pd : List (Nat × Int32)} {fl : List Int32} (g : Int32) (u : Nat) {B : Nat} (hp : md_PR pd) (hB : B ≤ 60) : ∃ m, m ≤ 730 ∧ md_val pd fl g u (Int32.ofNat B) = Int32.ofNat m := by
  obtain ⟨x, y, z, m, hx, hy, hz, -, -, -, -, hv, h3, h4⟩ := md_val_spec (fl := fl) g u hp hB
  refine ⟨m, ?_, hv⟩
  apply Classical.byContradiction
  intro hc
  have := h4 730 (by omega)
  unfold md_sN at this
  omega
theorem md_side_nat {pd : List (Nat × Int32)} {fl : List Int32} {B p f : Nat} (u : Nat) (hp : md_PR pd) (hB : B ≤ 60) (hf : f ≤ 9) : ∃ n, n ≤ 1000 ∧ md_side pd fl (Int32.ofNat B) p (Int32.ofNat f) u = Int32.ofNat n := by
  unfold md_side
  obtain ⟨g, hg, eg⟩ := md_good_nat (fl.getD ((p + 6 - u) % 6) (-1)) hp hf
  obtain ⟨v1, h1, e1⟩ := md_val_nat (fl := fl) 1 u hp hB
  obtain ⟨v0, h0, e0⟩ := md_val_nat (fl := fl) 0 u hp hB
  rw [eg, e1, e0]
  have a1 : g * v1 ≤ g * 730 := Nat.mul_le_mul_left _ h1
  have a2 : (100 - g) * v0 ≤ (100 - g) * 730 := Nat.mul_le_mul_left _ h0
  have a3 : g * v1 + (100 - g) * v0 ≤ 73000 := by
    have : g * 730 + (100 - g) * 730 = 100 * 730 := by rw [← Nat.add_mul]; congr 1; omega
    omega
  have a4 : (100 - 3 * f) * (g * v1 + (100 - g) * v0) ≤ (100 - 3 * f) * 73000 := Nat.mul_le_mul_left _ a3
  rw [show (30 : Int32) = Int32.ofNat 30 from rfl, show (100 : Int32) = Int32.ofNat 100 from rfl, show (3 : Int32) = Int32.ofNat 3 from rfl, show (10000 : Int32) = Int32.ofNat 10000 from rfl, as_mul, as_mul, as_sub (by omega), as_sub (by omega), as_mul, as_mul, as_add, as_mul, ← Int32.ofNat_div (by omega) (by omega), as_add]
  exact ⟨_, by omega, rfl⟩
def md_rt (fl : List Int32) (u : Nat) : List Int32 := (List.range 6).map (fun p => fl.getD ((p + 6 - u) % 6) (-1))
theorem md_rt_len {fl : List Int32} {u : Nat} : (md_rt fl u).length = 6 := by simp [md_rt]
theorem md_rt_get {fl : List Int32} {u p : Nat} (hp : p < 6) : (md_rt fl u).getD p (-1) = fl.getD ((p + 6 - u) % 6) (-1) := by
  unfold md_rt
  rw [List.getD_eq_getElem?_getD, List.getElem?_map, List.getElem?_range hp]; rfl
theorem md_rt_0 {fl : List Int32} (h : fl.length = 6) : md_rt fl 0 = fl := by
  obtain ⟨f0, f1, f2, f3, f4, f5, rfl⟩ := md_len6 h; rfl
theorem md_rt_6 {fl : List Int32} (h : fl.length = 6) : md_rt fl 6 = fl := by
  obtain ⟨f0, f1, f2, f3, f4, f5, rfl⟩ := md_len6 h; rfl
theorem md_rt_s {fl : List Int32} {u : Nat} (h : fl.length = 6) (hu : u < 6) : md_rot (md_rt fl u) = md_rt fl (u + 1) := by
  obtain ⟨f0, f1, f2, f3, f4, f5, rfl⟩ := md_len6 h
  match u, hu with
  | 0, _ => rfl
  | 1, _ => rfl
  | 2, _ => rfl
  | 3, _ => rfl
  | 4, _ => rfl
  | 5, _ => rfl
theorem md_rt_FL {fl : List Int32} {pd : List (Nat × Int32)} {u : Nat} (h : md_FL fl pd) (hu : u ≤ 6) : md_FL (md_rt fl u) pd := by
  refine ⟨md_rt_len, fun i hi => ?_, fun i j hi hj he => ?_⟩
  · rw [md_rt_get hi]; exact h.2.1 _ (by omega)
  · rw [md_rt_get hi, md_rt_get hj] at he
    rw [md_rt_get hi]
    exact (h.2.2 _ _ (by omega) (by omega) he).imp id (fun h => by omega)
theorem md_tb_rt {pd : List (Nat × Int32)} {fl : List Int32} {g : Int32} {p u : Nat} (hp : p < 6) : md_tb pd (md_rt fl u) g p 0 = md_tb pd fl g p u := by
  unfold md_tb
  rw [md_rt_get (by omega), show ((p + 6 - 0) % 6 + 6 - u) % 6 = (p + 6 - u) % 6 by omega]
theorem md_val_rt {pd : List (Nat × Int32)} {fl : List Int32} {g B : Int32} {u : Nat} : md_val pd (md_rt fl u) g 0 B = md_val pd fl g u B := by
  unfold md_val
  rw [md_tb_rt (by decide), md_tb_rt (by decide), md_tb_rt (by decide)]
theorem md_side_rt {pd : List (Nat × Int32)} {fl : List Int32} {B f : Int32} {p u : Nat} (hp : p < 6) : md_side pd (md_rt fl u) B p f 0 = md_side pd fl B p f u := by
  unfold md_side
  rw [md_rt_get (by omega), md_val_rt, md_val_rt, show ((p + 6 - 0) % 6 + 6 - u) % 6 = (p + 6 - u) % 6 by omega]
def md_ss (F : Nat → Int32) : Nat → Nat → List Int32 → List Int32
  | 0, _, S => S
  | j + 1, i, S => md_ss F j (i + 1) (S.set i (F i))
theorem md_ss_6 {F : Nat → Int32} {S : List Int32} (h : S.length = 6) : md_ss F 6 0 S = (List.range 6).map F := by
  obtain ⟨f0, f1, f2, f3, f4, f5, rfl⟩ := md_len6 h; rfl
set_option maxRecDepth 100000 in
theorem ct_226_s {X : List Int32} {I : Nat → Nat → Int32} {L : Nat → List Int64} {V : Nat → List Value} {W : Value} {Q : am_Mem} {pd : List (Nat × Int32)} {fl : List Int32} {B wp : Nat} {u t s k : Int32} {z6 z7 z8 z9 z10 z11 z12 z13 z14 z15 : Option Value} (hb : I 36 1 = Int32.ofNat B) (hB : B ≤ 60) (hw : I 36 2 = Int32.ofNat wp) (hw6 : wp < 6) (hfl : md_FL fl pd) : ∀ (j i : Nat) (A : Nat → List Int32), i + j = 6 → md_PD A pd → A 40 = md_rt fl i → (A 54).length = 6 → am_go X 226 3 [some (.ref 36), some (.int u), some (.int t), some (.int s), some (.int k), some (.int (Int32.ofNat i)), z6, z7, z8, z9, z10, z11, z12, z13, z14, z15] [] (en_E I A L V W Q) = am_go X 226 39 [some (.ref 36), some (.int u), some (.int t), some (.int s), some (.int k), some (.int (6)), z6, z7, z8, z9, z10, z11, z12, z13, z14, z15] [] (en_E I (en_u (en_u A 40 fl) 54 (md_ss (md_side pd fl (I 36 1) wp (I 36 3)) j i (A 54))) L V W Q)
  | 0, i, A, h, hpd, h40, h54 => by
    have hi : i = 6 := by omega
    subst hi
    rw [md_rt_6 hfl.1] at h40
    simp only [q226_3, q226_5, q226_7, q226_10, q226_11, q226_14, q226_16, q226_17, q226_18, q226_21, q226_22, q226_25, q226_28, q226_29, q226_30, q226_33, q226_36, en_c36, en_f36_0, en_p36_0, en_f36_1, en_p36_1, en_f36_2, en_p36_2, en_f36_3, en_p36_3, en_f36_4, en_p36_4, en_f36_5, en_p36_5, en_f36_6, en_p36_6, en_f36_7, en_p36_7, en_f36_8, en_p36_8, en_f36_9, en_p36_9, en_f36_10, en_p36_10, en_f36_11, en_p36_11, en_f36_12, en_p36_12, en_f36_13, en_p36_13, en_f36_14, en_f36_15, en_f36_16, en_f36_17, en_f36_18, en_f36_19, en_f36_20, en_f36_21, en_f36_22, en_f36_23, en_f36_24, en_f36_25, en_f36_26, en_f36_27, en_f36_28, en_f36_29, en_p36_29, en_f36_30, en_p36_30, en_f36_31, en_p36_31, en_f36_32, en_p36_32, en_f36_33, en_p36_33, en_f36_34, en_f36_35, en_f36_36, en_f36_37, en_f36_38, en_p36_38, en_f36_39, en_f36_40, en_p36_40, en_f36_41, en_p36_41, en_a37, en_l37, en_s37, en_a38, en_l38, en_s38, en_a39, en_l39, en_s39, en_a40, en_l40, en_s40, en_a41, en_l41, en_s41, en_a42, en_l42, en_s42, en_a43, en_l43, en_s43, en_a44, en_l44, en_s44, en_a45, en_l45, en_s45, en_a46, en_l46, en_s46, en_a47, en_l47, en_a48, en_l48, en_a49, en_l49, en_a50, en_l50, en_a51, en_l51, en_s51, en_a52, en_l52, en_s52, en_a53, en_l53, en_s53, en_a54, en_l54, en_s54, en_a55, en_l55, en_s55, en_a56, en_l56, en_s56, as_10, as_01, Nat.reduceBEq, Nat.reduceEqDiff, ↓reduceIte, Option.bind_some, Option.getD_some, Option.isSome_some, Option.isSome_none, Bool.false_eq_true, Option.toList, List.nil_append, List.cons_append, List.lookup, Option.isSome, List.getElem?_cons_zero, List.getElem?_cons_succ, beq_self_eq_true, if_true, true_or, or_true, or_false, false_or, am_kl, true_and, and_true, and_false, false_and, if_false, not_true_eq_false, not_false_eq_true, as_b0, as_b1, as_em, as_ne, List.length_cons, List.length_nil, Nat.reduceAdd, Int32.reduceLT, Int32.reduceLE, Int32.reduceAdd, Int32.reduceSub, Int32.neg_neg, Int32.reduceMul, Int32.reduceToNatClampNeg, Nat.reduceLeDiff, Nat.reduceLT, List.set_cons_zero, List.set_cons_succ, List.length_set, en_at, en_uu, en_gd, Int32.reduceOfNat]
    rw [md_ss, en_ix (f := A) (k := 40) h40, en_id]
    try rfl
  | j + 1, i, A, h, hpd, h40, h54 => by
    have e1 : (Int32.ofNat i < 6) ↔ i < 6 := as_lt (show i < 2147483648 by omega) (show 6 < 2147483648 by decide)
    have h1 : i < 6 := by omega
    have h1n : ¬ 6 ≤ i := by omega
    have e5 : Int32.ofNat i + 1 = Int32.ofNat (i + 1) := as_add (b := 1)
    have ni := as_nat (show i < 2147483648 by omega)
    have pi := as_pos (show i < 2147483648 by omega)
    have a1 := ct_219 (X := X) (I := I) (A := A) (L := L) (V := V) (W := W) (Q := Q) (f := I 36 3) hpd (by rw [h40]; exact md_rt_FL hfl (by omega)) hb hB hw6
    rw [h40, md_side_rt hw6] at a1
    have a2 := ct_187 (X := X) (I := I) (A := en_u A 54 ((A 54).set i ((md_side pd fl (I 36 1) wp (I 36 3)) i))) (L := L) (V := V) (W := W) (Q := Q) (by rw [en_at, if_neg (by decide), h40]; exact md_rt_len)
    rw [en_at, if_neg (by decide), h40, md_rt_s hfl.1 h1] at a2
    have ih := ct_226_s (X := X) (L := L) (V := V) (W := W) (Q := Q) (u := u) (t := t) (s := s) (k := k) (z6 := z6) (z7 := z7) (z8 := z8) (z9 := z9) (z10 := z10) (z11 := z11) (z12 := z12) (z13 := z13) (z14 := z14) (z15 := z15) hb hB hw hw6 hfl j (i + 1) (en_u (en_u A 54 ((A 54).set i ((md_side pd fl (I 36 1) wp (I 36 3)) i))) 40 (md_rt fl (i + 1))) (by omega) (by rw [md_PDu (by decide) (by decide), md_PDu (by decide) (by decide)]; exact hpd) (by rw [en_at, if_pos rfl]) (by rw [en_at, if_neg (by decide), en_at, if_pos rfl, List.length_set]; exact h54)
    rw [md_ss]
    simp only [en_at, ↓reduceIte, Nat.reduceEqDiff, en_uku, en_uu] at ih
    simp only [q226_3, q226_5, q226_7, q226_10, q226_11, q226_14, q226_16, q226_17, q226_18, q226_21, q226_22, q226_25, q226_28, q226_29, q226_30, q226_33, q226_36, en_c36, en_f36_0, en_p36_0, en_f36_1, en_p36_1, en_f36_2, en_p36_2, en_f36_3, en_p36_3, en_f36_4, en_p36_4, en_f36_5, en_p36_5, en_f36_6, en_p36_6, en_f36_7, en_p36_7, en_f36_8, en_p36_8, en_f36_9, en_p36_9, en_f36_10, en_p36_10, en_f36_11, en_p36_11, en_f36_12, en_p36_12, en_f36_13, en_p36_13, en_f36_14, en_f36_15, en_f36_16, en_f36_17, en_f36_18, en_f36_19, en_f36_20, en_f36_21, en_f36_22, en_f36_23, en_f36_24, en_f36_25, en_f36_26, en_f36_27, en_f36_28, en_f36_29, en_p36_29, en_f36_30, en_p36_30, en_f36_31, en_p36_31, en_f36_32, en_p36_32, en_f36_33, en_p36_33, en_f36_34, en_f36_35, en_f36_36, en_f36_37, en_f36_38, en_p36_38, en_f36_39, en_f36_40, en_p36_40, en_f36_41, en_p36_41, en_a37, en_l37, en_s37, en_a38, en_l38, en_s38, en_a39, en_l39, en_s39, en_a40, en_l40, en_s40, en_a41, en_l41, en_s41, en_a42, en_l42, en_s42, en_a43, en_l43, en_s43, en_a44, en_l44, en_s44, en_a45, en_l45, en_s45, en_a46, en_l46, en_s46, en_a47, en_l47, en_a48, en_l48, en_a49, en_l49, en_a50, en_l50, en_a51, en_l51, en_s51, en_a52, en_l52, en_s52, en_a53, en_l53, en_s53, en_a54, en_l54, en_s54, en_a55, en_l55, en_s55, en_a56, en_l56, en_s56, as_10, as_01, Nat.reduceBEq, Nat.reduceEqDiff, ↓reduceIte, Option.bind_some, Option.getD_some, Option.isSome_some, Option.isSome_none, Bool.false_eq_true, Option.toList, List.nil_append, List.cons_append, List.lookup, Option.isSome, List.getElem?_cons_zero, List.getElem?_cons_succ, beq_self_eq_true, if_true, true_or, or_true, or_false, false_or, am_kl, true_and, and_true, and_false, false_and, if_false, not_true_eq_false, not_false_eq_true, as_b0, as_b1, as_em, as_ne, List.length_cons, List.length_nil, Nat.reduceAdd, Int32.reduceLT, Int32.reduceLE, Int32.reduceAdd, Int32.reduceSub, Int32.neg_neg, Int32.reduceMul, Int32.reduceToNatClampNeg, Nat.reduceLeDiff, Nat.reduceLT, List.set_cons_zero, List.set_cons_succ, List.length_set, en_at, en_uu, en_gd, e1, h1, h1n, e5, ni, pi, hw, h54, a1, a2, ih, en_uku]
def md_ix (u t s k : Nat) : Nat := ((26 * u + t) * 2 + s) * 6 + k
def md_cA (Cs : List Int32) (g u t s k : Nat) : Int32 := if u = g then 1000000 else if t = g then 0 else Cs.getD (md_ix u t s k) 0
set_option maxRecDepth 100000 in
theorem ct_227 {X : List Int32} {I : Nat → Nat → Int32} {A : Nat → List Int32} {L : Nat → List Int64} {V : Nat → List Value} {W : Value} {Q : am_Mem} {g u t s k : Nat} (hgl : I 36 5 = Int32.ofNat g) (hg : g ≤ 25) (h55 : (A 55).length = 8112) (hu : u ≤ g) (ht : t ≤ g) (hs : s < 2) (hk : k < 6) :
    am_mt X 227 [.ref 36, .int (Int32.ofNat u), .int (Int32.ofNat t), .int (Int32.ofNat s), .int (Int32.ofNat k)] (en_E I A L V W Q) = some (some (.int (md_cA (A 55) g u t s k)), en_E I A L V W Q) := by
  rw [as_mt (n := 5) (by decide +kernel), show am_ent 5 [.ref 36, .int (Int32.ofNat u), .int (Int32.ofNat t), .int (Int32.ofNat s), .int (Int32.ofNat k)] = [some (.ref 36), some (.int (Int32.ofNat u)), some (.int (Int32.ofNat t)), some (.int (Int32.ofNat s)), some (.int (Int32.ofNat k))] from rfl]
  have e1 := as_eq (show u < 2147483648 by omega) (show g < 2147483648 by omega)
  have e2 := as_eq (show t < 2147483648 by omega) (show g < 2147483648 by omega)
  have e3 : ((26 * Int32.ofNat u + Int32.ofNat t) * 2 + Int32.ofNat s) * 6 + Int32.ofNat k = Int32.ofNat (md_ix u t s k) := by
    unfold md_ix
    rw [show (26 : Int32) = Int32.ofNat 26 from rfl, show (2 : Int32) = Int32.ofNat 2 from rfl, show (6 : Int32) = Int32.ofNat 6 from rfl, as_mul, as_add, as_mul, as_add, as_mul, as_add]
  have h1 : md_ix u t s k < 8112 := by unfold md_ix; omega
  have n1 := as_nat (show md_ix u t s k < 2147483648 by omega)
  have p1 := as_pos (show md_ix u t s k < 2147483648 by omega)
  unfold md_cA
  by_cases hc1 : u = g <;> by_cases hc2 : t = g <;>
    simp only [q227_0, q227_1, q227_2, q227_5, q227_8, q227_10, q227_13, q227_14, q227_15, q227_18, q227_21, q227_22, q227_25, q227_26, q227_29, q227_30, q227_31, q227_32, q227_33, q227_35, q227_38, q227_39, en_c36, en_f36_0, en_p36_0, en_f36_1, en_p36_1, en_f36_2, en_p36_2, en_f36_3, en_p36_3, en_f36_4, en_p36_4, en_f36_5, en_p36_5, en_f36_6, en_p36_6, en_f36_7, en_p36_7, en_f36_8, en_p36_8, en_f36_9, en_p36_9, en_f36_10, en_p36_10, en_f36_11, en_p36_11, en_f36_12, en_p36_12, en_f36_13, en_p36_13, en_f36_14, en_f36_15, en_f36_16, en_f36_17, en_f36_18, en_f36_19, en_f36_20, en_f36_21, en_f36_22, en_f36_23, en_f36_24, en_f36_25, en_f36_26, en_f36_27, en_f36_28, en_f36_29, en_p36_29, en_f36_30, en_p36_30, en_f36_31, en_p36_31, en_f36_32, en_p36_32, en_f36_33, en_p36_33, en_f36_34, en_f36_35, en_f36_36, en_f36_37, en_f36_38, en_p36_38, en_f36_39, en_f36_40, en_p36_40, en_f36_41, en_p36_41, en_a37, en_l37, en_s37, en_a38, en_l38, en_s38, en_a39, en_l39, en_s39, en_a40, en_l40, en_s40, en_a41, en_l41, en_s41, en_a42, en_l42, en_s42, en_a43, en_l43, en_s43, en_a44, en_l44, en_s44, en_a45, en_l45, en_s45, en_a46, en_l46, en_s46, en_a47, en_l47, en_a48, en_l48, en_a49, en_l49, en_a50, en_l50, en_a51, en_l51, en_s51, en_a52, en_l52, en_s52, en_a53, en_l53, en_s53, en_a54, en_l54, en_s54, en_a55, en_l55, en_s55, en_a56, en_l56, en_s56, as_10, as_01, Nat.reduceBEq, Nat.reduceEqDiff, ↓reduceIte, Option.bind_some, Option.getD_some, Option.isSome_some, Option.isSome_none, Bool.false_eq_true, Option.toList, List.nil_append, List.cons_append, List.lookup, Option.isSome, List.getElem?_cons_zero, List.getElem?_cons_succ, beq_self_eq_true, if_true, true_or, or_true, or_false, false_or, am_kl, true_and, and_true, and_false, false_and, if_false, not_true_eq_false, not_false_eq_true, as_b0, as_b1, as_em, as_ne, List.length_cons, List.length_nil, Nat.reduceAdd, Int32.reduceLT, Int32.reduceLE, Int32.reduceAdd, Int32.reduceSub, Int32.neg_neg, Int32.reduceMul, Int32.reduceToNatClampNeg, Nat.reduceLeDiff, Nat.reduceLT, List.set_cons_zero, List.set_cons_succ, List.length_set, en_at, en_uu, en_gd, hgl, e1, e2, hc1, hc2, ct_228, e3, h1, n1, p1, h55]

theorem as_d6 : ∀ i, i < 12 → Int32.ofNat i / 6 = Int32.ofNat (i / 6) ∧ Int32.ofNat i - Int32.ofNat i / 6 * 6 = Int32.ofNat (i % 6) := by decide +kernel
def md_rv (br : Int32) (S : List Int32) (g a b : Nat) (Cs : List Int32) (i : Nat) : Int32 :=
  if i < 6 then md_mean br (md_cA Cs g (a + 1) b 0 i) (md_cA Cs g a (b + 1) 1 i) else md_mean (S.getD (i - 6) 0) (md_cA Cs g (a + 1) b 0 ((i - 6 + 1) % 6)) (md_cA Cs g a (b + 1) 1 (i - 6))
def md_rc (br : Int32) (S : List Int32) (g a b : Nat) : Nat → Nat → List Int32 → List Int32
  | 0, _, Cs => Cs
  | j + 1, i, Cs => md_rc br S g a b j (i + 1) (Cs.set (md_ix a b 0 0 + i) (md_rv br S g a b Cs i))
theorem md_rc_len {br : Int32} {S : List Int32} {g a b : Nat} : ∀ (j i : Nat) (Cs : List Int32), (md_rc br S g a b j i Cs).length = Cs.length
  | 0, _, _ => rfl
  | j + 1, i, Cs => by rw [md_rc, md_rc_len j, List.length_set]
theorem md_cA_set {Cs : List Int32} {g a b u t s k i : Nat} {v : Int32} (h : ¬ (md_ix a b 0 0 + i = md_ix u t s k)) : md_cA (Cs.set (md_ix a b 0 0 + i) v) g u t s k = md_cA Cs g u t s k := by
  unfold md_cA
  have z : ¬ (md_ix a b 0 0 + i = md_ix u t s k ∧ md_ix a b 0 0 + i < Cs.length) := fun hc => h hc.1
  rw [as_getset, if_neg z]
theorem md_rv_set {br : Int32} {S : List Int32} {g a b : Nat} {Cs : List Int32} {i i2 : Nat} {v : Int32} (hi : i < 12) (hi2 : i2 < 12) (hb : b < 25) : md_rv br S g a b (Cs.set (md_ix a b 0 0 + i) v) i2 = md_rv br S g a b Cs i2 := by
  unfold md_rv
  split
  · rw [md_cA_set (by unfold md_ix; omega), md_cA_set (by unfold md_ix; omega)]
  · rw [md_cA_set (by unfold md_ix; omega), md_cA_set (by unfold md_ix; omega)]
theorem md_rc_get {br : Int32} {S : List Int32} {g a b c : Nat} (hb : b < 25) : ∀ (j i : Nat) (Cs : List Int32), i + j ≤ 12 → md_ix a b 0 0 + 12 ≤ Cs.length → (md_rc br S g a b j i Cs).getD c 0 = if md_ix a b 0 0 + i ≤ c ∧ c < md_ix a b 0 0 + i + j then md_rv br S g a b Cs (c - md_ix a b 0 0) else Cs.getD c 0
  | 0, i, Cs, h, hl => by rw [md_rc, if_neg (by omega)]
  | j + 1, i, Cs, h, hl => by
    generalize hP : md_ix a b 0 0 = P at hl
    rw [md_rc, hP, md_rc_get hb j (i + 1) _ (by omega) (by rw [List.length_set, hP]; exact hl), as_getset, hP]
    by_cases h1 : P + i = c
    · subst h1
      have z1 : ¬ (P + (i + 1) ≤ P + i ∧ P + i < P + (i + 1) + j) := by omega
      have z2 : P + i = P + i ∧ P + i < Cs.length := ⟨rfl, by omega⟩
      have z3 : P + i ≤ P + i ∧ P + i < P + i + (j + 1) := by omega
      rw [if_neg z1, if_pos z2, if_pos z3, show P + i - P = i by omega]
    · have z4 : ¬ (P + i = c ∧ P + i < Cs.length) := fun h => h1 h.1
      by_cases h2 : P + (i + 1) ≤ c ∧ c < P + (i + 1) + j
      · have z6 : P + i ≤ c ∧ c < P + i + (j + 1) := by omega
        rw [if_pos h2, if_pos z6, ← hP, md_rv_set (by omega) (by omega) hb]
      · have z6 : ¬ (P + i ≤ c ∧ c < P + i + (j + 1)) := by omega
        rw [if_neg h2, if_neg z4, if_neg z6]
def md_nn (Cs : List Int32) (g a b : Nat) : Prop := ∀ k, k < 6 → (∃ n, n ≤ 1000000 ∧ md_cA Cs g (a + 1) b 0 k = Int32.ofNat n) ∧ (∃ n, n ≤ 1000000 ∧ md_cA Cs g a (b + 1) 1 k = Int32.ofNat n)
theorem md_nn_set {Cs : List Int32} {g a b i : Nat} {v : Int32} (h : md_nn Cs g a b) (hi : i < 12) (hb : b < 25) : md_nn (Cs.set (md_ix a b 0 0 + i) v) g a b := by
  intro k hk
  rw [md_cA_set (by unfold md_ix; omega), md_cA_set (by unfold md_ix; omega)]
  exact h k hk
theorem as_zL : ((1000 : Int64) = 0) ↔ False := by decide
set_option maxRecDepth 100000 in
theorem ct_226_i {X : List Int32} {I : Nat → Nat → Int32} {L : Nat → List Int64} {V : Nat → List Value} {W : Value} {Q : am_Mem} {S : List Int32} {g a b br : Nat} {u t s k sm : Int32} (hgl : I 36 5 = Int32.ofNat g) (hg : g ≤ 25) (hbr : I 36 4 = Int32.ofNat br) (hbr2 : br ≤ 1000) (ha : a < g) (hb : b < g) (hS : ∀ t, ∃ n, n ≤ 1000 ∧ S.getD t 0 = Int32.ofNat n) : ∀ (j i : Nat) (A : Nat → List Int32) (z9 z10 z11 z12 z13 z14 z15 : Option Value), i + j = 12 → A 54 = S → S.length = 6 → (A 55).length = 8112 → md_nn (A 55) g a b → ∃ y9 y10 y11 y12 y13 y14 y15 : Option Value, am_go X 226 97 [some (.ref 36), some (.int u), some (.int t), some (.int s), some (.int k), some (.int sm), some (.int (Int32.ofNat a)), some (.int (Int32.ofNat b)), some (.int (Int32.ofNat i)), z9, z10, z11, z12, z13, z14, z15] [] (en_E I A L V W Q) = am_go X 226 231 [some (.ref 36), some (.int u), some (.int t), some (.int s), some (.int k), some (.int sm), some (.int (Int32.ofNat a)), some (.int (Int32.ofNat b)), some (.int 12), y9, y10, y11, y12, y13, y14, y15] [] (en_E I (en_u A 55 (md_rc (Int32.ofNat br) S g a b j i (A 55))) L V W Q)
  | 0, i, A, z9, z10, z11, z12, z13, z14, z15, h, h54, hSl, h55, hn => by
    have hi : i = 12 := by omega
    subst hi
    refine ⟨z9, z10, z11, z12, z13, z14, z15, ?_⟩
    simp only [q226_97, q226_99, q226_101, q226_104, q226_106, q226_108, q226_109, q226_111, q226_113, q226_115, q226_116, q226_118, q226_120, q226_123, q226_124, q226_127, q226_130, q226_131, q226_134, q226_136, q226_137, q226_139, q226_140, q226_142, q226_143, q226_144, q226_146, q226_147, q226_149, q226_152, q226_154, q226_157, q226_159, q226_160, q226_161, q226_163, q226_164, q226_167, q226_168, q226_170, q226_171, q226_173, q226_175, q226_176, q226_177, q226_178, q226_180, q226_183, q226_184, q226_186, q226_187, q226_190, q226_191, q226_193, q226_195, q226_197, q226_199, q226_202, q226_204, q226_205, q226_207, q226_208, q226_211, q226_213, q226_214, q226_215, q226_217, q226_218, q226_219, q226_222, q226_223, q226_224, q226_225, q226_228, en_c36, en_f36_0, en_p36_0, en_f36_1, en_p36_1, en_f36_2, en_p36_2, en_f36_3, en_p36_3, en_f36_4, en_p36_4, en_f36_5, en_p36_5, en_f36_6, en_p36_6, en_f36_7, en_p36_7, en_f36_8, en_p36_8, en_f36_9, en_p36_9, en_f36_10, en_p36_10, en_f36_11, en_p36_11, en_f36_12, en_p36_12, en_f36_13, en_p36_13, en_f36_14, en_f36_15, en_f36_16, en_f36_17, en_f36_18, en_f36_19, en_f36_20, en_f36_21, en_f36_22, en_f36_23, en_f36_24, en_f36_25, en_f36_26, en_f36_27, en_f36_28, en_f36_29, en_p36_29, en_f36_30, en_p36_30, en_f36_31, en_p36_31, en_f36_32, en_p36_32, en_f36_33, en_p36_33, en_f36_34, en_f36_35, en_f36_36, en_f36_37, en_f36_38, en_p36_38, en_f36_39, en_f36_40, en_p36_40, en_f36_41, en_p36_41, en_a37, en_l37, en_s37, en_a38, en_l38, en_s38, en_a39, en_l39, en_s39, en_a40, en_l40, en_s40, en_a41, en_l41, en_s41, en_a42, en_l42, en_s42, en_a43, en_l43, en_s43, en_a44, en_l44, en_s44, en_a45, en_l45, en_s45, en_a46, en_l46, en_s46, en_a47, en_l47, en_a48, en_l48, en_a49, en_l49, en_a50, en_l50, en_a51, en_l51, en_s51, en_a52, en_l52, en_s52, en_a53, en_l53, en_s53, en_a54, en_l54, en_s54, en_a55, en_l55, en_s55, en_a56, en_l56, en_s56, as_10, as_01, Nat.reduceBEq, Nat.reduceEqDiff, ↓reduceIte, Option.bind_some, Option.getD_some, Option.isSome_some, Option.isSome_none, Bool.false_eq_true, Option.toList, List.nil_append, List.cons_append, List.lookup, Option.isSome, List.getElem?_cons_zero, List.getElem?_cons_succ, beq_self_eq_true, if_true, true_or, or_true, or_false, false_or, am_kl, true_and, and_true, and_false, false_and, if_false, not_true_eq_false, not_false_eq_true, as_b0, as_b1, as_em, as_ne, List.length_cons, List.length_nil, Nat.reduceAdd, Int32.reduceLT, Int32.reduceLE, Int32.reduceAdd, Int32.reduceSub, Int32.neg_neg, Int32.reduceMul, Int32.reduceToNatClampNeg, Nat.reduceLeDiff, Nat.reduceLT, List.set_cons_zero, List.set_cons_succ, List.length_set, en_at, en_uu, en_gd, Int32.reduceOfNat]
    rw [md_rc, en_id]
    try rfl
  | j + 1, i, A, z9, z10, z11, z12, z13, z14, z15, h, h54, hSl, h55, hn => by
    have e1 : (Int32.ofNat i < 12) ↔ i < 12 := as_lt (show i < 2147483648 by omega) (show 12 < 2147483648 by decide)
    have h1 : i < 12 := by omega
    have e5 : Int32.ofNat i + 1 = Int32.ofNat (i + 1) := as_add (b := 1)
    obtain ⟨d1, d2⟩ := as_d6 i h1
    rw [d1] at d2
    have hix : md_ix a b (i / 6) (i % 6) = md_ix a b 0 0 + i := by unfold md_ix; omega
    have e3 : ((26 * Int32.ofNat a + Int32.ofNat b) * 2 + Int32.ofNat (i / 6)) * 6 + Int32.ofNat (i % 6) = Int32.ofNat (md_ix a b 0 0 + i) := by
      rw [← hix]
      unfold md_ix
      rw [show (26 : Int32) = Int32.ofNat 26 from rfl, show (2 : Int32) = Int32.ofNat 2 from rfl, show (6 : Int32) = Int32.ofNat 6 from rfl, as_mul, as_add, as_mul, as_add, as_mul, as_add]
    have lx : md_ix a b 0 0 + i < 8112 := by unfold md_ix; omega
    have gx : ¬ 8112 ≤ md_ix a b 0 0 + i := by omega
    have nx := as_nat (show md_ix a b 0 0 + i < 2147483648 by omega)
    have px := as_pos (show md_ix a b 0 0 + i < 2147483648 by omega)
    have hlt : i % 6 < 6 := by omega
    have nt := as_nat (show i % 6 < 2147483648 by omega)
    have pt := as_pos (show i % 6 < 2147483648 by omega)
    have c2 := ct_227 (X := X) (I := I) (A := A) (L := L) (V := V) (W := W) (Q := Q) (g := g) (u := a) (t := b + 1) (s := 1) (k := i % 6) hgl hg h55 (by omega) (by omega) (by decide) hlt
    rw [show Int32.ofNat 1 = 1 from rfl] at c2
    have ih := fun (zs : Nat → Option Value) (v : Int32) => ct_226_i (X := X) (L := L) (V := V) (W := W) (Q := Q) (u := u) (t := t) (s := s) (k := k) (sm := sm) hgl hg hbr hbr2 ha hb hS j (i + 1) (en_u A 55 ((A 55).set (md_ix a b 0 0 + i) v)) (zs 9) (zs 10) (zs 11) (zs 12) (zs 13) (zs 14) (zs 15) (by omega) (by rw [en_at, if_neg (by decide)]; exact h54) hSl (by rw [en_at, if_pos rfl, List.length_set]; exact h55) (by rw [en_at, if_pos rfl]; exact md_nn_set hn h1 (by omega))
    rw [md_rc]
    by_cases h6 : i < 6
    · have m6 : i % 6 = i := by omega
      have w6 : i / 6 = 0 := by omega
      rw [w6, show Int32.ofNat 0 = 0 from rfl] at d1 e3 d2
      rw [m6] at e3 d2 c2
      have c1 := ct_227 (X := X) (I := I) (A := A) (L := L) (V := V) (W := W) (Q := Q) (g := g) (u := a + 1) (t := b) (s := 0) (k := i) hgl hg h55 (by omega) (by omega) (by decide) h6
      rw [show Int32.ofNat 0 = 0 from rfl] at c1
      obtain ⟨⟨w, hw, ew⟩, ⟨l, hl, el⟩⟩ := hn i h6
      have hv : md_rv (Int32.ofNat br) S g a b (A 55) i = md_mean (Int32.ofNat br) (Int32.ofNat w) (Int32.ofNat l) := by
        unfold md_rv; rw [if_pos h6, ew, el]
      have hm := md_meanL hbr2 hw hl
      rw [ew] at c1; rw [el] at c2
      obtain ⟨y9, y10, y11, y12, y13, y14, y15, ih⟩ := ih (fun q => if q = 9 then some (.int 0) else if q = 10 then some (.int (Int32.ofNat i)) else if q = 11 then some (.int (Int32.ofNat br)) else if q = 12 then some (.long (Int32.ofNat w).toInt64) else if q = 13 then none else if q = 14 then some (.long (Int32.ofNat l).toInt64) else none) (md_mean (Int32.ofNat br) (Int32.ofNat w) (Int32.ofNat l))
      refine ⟨y9, y10, y11, y12, y13, y14, y15, ?_⟩
      rw [hv]
      simp only [Nat.reduceEqDiff, ↓reduceIte, en_at, en_uu] at ih
      simp only [q226_97, q226_99, q226_101, q226_104, q226_106, q226_108, q226_109, q226_111, q226_113, q226_115, q226_116, q226_118, q226_120, q226_123, q226_124, q226_127, q226_130, q226_131, q226_134, q226_136, q226_137, q226_139, q226_140, q226_142, q226_143, q226_144, q226_146, q226_147, q226_149, q226_152, q226_154, q226_157, q226_159, q226_160, q226_161, q226_163, q226_164, q226_167, q226_168, q226_170, q226_171, q226_173, q226_175, q226_176, q226_177, q226_178, q226_180, q226_183, q226_184, q226_186, q226_187, q226_190, q226_191, q226_193, q226_195, q226_197, q226_199, q226_202, q226_204, q226_205, q226_207, q226_208, q226_211, q226_213, q226_214, q226_215, q226_217, q226_218, q226_219, q226_222, q226_223, q226_224, q226_225, q226_228, en_c36, en_f36_0, en_p36_0, en_f36_1, en_p36_1, en_f36_2, en_p36_2, en_f36_3, en_p36_3, en_f36_4, en_p36_4, en_f36_5, en_p36_5, en_f36_6, en_p36_6, en_f36_7, en_p36_7, en_f36_8, en_p36_8, en_f36_9, en_p36_9, en_f36_10, en_p36_10, en_f36_11, en_p36_11, en_f36_12, en_p36_12, en_f36_13, en_p36_13, en_f36_14, en_f36_15, en_f36_16, en_f36_17, en_f36_18, en_f36_19, en_f36_20, en_f36_21, en_f36_22, en_f36_23, en_f36_24, en_f36_25, en_f36_26, en_f36_27, en_f36_28, en_f36_29, en_p36_29, en_f36_30, en_p36_30, en_f36_31, en_p36_31, en_f36_32, en_p36_32, en_f36_33, en_p36_33, en_f36_34, en_f36_35, en_f36_36, en_f36_37, en_f36_38, en_p36_38, en_f36_39, en_f36_40, en_p36_40, en_f36_41, en_p36_41, en_a37, en_l37, en_s37, en_a38, en_l38, en_s38, en_a39, en_l39, en_s39, en_a40, en_l40, en_s40, en_a41, en_l41, en_s41, en_a42, en_l42, en_s42, en_a43, en_l43, en_s43, en_a44, en_l44, en_s44, en_a45, en_l45, en_s45, en_a46, en_l46, en_s46, en_a47, en_l47, en_a48, en_l48, en_a49, en_l49, en_a50, en_l50, en_a51, en_l51, en_s51, en_a52, en_l52, en_s52, en_a53, en_l53, en_s53, en_a54, en_l54, en_s54, en_a55, en_l55, en_s55, en_a56, en_l56, en_s56, as_10, as_01, Nat.reduceBEq, Nat.reduceEqDiff, ↓reduceIte, Option.bind_some, Option.getD_some, Option.isSome_some, Option.isSome_none, Bool.false_eq_true, Option.toList, List.nil_append, List.cons_append, List.lookup, Option.isSome, List.getElem?_cons_zero, List.getElem?_cons_succ, beq_self_eq_true, if_true, true_or, or_true, or_false, false_or, am_kl, true_and, and_true, and_false, false_and, if_false, not_true_eq_false, not_false_eq_true, as_b0, as_b1, as_em, as_ne, List.length_cons, List.length_nil, Nat.reduceAdd, Int32.reduceLT, Int32.reduceLE, Int32.reduceAdd, Int32.reduceSub, Int32.neg_neg, Int32.reduceMul, Int32.reduceToNatClampNeg, Nat.reduceLeDiff, Nat.reduceLT, List.set_cons_zero, List.set_cons_succ, List.length_set, en_at, en_uu, en_gd, e1, h1, hbr, e5, d1, d2, h54, h55, hSl, ct_228, e3, nx, px, lx, gx, c1, c2, hm, as_add1, as_z6, as_zL, Int32.sub_zero, ih]
    · have m6 : i % 6 = i - 6 := by omega
      have w6 : i / 6 = 1 := by omega
      have w0 : ¬ i / 6 = 0 := by omega
      rw [w6, show Int32.ofNat 1 = 1 from rfl] at d1 e3 d2
      rw [m6] at e3 d2 c2 nt pt hlt
      have d5 : Int32.ofNat i - 6 = Int32.ofNat (i - 6) := as_sub (b := 6) (by omega)
      obtain ⟨d3, d4⟩ := as_d6 (i - 6 + 1) (by omega)
      have c1 := ct_227 (X := X) (I := I) (A := A) (L := L) (V := V) (W := W) (Q := Q) (g := g) (u := a + 1) (t := b) (s := 0) (k := (i - 6 + 1) % 6) hgl hg h55 (by omega) (by omega) (by decide) (by omega)
      rw [show Int32.ofNat 0 = 0 from rfl] at c1
      obtain ⟨⟨w, hw, ew⟩, -⟩ := hn ((i - 6 + 1) % 6) (by omega)
      obtain ⟨-, ⟨l, hl, el⟩⟩ := hn (i - 6) (by omega)
      obtain ⟨p, hp, ep⟩ := hS (i - 6)
      have hv : md_rv (Int32.ofNat br) S g a b (A 55) i = md_mean (Int32.ofNat p) (Int32.ofNat w) (Int32.ofNat l) := by
        unfold md_rv; rw [if_neg h6, ew, el, ep]
      have hm := md_meanL hp hw hl
      rw [ew] at c1; rw [el] at c2
      obtain ⟨y9, y10, y11, y12, y13, y14, y15, ih⟩ := ih (fun q => if q = 9 then some (.int 1) else if q = 10 then some (.int (Int32.ofNat (i - 6))) else if q = 11 then some (.int (Int32.ofNat p)) else if q = 12 then some (.long (Int32.ofNat w).toInt64) else if q = 13 then none else if q = 14 then some (.long (Int32.ofNat l).toInt64) else none) (md_mean (Int32.ofNat p) (Int32.ofNat w) (Int32.ofNat l))
      refine ⟨y9, y10, y11, y12, y13, y14, y15, ?_⟩
      rw [hv]
      simp only [Nat.reduceEqDiff, ↓reduceIte, en_at, en_uu] at ih
      simp only [q226_97, q226_99, q226_101, q226_104, q226_106, q226_108, q226_109, q226_111, q226_113, q226_115, q226_116, q226_118, q226_120, q226_123, q226_124, q226_127, q226_130, q226_131, q226_134, q226_136, q226_137, q226_139, q226_140, q226_142, q226_143, q226_144, q226_146, q226_147, q226_149, q226_152, q226_154, q226_157, q226_159, q226_160, q226_161, q226_163, q226_164, q226_167, q226_168, q226_170, q226_171, q226_173, q226_175, q226_176, q226_177, q226_178, q226_180, q226_183, q226_184, q226_186, q226_187, q226_190, q226_191, q226_193, q226_195, q226_197, q226_199, q226_202, q226_204, q226_205, q226_207, q226_208, q226_211, q226_213, q226_214, q226_215, q226_217, q226_218, q226_219, q226_222, q226_223, q226_224, q226_225, q226_228, en_c36, en_f36_0, en_p36_0, en_f36_1, en_p36_1, en_f36_2, en_p36_2, en_f36_3, en_p36_3, en_f36_4, en_p36_4, en_f36_5, en_p36_5, en_f36_6, en_p36_6, en_f36_7, en_p36_7, en_f36_8, en_p36_8, en_f36_9, en_p36_9, en_f36_10, en_p36_10, en_f36_11, en_p36_11, en_f36_12, en_p36_12, en_f36_13, en_p36_13, en_f36_14, en_f36_15, en_f36_16, en_f36_17, en_f36_18, en_f36_19, en_f36_20, en_f36_21, en_f36_22, en_f36_23, en_f36_24, en_f36_25, en_f36_26, en_f36_27, en_f36_28, en_f36_29, en_p36_29, en_f36_30, en_p36_30, en_f36_31, en_p36_31, en_f36_32, en_p36_32, en_f36_33, en_p36_33, en_f36_34, en_f36_35, en_f36_36, en_f36_37, en_f36_38, en_p36_38, en_f36_39, en_f36_40, en_p36_40, en_f36_41, en_p36_41, en_a37, en_l37, en_s37, en_a38, en_l38, en_s38, en_a39, en_l39, en_s39, en_a40, en_l40, en_s40, en_a41, en_l41, en_s41, en_a42, en_l42, en_s42, en_a43, en_l43, en_s43, en_a44, en_l44, en_s44, en_a45, en_l45, en_s45, en_a46, en_l46, en_s46, en_a47, en_l47, en_a48, en_l48, en_a49, en_l49, en_a50, en_l50, en_a51, en_l51, en_s51, en_a52, en_l52, en_s52, en_a53, en_l53, en_s53, en_a54, en_l54, en_s54, en_a55, en_l55, en_s55, en_a56, en_l56, en_s56, as_10, as_01, Nat.reduceBEq, Nat.reduceEqDiff, ↓reduceIte, Option.bind_some, Option.getD_some, Option.isSome_some, Option.isSome_none, Bool.false_eq_true, Option.toList, List.nil_append, List.cons_append, List.lookup, Option.isSome, List.getElem?_cons_zero, List.getElem?_cons_succ, beq_self_eq_true, if_true, true_or, or_true, or_false, false_or, am_kl, true_and, and_true, and_false, false_and, if_false, not_true_eq_false, not_false_eq_true, as_b0, as_b1, as_em, as_ne, List.length_cons, List.length_nil, Nat.reduceAdd, Int32.reduceLT, Int32.reduceLE, Int32.reduceAdd, Int32.reduceSub, Int32.neg_neg, Int32.reduceMul, Int32.reduceToNatClampNeg, Nat.reduceLeDiff, Nat.reduceLT, List.set_cons_zero, List.set_cons_succ, List.length_set, en_at, en_uu, en_gd, e1, h1, hbr, e5, d1, d2, d4, d5, h54, h55, hSl, hlt, nt, pt, ep, ct_228, e3, nx, px, lx, gx, c1, c2, hm, as_add1, as_z6, as_zL, ih]
