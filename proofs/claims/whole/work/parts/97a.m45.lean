theorem md_cb12 {T : Nat → Int32} {k p fl ys k2 p2 : List Int32} (hl : ys.length = 60) (hk : k.length = 12) (hp : p.length = 12) (hk2 : k2.length = 12) (hp2 : p2.length = 12) : md_cb (md_kp T k p fl ys) 0 12 0 k2 = k ∧ md_cb (md_kp T k p fl ys) 12 12 0 p2 = p := by
  constructor
  · apply List.ext_getElem?
    intro i
    by_cases hi : i < 12
    · have h := (md_kp_cb (T := T) (k := k) (p := p) (fl := fl) (ys := ys) (k2 := k2) (p2 := p2) (i := i) hl hk2 hp2 hi).1
      have z1 : i < (md_cb (md_kp T k p fl ys) 0 12 0 k2).length := by rw [md_cb_len]; omega
      have z2 : i < k.length := by omega
      rw [List.getD_eq_getElem?_getD, List.getD_eq_getElem?_getD, List.getElem?_eq_getElem z1, List.getElem?_eq_getElem z2] at h
      rw [List.getElem?_eq_getElem z1, List.getElem?_eq_getElem z2]
      exact congrArg some h
    · rw [List.getElem?_eq_none (by rw [md_cb_len]; omega), List.getElem?_eq_none (by omega)]
  · apply List.ext_getElem?
    intro i
    by_cases hi : i < 12
    · have h := (md_kp_cb (T := T) (k := k) (p := p) (fl := fl) (ys := ys) (k2 := k2) (p2 := p2) (i := i) hl hk2 hp2 hi).2
      have z1 : i < (md_cb (md_kp T k p fl ys) 12 12 0 p2).length := by rw [md_cb_len]; omega
      have z2 : i < p.length := by omega
      rw [List.getD_eq_getElem?_getD, List.getD_eq_getElem?_getD, List.getElem?_eq_getElem z1, List.getElem?_eq_getElem z2] at h
      rw [List.getElem?_eq_getElem z1, List.getElem?_eq_getElem z2]
      exact congrArg some h
    · rw [List.getElem?_eq_none (by rw [md_cb_len]; omega), List.getElem?_eq_none (by omega)]
theorem md_ld_lo {T D : Nat → Int32} {k p fl ys : List Int32} (hl : ys.length = 60) {j : Nat} (hj : j < 13) : md_ld D (md_kp T k p fl ys) j = T j := by
  have h : j = 0 ∨ j = 1 ∨ j = 2 ∨ j = 3 ∨ j = 4 ∨ j = 5 ∨ j = 6 ∨ j = 7 ∨ j = 8 ∨ j = 9 ∨ j = 10 ∨ j = 11 ∨ j = 12 := by omega
  unfold md_ld
  rcases h with rfl | rfl | rfl | rfl | rfl | rfl | rfl | rfl | rfl | rfl | rfl | rfl | rfl <;> simp only [en_at, Nat.reduceEqDiff, ↓reduceIte, md_kp_30 hl, md_kp_31 hl, md_kp_32 hl, md_kp_33 hl, md_kp_34 hl, md_kp_35 hl, md_kp_36 hl, md_kp_37 hl, md_kp_38 hl, md_kp_39 hl, md_kp_40 hl, md_kp_41 hl, md_kp_42 hl]
theorem md_ld_hi {D : Nat → Int32} {xs : List Int32} {j : Nat} (hj : 12 < j) : md_ld D xs j = D j := by
  unfold md_ld
  simp only [en_at, show ¬ j = 0 by omega, show ¬ j = 1 by omega, show ¬ j = 2 by omega, show ¬ j = 3 by omega, show ¬ j = 4 by omega, show ¬ j = 5 by omega, show ¬ j = 6 by omega, show ¬ j = 7 by omega, show ¬ j = 8 by omega, show ¬ j = 9 by omega, show ¬ j = 10 by omega, show ¬ j = 11 by omega, show ¬ j = 12 by omega, ↓reduceIte]
set_option maxRecDepth 100000 in
set_option maxHeartbeats 8000000 in
theorem team_good {X : List Int32} {I : Nat → Nat → Int32} {A : Nat → List Int32} {L : Nat → List Int64} {V : Nat → List Value} {W : Value} {Q : am_Mem} {t nz : Nat} {pl : List Nat} {pd : List (Nat × Int32)} {pl2 : List Nat} {pd2 : List (Nat × Int32)} (hR : md_R I A L V Q pl pd pl2 pd2) (t8 : t < 8) (e160 : (L (4 + 2 * t)).length = 160) (hnz : nz ≤ 160) (enz : I (3 + 2 * t) 2 = Int32.ofNat nz) (b6 : (A 43).getD t 0 = I (3 + 2 * t) 2) (b7 : md_sl (L 45) t = L (4 + 2 * t)) (c14 : am_mt X 14 [.ref 0, .int (Int32.ofNat t)] (en_E I A L V W Q) = some (some (.int 0), en_E I A L V W Q)) (c196 : ∀ (I' : Nat → Nat → Int32) (A' : Nat → List Int32) (L' : Nat → List Int64) (V' : Nat → List Value) (W' : Value) (Q' : am_Mem), A' 41 = A 41 → am_mt X 196 [.ref 36, .int (Int32.ofNat t)] (en_E I' A' L' V' W' Q') = some (some (.int 0), en_E I' A' L' V' W' Q')) : md_Stp X 79 195 [.int (Int32.ofNat t)] I A L V W Q := by
  have hR0 := hR
  obtain ⟨r1, r2, r3, r4, r5, r6, r7, r8⟩ := hR0
  have r10 := r1
  obtain ⟨hEQ, hrg, h40, hfl, hpd, hV, hc, hq⟩ := r10
  have r70 := r7
  obtain ⟨w1, w2, w3, w4, w5, w6, w7, w8, w9, pl3, w10, w11⟩ := r70
  have hl : pl.length ≤ 12 := by rw [hq.1]; exact hpd.2.2.1
  have hf : (A 22).length = 6 := hfl.1
  have h4l : (A 40).length = 6 := by rw [h40]; exact hf
  have q43 := r3.1.2.2.2.1
  have c80 := ce_80_26_20 (X := X) (I := I) (A := A) (L := L) (V := V) (W := W) (Q := Q) w10 w11 hV hl hq w8 hf
  obtain ⟨r, Y, T, Z0, f, v, S, C0, pl1, pd1, on0, g1, g2, g3, g4, g5, g6, g7, g8, g9, g10, m0, g11, g12, g13⟩ := team_class (X := X) (W := W) (J := en_u I 36 (en_u (en_u (en_u (en_u (I 36) 13 (-1)) 29 (Int32.ofNat (160 * t))) 30 (Int32.ofNat 0)) 31 (Int32.ofNat nz))) (B := A) hR t8 e160 hnz enz b7 V W Q rfl rfl rfl rfl rfl
  have c81 := (tl_81 (X := X) (I := (en_u I 26 (en_t (I 20 2) (I 20 3) (I 20 4) (I 20 5) (I 20 6) (I 20 7) (I 20 8) (I 20 9) (I 20 10) (I 20 11) (I 20 12) (I 20 13) (I 20 14)))) (A := (en_u A 28 (A 22))) (L := L) (V := (en_u V 27 (V 21))) (W := W) (Q := Q) (r := 3 + 2 * t)).trans g1
  have g30 := g3
  obtain ⟨-, -, -, tfl, tpd, tV, -, tq⟩ := g30
  have hl1 : pl1.length ≤ 12 := by rw [tq.1]; exact tpd.2.2.1
  have hf1 : f.length = 6 := tfl.1
  have hs9 : (Q ++ S).length ≤ Q.length + 200 := by rw [List.length_append]; omega
  by_cases hy : Y 3 = -1
  · have c80b := ce_80_20_26 (X := X) (I := en_u (en_u (en_u (en_u (en_u I 26 (en_t (I 20 2) (I 20 3) (I 20 4) (I 20 5) (I 20 6) (I 20 7) (I 20 8) (I 20 9) (I 20 10) (I 20 11) (I 20 12) (I 20 13) (I 20 14))) 33 (en_u (en_u ((en_u I 26 (en_t (I 20 2) (I 20 3) (I 20 4) (I 20 5) (I 20 6) (I 20 7) (I 20 8) (I 20 9) (I 20 10) (I 20 11) (I 20 12) (I 20 13) (I 20 14))) 33) 2 0) 3 (-1))) 33 Y) 26 T) 0 (en_u ((en_u (en_u (en_u (en_u I 26 (en_t (I 20 2) (I 20 3) (I 20 4) (I 20 5) (I 20 6) (I 20 7) (I 20 8) (I 20 9) (I 20 10) (I 20 11) (I 20 12) (I 20 13) (I 20 14))) 33 (en_u (en_u ((en_u I 26 (en_t (I 20 2) (I 20 3) (I 20 4) (I 20 5) (I 20 6) (I 20 7) (I 20 8) (I 20 9) (I 20 10) (I 20 11) (I 20 12) (I 20 13) (I 20 14))) 33) 2 0) 3 (-1))) 33 Y) 26 T) 0) 10 (-1))) (A := (en_u (en_u A 28 (A 22)) 28 f)) (L := L) (V := (en_u (en_u V 27 (V 21)) 27 v)) (W := (.ref (3 + 2 * t))) (Q := Q ++ S) (pl := pl) (pl2 := pl1) (pd2 := pd1) hV hl tV hl1 tq hf hf1
    have c79 := ce_79_ok t8 c14 c80 c81 hy c80b
    have c197 := ct_197_52_0 (X := X) (I := (en_u (en_u (en_u (en_u (en_u (en_u I 26 (en_t (I 20 2) (I 20 3) (I 20 4) (I 20 5) (I 20 6) (I 20 7) (I 20 8) (I 20 9) (I 20 10) (I 20 11) (I 20 12) (I 20 13) (I 20 14))) 33 (en_u (en_u ((en_u I 26 (en_t (I 20 2) (I 20 3) (I 20 4) (I 20 5) (I 20 6) (I 20 7) (I 20 8) (I 20 9) (I 20 10) (I 20 11) (I 20 12) (I 20 13) (I 20 14))) 33) 2 0) 3 (-1))) 33 Y) 26 T) 0 (en_u ((en_u (en_u (en_u (en_u I 26 (en_t (I 20 2) (I 20 3) (I 20 4) (I 20 5) (I 20 6) (I 20 7) (I 20 8) (I 20 9) (I 20 10) (I 20 11) (I 20 12) (I 20 13) (I 20 14))) 33 (en_u (en_u ((en_u I 26 (en_t (I 20 2) (I 20 3) (I 20 4) (I 20 5) (I 20 6) (I 20 7) (I 20 8) (I 20 9) (I 20 10) (I 20 11) (I 20 12) (I 20 13) (I 20 14))) 33) 2 0) 3 (-1))) 33 Y) 26 T) 0) 10 (-1))) 20 (en_t (T 2) (T 3) (T 4) (T 5) (T 6) (T 7) (T 8) (T 9) (T 10) (T 11) (T 12) (T 13) (T 14)))) (A := (en_u (en_u (en_u A 28 (A 22)) 28 f) 22 f)) (L := L) (V := (en_u (en_u (en_u V 27 (V 21)) 27 v) 21 v)) (W := (.ref (3 + 2 * t))) (Q := Q ++ S) hpd.1 hpd.2.1 h4l w5
    have mp := mt_195_p (X := X) (n := nz) t8 (c196 (en_u (en_u (en_u (en_u (en_u (en_u I 26 (en_t (I 20 2) (I 20 3) (I 20 4) (I 20 5) (I 20 6) (I 20 7) (I 20 8) (I 20 9) (I 20 10) (I 20 11) (I 20 12) (I 20 13) (I 20 14))) 33 (en_u (en_u ((en_u I 26 (en_t (I 20 2) (I 20 3) (I 20 4) (I 20 5) (I 20 6) (I 20 7) (I 20 8) (I 20 9) (I 20 10) (I 20 11) (I 20 12) (I 20 13) (I 20 14))) 33) 2 0) 3 (-1))) 33 Y) 26 T) 0 (en_u ((en_u (en_u (en_u (en_u I 26 (en_t (I 20 2) (I 20 3) (I 20 4) (I 20 5) (I 20 6) (I 20 7) (I 20 8) (I 20 9) (I 20 10) (I 20 11) (I 20 12) (I 20 13) (I 20 14))) 33 (en_u (en_u ((en_u I 26 (en_t (I 20 2) (I 20 3) (I 20 4) (I 20 5) (I 20 6) (I 20 7) (I 20 8) (I 20 9) (I 20 10) (I 20 11) (I 20 12) (I 20 13) (I 20 14))) 33) 2 0) 3 (-1))) 33 Y) 26 T) 0) 10 (-1))) 20 (en_t (T 2) (T 3) (T 4) (T 5) (T 6) (T 7) (T 8) (T 9) (T 10) (T 11) (T 12) (T 13) (T 14))) (en_u (en_u (en_u A 28 (A 22)) 28 f) 22 f) L (en_u (en_u (en_u V 27 (V 21)) 27 v) 21 v) (.ref (3 + 2 * t)) (Q ++ S) rfl) c197 q43 (b6.trans enz)
    obtain ⟨r', Y', T', Z, f', v', S', C, pl4, pd4, on, k1, k2, k3, k4, k5, k6, k7, k8, k9, k10, m4, k11, k12, k13⟩ := team_class (X := X) (W := W) (J := en_u (en_u (en_u (en_u (en_u (en_u (en_u I 26 (en_t (I 20 2) (I 20 3) (I 20 4) (I 20 5) (I 20 6) (I 20 7) (I 20 8) (I 20 9) (I 20 10) (I 20 11) (I 20 12) (I 20 13) (I 20 14))) 33 (en_u (en_u ((en_u I 26 (en_t (I 20 2) (I 20 3) (I 20 4) (I 20 5) (I 20 6) (I 20 7) (I 20 8) (I 20 9) (I 20 10) (I 20 11) (I 20 12) (I 20 13) (I 20 14))) 33) 2 0) 3 (-1))) 33 Y) 26 T) 0 (en_u ((en_u (en_u (en_u (en_u I 26 (en_t (I 20 2) (I 20 3) (I 20 4) (I 20 5) (I 20 6) (I 20 7) (I 20 8) (I 20 9) (I 20 10) (I 20 11) (I 20 12) (I 20 13) (I 20 14))) 33 (en_u (en_u ((en_u I 26 (en_t (I 20 2) (I 20 3) (I 20 4) (I 20 5) (I 20 6) (I 20 7) (I 20 8) (I 20 9) (I 20 10) (I 20 11) (I 20 12) (I 20 13) (I 20 14))) 33) 2 0) 3 (-1))) 33 Y) 26 T) 0) 10 (-1))) 20 (en_t (T 2) (T 3) (T 4) (T 5) (T 6) (T 7) (T 8) (T 9) (T 10) (T 11) (T 12) (T 13) (T 14))) 36 (en_u (en_u (en_u (en_u (I 36) 13 (-1)) 29 (Int32.ofNat (160 * t))) 30 (Int32.ofNat 0)) 31 (Int32.ofNat nz))) (B := en_u (en_u (en_u (en_u A 28 (A 22)) 28 f) 22 f) 52 (md_kp (I 36) (A 38) (A 39) (A 40) (A 52))) hR t8 e160 hnz enz b7 (en_u (en_u (en_u V 27 (V 21)) 27 v) 21 v) (.ref (3 + 2 * t)) (Q ++ S) rfl rfl rfl rfl rfl
    have inj := g1.symm.trans k1
    simp only [Option.some.injEq, Prod.mk.injEq, Value.int.injEq] at inj
    obtain ⟨er, em⟩ := inj
    obtain ⟨e3, eT, ef, ev, eQ⟩ := tl_inj em
    have e3' : Y 3 = Y' 3 := e3
    have eT' : ∀ j, 2 ≤ j → j < 15 → T j = T' j := eT
    have ef' : f = f' := ef
    have ev' : v = v' := ev
    have on1 : on = 1 := by
      rcases k4 with ⟨o1, -⟩ | ⟨-, -, hne⟩
      · exact o1
      · exact absurd (e3'.symm.trans hy) hne
    subst on1
    obtain ⟨nn, x1, x2⟩ := k2 (Int32.ofNat t) 0 none 56 (.inl rfl)
    have hm := mp.trans (x1.trans mt_195_k)
    rw [x2 rfl, ← er] at hm
    refine ⟨.int (Int32.ofNat r), _, _, _, _, _, _, _, _, _, _, _, _, c79, hm, ⟨pl4, pd4, pl2, pd2, ?_⟩, hs9⟩
    have c := fun j h1 h2 h3 h4 => k7 j h1 h2 h3 h4
    rw [← ef', ← ev', ← eQ] at k3
    have kV := k3.2.2.2.2.2.1
    have kq := k3.2.2.2.2.2.2.2
    have kl : pl4.length ≤ 12 := by rw [kq.1]; exact k3.2.2.2.2.1.2.2.1
    have hmm : pl.length ≤ pl4.length := by
      have h8 : I 20 2 = Int32.ofNat m4 := k11
      rw [hc] at h8
      have h9 := (as_eq (by omega) (by omega)).mp h8
      omega
    unfold md_R
    refine ⟨?_, ?_, ?_, ?_, ?_, ?_, ?_, md_QS_2 r8 g10⟩
    · rw [show C 22 = f from c 22 (by decide) (by decide) (by decide) (by decide)]
      refine tm_T k3 (fun j h2 h15 => ?_)
      rw [← eT' j h2 h15]
      have hj : j = 2 ∨ j = 3 ∨ j = 4 ∨ j = 5 ∨ j = 6 ∨ j = 7 ∨ j = 8 ∨ j = 9 ∨ j = 10 ∨ j = 11 ∨ j = 12 ∨ j = 13 ∨ j = 14 := by omega
      rcases hj with rfl | rfl | rfl | rfl | rfl | rfl | rfl | rfl | rfl | rfl | rfl | rfl | rfl <;> rfl
    · rw [show C 25 = A 25 from c 25 (by decide) (by decide) (by decide) (by decide), show C 53 = A 53 from c 53 (by decide) (by decide) (by decide) (by decide)]
      have h := md_IM_2 (S := S) r2
      rw [← show Z 41 = I 36 41 from k6 41 (by decide)] at h
      exact h
    · exact md_SHS_c r3 hmm (fun s hs => by simp only [en_at, show ¬ 3 + 2 * s = 36 by omega, show ¬ 3 + 2 * s = 20 by omega, show ¬ 3 + 2 * s = 0 by omega, show ¬ 3 + 2 * s = 26 by omega, show ¬ 3 + 2 * s = 33 by omega, ↓reduceIte]) (c 2 (by decide) (by decide) (by decide) (by decide)) (c 41 (by decide) (by decide) (by decide) (by decide)) (c 42 (by decide) (by decide) (by decide) (by decide)) (c 43 (by decide) (by decide) (by decide) (by decide)) (c 44 (by decide) (by decide) (by decide) (by decide))
    · rw [show C 19 = A 19 from c 19 (by decide) (by decide) (by decide) (by decide), show C 37 = A 37 from c 37 (by decide) (by decide) (by decide) (by decide)]
      exact r4
    · exact (show Z 13 = -1 from k5).symm
    · rw [show C 56 = A 56 from c 56 (by decide) (by decide) (by decide) (by decide)]
      have h := r6
      rw [← show Z 40 = I 36 40 from k6 40 (by decide)] at h
      exact h
    · have c52 : (C 52).length = 60 := by
        rw [c 52 (by decide) (by decide) (by decide) (by decide), en_at, if_pos rfl, md_kp_len]
        exact w5
      rw [show C 30 = A 30 from c 30 (by decide) (by decide) (by decide) (by decide), show C 31 = A 31 from c 31 (by decide) (by decide) (by decide) (by decide), show C 32 = A 32 from c 32 (by decide) (by decide) (by decide) (by decide), show C 54 = A 54 from c 54 (by decide) (by decide) (by decide) (by decide), show C 55 = A 55 from c 55 (by decide) (by decide) (by decide) (by decide), show C 28 = f from c 28 (by decide) (by decide) (by decide) (by decide)]
      exact ⟨w1, w2, w3, k8, c52, w6, w7, hf1, w9, pl4, kV, kl⟩
  · have c79 : am_mt X 79 [.ref 0, .int (Int32.ofNat t)] (en_E I A L V W Q) = some (some (.int (-6)), en_E (en_u (en_u (en_u (en_u (en_u I 26 (en_t (I 20 2) (I 20 3) (I 20 4) (I 20 5) (I 20 6) (I 20 7) (I 20 8) (I 20 9) (I 20 10) (I 20 11) (I 20 12) (I 20 13) (I 20 14))) 33 (en_u (en_u ((en_u I 26 (en_t (I 20 2) (I 20 3) (I 20 4) (I 20 5) (I 20 6) (I 20 7) (I 20 8) (I 20 9) (I 20 10) (I 20 11) (I 20 12) (I 20 13) (I 20 14))) 33) 2 0) 3 (-1))) 33 Y) 26 T) 0 (en_u ((en_u (en_u (en_u (en_u I 26 (en_t (I 20 2) (I 20 3) (I 20 4) (I 20 5) (I 20 6) (I 20 7) (I 20 8) (I 20 9) (I 20 10) (I 20 11) (I 20 12) (I 20 13) (I 20 14))) 33 (en_u (en_u ((en_u I 26 (en_t (I 20 2) (I 20 3) (I 20 4) (I 20 5) (I 20 6) (I 20 7) (I 20 8) (I 20 9) (I 20 10) (I 20 11) (I 20 12) (I 20 13) (I 20 14))) 33) 2 0) 3 (-1))) 33 Y) 26 T) 0) 10 (Y 3))) (en_u (en_u (en_u A 28 (A 22)) 28 f) 19 ((A 19).set 5 ((A 19).getD 5 0 + 1))) L (en_u (en_u V 27 (V 21)) 27 v) (.ref (3 + 2 * t)) (Q ++ S)) := ce_79_bad (E4 := []) t8 c14 c80 c81 hy r4.1
    have c197 := ct_197_52_0 (X := X) (I := (en_u (en_u (en_u (en_u (en_u I 26 (en_t (I 20 2) (I 20 3) (I 20 4) (I 20 5) (I 20 6) (I 20 7) (I 20 8) (I 20 9) (I 20 10) (I 20 11) (I 20 12) (I 20 13) (I 20 14))) 33 (en_u (en_u ((en_u I 26 (en_t (I 20 2) (I 20 3) (I 20 4) (I 20 5) (I 20 6) (I 20 7) (I 20 8) (I 20 9) (I 20 10) (I 20 11) (I 20 12) (I 20 13) (I 20 14))) 33) 2 0) 3 (-1))) 33 Y) 26 T) 0 (en_u ((en_u (en_u (en_u (en_u I 26 (en_t (I 20 2) (I 20 3) (I 20 4) (I 20 5) (I 20 6) (I 20 7) (I 20 8) (I 20 9) (I 20 10) (I 20 11) (I 20 12) (I 20 13) (I 20 14))) 33 (en_u (en_u ((en_u I 26 (en_t (I 20 2) (I 20 3) (I 20 4) (I 20 5) (I 20 6) (I 20 7) (I 20 8) (I 20 9) (I 20 10) (I 20 11) (I 20 12) (I 20 13) (I 20 14))) 33) 2 0) 3 (-1))) 33 Y) 26 T) 0) 10 (Y 3)))) (A := (en_u (en_u (en_u A 28 (A 22)) 28 f) 19 ((A 19).set 5 ((A 19).getD 5 0 + 1)))) (L := L) (V := (en_u (en_u V 27 (V 21)) 27 v)) (W := (.ref (3 + 2 * t))) (Q := Q ++ S) hpd.1 hpd.2.1 h4l w5
    have mp := mt_195_p (X := X) (n := nz) t8 (c196 (en_u (en_u (en_u (en_u (en_u I 26 (en_t (I 20 2) (I 20 3) (I 20 4) (I 20 5) (I 20 6) (I 20 7) (I 20 8) (I 20 9) (I 20 10) (I 20 11) (I 20 12) (I 20 13) (I 20 14))) 33 (en_u (en_u ((en_u I 26 (en_t (I 20 2) (I 20 3) (I 20 4) (I 20 5) (I 20 6) (I 20 7) (I 20 8) (I 20 9) (I 20 10) (I 20 11) (I 20 12) (I 20 13) (I 20 14))) 33) 2 0) 3 (-1))) 33 Y) 26 T) 0 (en_u ((en_u (en_u (en_u (en_u I 26 (en_t (I 20 2) (I 20 3) (I 20 4) (I 20 5) (I 20 6) (I 20 7) (I 20 8) (I 20 9) (I 20 10) (I 20 11) (I 20 12) (I 20 13) (I 20 14))) 33 (en_u (en_u ((en_u I 26 (en_t (I 20 2) (I 20 3) (I 20 4) (I 20 5) (I 20 6) (I 20 7) (I 20 8) (I 20 9) (I 20 10) (I 20 11) (I 20 12) (I 20 13) (I 20 14))) 33) 2 0) 3 (-1))) 33 Y) 26 T) 0) 10 (Y 3))) (en_u (en_u (en_u A 28 (A 22)) 28 f) 19 ((A 19).set 5 ((A 19).getD 5 0 + 1))) L (en_u (en_u V 27 (V 21)) 27 v) (.ref (3 + 2 * t)) (Q ++ S) rfl) c197 q43 (b6.trans enz)
    obtain ⟨r', Y', T', Z, f', v', S', C, pl4, pd4, on, k1, k2, k3, k4, k5, k6, k7, k8, k9, k10, m4, k11, k12, k13⟩ := team_class (X := X) (W := W) (J := en_u (en_u (en_u (en_u (en_u (en_u I 26 (en_t (I 20 2) (I 20 3) (I 20 4) (I 20 5) (I 20 6) (I 20 7) (I 20 8) (I 20 9) (I 20 10) (I 20 11) (I 20 12) (I 20 13) (I 20 14))) 33 (en_u (en_u ((en_u I 26 (en_t (I 20 2) (I 20 3) (I 20 4) (I 20 5) (I 20 6) (I 20 7) (I 20 8) (I 20 9) (I 20 10) (I 20 11) (I 20 12) (I 20 13) (I 20 14))) 33) 2 0) 3 (-1))) 33 Y) 26 T) 0 (en_u ((en_u (en_u (en_u (en_u I 26 (en_t (I 20 2) (I 20 3) (I 20 4) (I 20 5) (I 20 6) (I 20 7) (I 20 8) (I 20 9) (I 20 10) (I 20 11) (I 20 12) (I 20 13) (I 20 14))) 33 (en_u (en_u ((en_u I 26 (en_t (I 20 2) (I 20 3) (I 20 4) (I 20 5) (I 20 6) (I 20 7) (I 20 8) (I 20 9) (I 20 10) (I 20 11) (I 20 12) (I 20 13) (I 20 14))) 33) 2 0) 3 (-1))) 33 Y) 26 T) 0) 10 (Y 3))) 36 (en_u (en_u (en_u (en_u (I 36) 13 (-1)) 29 (Int32.ofNat (160 * t))) 30 (Int32.ofNat 0)) 31 (Int32.ofNat nz))) (B := en_u (en_u (en_u (en_u A 28 (A 22)) 28 f) 19 ((A 19).set 5 ((A 19).getD 5 0 + 1))) 52 (md_kp (I 36) (A 38) (A 39) (A 40) (A 52))) hR t8 e160 hnz enz b7 (en_u (en_u V 27 (V 21)) 27 v) (.ref (3 + 2 * t)) (Q ++ S) rfl rfl rfl rfl rfl
    have inj := g1.symm.trans k1
    simp only [Option.some.injEq, Prod.mk.injEq, Value.int.injEq] at inj
    obtain ⟨er, em⟩ := inj
    obtain ⟨e3, eT, ef, ev, eQ⟩ := tl_inj em
    have e3' : Y 3 = Y' 3 := e3
    have eT' : ∀ j, 2 ≤ j → j < 15 → T j = T' j := eT
    have ef' : f = f' := ef
    have ev' : v = v' := ev
    have hy' : ¬ Y' 3 = -1 := fun h => hy (e3'.trans h)
    have on0' : on = 0 ∧ Y' 3 = Z 33 := by
      rcases k4 with ⟨-, o1⟩ | ⟨o0, o1, -⟩
      · exact absurd o1 hy'
      · exact ⟨o0, o1⟩
    obtain ⟨rfl, hz33⟩ := on0'
    obtain ⟨nn, x1, -⟩ := k2 (Int32.ofNat t) 0 none 56 (.inl rfl)
    have c := fun j h1 h2 h3 h4 => k7 j h1 h2 h3 h4
    have kV := k3.2.2.2.2.2.1
    have kq := k3.2.2.2.2.2.2.2
    have kl : pl4.length ≤ 12 := by rw [kq.1]; exact k3.2.2.2.2.1.2.2.1
    have a38 : (C 38).length = 12 := k3.2.2.2.2.1.1
    have a39 : (C 39).length = 12 := k3.2.2.2.2.1.2.1
    have a40 : (C 40).length = 6 := by rw [k3.2.2.1]; exact k3.2.2.2.1.1
    have e52 : C 52 = md_kp (I 36) (A 38) (A 39) (A 40) (A 52) := c 52 (by decide) (by decide) (by decide) (by decide)
    have e37 : C 37 = A 37 := c 37 (by decide) (by decide) (by decide) (by decide)
    have a52 : (C 52).length = 60 := by rw [e52, md_kp_len]; exact w5
    have a37 : (C 37).length = 8 := by rw [e37]; exact r4.2.1
    have c197b := ct_197_52_1 (X := X) (I := en_u (en_u (en_u (en_u (en_u (en_u (en_u I 26 (en_t (I 20 2) (I 20 3) (I 20 4) (I 20 5) (I 20 6) (I 20 7) (I 20 8) (I 20 9) (I 20 10) (I 20 11) (I 20 12) (I 20 13) (I 20 14))) 33 (en_u (en_u ((en_u I 26 (en_t (I 20 2) (I 20 3) (I 20 4) (I 20 5) (I 20 6) (I 20 7) (I 20 8) (I 20 9) (I 20 10) (I 20 11) (I 20 12) (I 20 13) (I 20 14))) 33) 2 0) 3 (-1))) 33 Y) 26 T) 0 (en_u ((en_u (en_u (en_u (en_u I 26 (en_t (I 20 2) (I 20 3) (I 20 4) (I 20 5) (I 20 6) (I 20 7) (I 20 8) (I 20 9) (I 20 10) (I 20 11) (I 20 12) (I 20 13) (I 20 14))) 33 (en_u (en_u ((en_u I 26 (en_t (I 20 2) (I 20 3) (I 20 4) (I 20 5) (I 20 6) (I 20 7) (I 20 8) (I 20 9) (I 20 10) (I 20 11) (I 20 12) (I 20 13) (I 20 14))) 33) 2 0) 3 (-1))) 33 Y) 26 T) 0) 10 (Y 3))) 36 (en_u (en_u (en_u (en_u (I 36) 13 (-1)) 29 (Int32.ofNat (160 * t))) 30 (Int32.ofNat 0)) 31 (Int32.ofNat nz))) 36 Z) (A := C) (L := L) (V := (en_u (en_u V 27 (V 21)) 27 v)) (W := (.ref (3 + 2 * t))) (Q := Q ++ S) a38 a39 a40 a52
    have hm := mp.trans (x1.trans (mt_195_b (s := Int32.ofNat t) (bz := 0) (nn := nn) c197b a37))
    refine ⟨.int (-6), _, _, _, _, _, _, _, _, _, _, _, _, c79, hm, ⟨pl, pd, pl2, pd2, ?_⟩, hs9⟩
    obtain ⟨f38, f39⟩ := md_cb12 (T := I 36) (fl := A 40) (k2 := C 38) (p2 := C 39) w5 hpd.1 hpd.2.1 a38 a39
    have f40 : md_cb (md_kp (I 36) (A 38) (A 39) (A 40) (A 52)) 24 6 0 (C 40) = A 40 := md_kp_fl w5 h4l a40
    rw [← e52] at f38 f39 f40
    have flo : ∀ j, j < 13 → md_ld Z (C 52) j = I 36 j := fun j hj => by rw [e52]; exact md_ld_lo w5 hj
    have fhi : ∀ j, 12 < j → md_ld Z (C 52) j = Z j := fun j hj => md_ld_hi hj
    unfold md_R
    refine ⟨?_, ?_, ?_, ?_, ?_, ?_, ?_, md_QS_2 r8 g10⟩
    · obtain ⟨u1, u2, u3, u4, u5, u6, u7, u8⟩ := r1
      have hT : md_TM (I 20) (I 36) (C 22) (md_cb (C 52) 24 6 0 (C 40)) A (V 21) (Q ++ S) pl pd := by
        rw [f40, show C 22 = A 22 from c 22 (by decide) (by decide) (by decide) (by decide)]
        exact ⟨u1, u2, u3, u4, u5, u6, u7, md_psQ_2 u8 S⟩
      refine tm_A (tm_Z hT (fun j hj => ?_)) f38 f39
      rw [← flo j hj]
      first
        | (change en_u (md_ld Z (C 52)) 13 (md_ld Z (C 52) 33) j = md_ld Z (C 52) j; rw [en_at, if_neg (by omega)])
        | (simp only [en_at, Nat.reduceEqDiff, ↓reduceIte]; rw [if_neg (by omega)])
    · have h := md_IM_2 (S := S) r2
      rw [← show C 25 = A 25 from c 25 (by decide) (by decide) (by decide) (by decide), ← show C 53 = A 53 from c 53 (by decide) (by decide) (by decide) (by decide)] at h
      rw [← show md_ld Z (C 52) 41 = I 36 41 from (fhi 41 (by decide)).trans (k6 41 (by decide))] at h
      exact h
    · exact md_SHS_c r3 (Nat.le_refl _) (fun s hs => by simp only [en_at, show ¬ 3 + 2 * s = 36 by omega, show ¬ 3 + 2 * s = 20 by omega, show ¬ 3 + 2 * s = 0 by omega, show ¬ 3 + 2 * s = 26 by omega, show ¬ 3 + 2 * s = 33 by omega, ↓reduceIte]) (c 2 (by decide) (by decide) (by decide) (by decide)) (c 41 (by decide) (by decide) (by decide) (by decide)) (c 42 (by decide) (by decide) (by decide) (by decide)) (c 43 (by decide) (by decide) (by decide) (by decide)) (c 44 (by decide) (by decide) (by decide) (by decide))
    · have h := md_RF_s r4 (k := 5) (by decide)
      have g19 : C 19 = (A 19).set 5 ((A 19).getD 5 0 + 1) := c 19 (by decide) (by decide) (by decide) (by decide)
      rw [← g19, ← e37] at h
      exact h
    · exact e3'.trans (hz33.trans (fhi 33 (by decide)).symm)
    · have h := r6
      rw [← show C 56 = A 56 from c 56 (by decide) (by decide) (by decide) (by decide)] at h
      rw [← show md_ld Z (C 52) 40 = I 36 40 from (fhi 40 (by decide)).trans (k6 40 (by decide))] at h
      exact h
    · have g28 : C 28 = f := c 28 (by decide) (by decide) (by decide) (by decide)
      have hf2 : (C 28).length = 6 := by rw [g28]; exact hf1
      rw [← ev'] at kV
      have v1 : (C 30).length = 6 := by
        rw [c 30 (by decide) (by decide) (by decide) (by decide)]
        exact w1
      have v2 : (C 31).length = 156 := by
        rw [c 31 (by decide) (by decide) (by decide) (by decide)]
        exact w2
      have v3 : (C 32).length = 156 := by
        rw [c 32 (by decide) (by decide) (by decide) (by decide)]
        exact w3
      have v6 : (C 54).length = 6 := by
        rw [c 54 (by decide) (by decide) (by decide) (by decide)]
        exact w6
      have v7 : (C 55).length = 8112 := by
        rw [c 55 (by decide) (by decide) (by decide) (by decide)]
        exact w7
      exact ⟨v1, v2, v3, k8, a52, v6, v7, hf2, w9, pl4, kV, kl⟩
set_option maxRecDepth 100000 in
theorem sp_team {X : List Int32} {I : Nat → Nat → Int32} {A : Nat → List Int32} {L : Nat → List Int64} {V : Nat → List Value} {W : Value} {Q : am_Mem} {s : Int32} (hR : md_RX I A L V Q) : md_Stp X 79 195 [.int s] I A L V W Q := by
  have hR0 := hR
  obtain ⟨pl, pd, pl2, pd2, hR1⟩ := hR0
  have hR2 := hR1
  obtain ⟨r1, r2, r3, r4, r5, r6, r7, r8⟩ := hR1
  have r1a := r1
  obtain ⟨hEQ, hrg, h40, hfl, hpd, hV, hc, hq⟩ := r1
  have hEQ0 := hEQ
  obtain ⟨E0, E1, E2, E3, E4, E5, E6, E7, E8, E9, E10, E11, E12⟩ := hEQ
  have hrg0 := hrg
  obtain ⟨⟨B, hB, hb⟩, ⟨wp, hw6, hw⟩, ⟨fo, hf9, hfo⟩, ⟨br, hbr2, hbr⟩, ⟨g, u, tt, hg1, hg, hug, htg, hgl, hus, hth⟩, hsv⟩ := hrg
  have hl : pl.length ≤ 12 := by rw [hq.1]; exact hpd.2.2.1
  have hf : (A 22).length = 6 := hfl.1
  have hfl4 : md_FL (A 40) pd := by rw [h40]; exact hfl
  have h4l : (A 40).length = 6 := hfl4.1
  have h19 := r4.1
  have h37 := r4.2.1
  by_cases hs : ¬ s < 0 ∧ s < 8
  · skip
    obtain ⟨s0, s8⟩ := hs
    obtain ⟨t, hts, rfl⟩ := as_ofN s0
    have t8 : t < 8 := (as_lt hts (show 8 < 2147483648 by decide)).mp s8
    have nt := as_nat hts
    obtain ⟨⟨q2, q41, q42, q43, q44, q45⟩, hSH⟩ := r3
    obtain ⟨e160, ⟨nz, hnz, enz⟩, hcs⟩ := hSH t t8
    rcases hcs with ⟨b1, b2⟩ | ⟨b1, b2, k, b3, b4⟩ | ⟨b1, ⟨o, b2, b3, b4⟩, b5, b6, b7⟩
    · skip
      skip
      exact md_ref3 (b := -3) hR
        (by
            rw [as_mt (n := 4) (by decide +kernel), show am_ent 4 [.ref 0, .int (Int32.ofNat t)] = [some (.ref 0), some (.int (Int32.ofNat t)), none, none] from rfl]
            simp only [q79_0, q79_1, q79_2, q79_5, q79_6, q79_7, q79_10, q79_11, q79_12, q79_15, q79_16, q79_17, q79_20, q79_21, q79_24, q79_24n, q79_27, q79_28, q79_31, q79_32, q79_33, q79_36, q79_36n, q79_39, q79_40, q79_41, q79_42, q79_45, q79_48, q79_51, q79_52, q79_55, q79_56, q79_59, q79_60, q79_62, q79_65, q79_66, q79_67, q79_70, q79_71, q79_74, q79_74n, q79_77, q79_78, en_c0, en_f0_0, en_f0_1, en_f0_2, en_f0_3, en_f0_4, en_f0_5, en_f0_6, en_f0_7, en_f0_8, en_f0_9, en_p0_9, en_f0_10, en_p0_10, en_a2, en_l2, en_s2, en_a19, en_l19, en_s19, en_c20, en_f20_0, en_f20_1, en_f20_2, en_p20_2, en_f20_3, en_p20_3, en_f20_4, en_p20_4, en_f20_5, en_p20_5, en_f20_6, en_p20_6, en_f20_7, en_p20_7, en_f20_8, en_p20_8, en_f20_9, en_p20_9, en_f20_10, en_p20_10, en_f20_11, en_p20_11, en_f20_12, en_p20_12, en_f20_13, en_p20_13, en_f20_14, en_p20_14, en_a22, en_l22, en_s22, en_c23, en_f23_0, en_f23_1, en_f23_2, en_p23_2, en_f23_3, en_p23_3, en_f23_4, en_p23_4, en_f23_5, en_p23_5, en_f23_6, en_p23_6, en_f23_7, en_p23_7, en_f23_8, en_p23_8, en_f23_9, en_p23_9, en_f23_10, en_p23_10, en_f23_11, en_p23_11, en_f23_12, en_p23_12, en_f23_13, en_p23_13, en_f23_14, en_p23_14, en_c26, en_f26_0, en_f26_1, en_f26_2, en_p26_2, en_f26_3, en_p26_3, en_f26_4, en_p26_4, en_f26_5, en_p26_5, en_f26_6, en_p26_6, en_f26_7, en_p26_7, en_f26_8, en_p26_8, en_f26_9, en_p26_9, en_f26_10, en_p26_10, en_f26_11, en_p26_11, en_f26_12, en_p26_12, en_f26_13, en_p26_13, en_f26_14, en_p26_14, en_c34, en_f34_0, en_f34_1, en_p34_1, en_f34_2, en_p34_2, en_a35, en_l35, en_s35, as_10, as_01, Nat.reduceBEq, Nat.reduceEqDiff, ↓reduceIte, Option.bind_some, Option.getD_some, Option.isSome_some, Option.isSome_none, Bool.false_eq_true, Option.toList, List.nil_append, List.cons_append, List.lookup, Option.isSome, List.getElem?_cons_zero, List.getElem?_cons_succ, beq_self_eq_true, if_true, true_or, or_true, or_false, false_or, am_kl, true_and, and_true, and_false, false_and, if_false, not_true_eq_false, not_false_eq_true, as_b0, as_b1, as_em, as_ne, List.length_cons, List.length_nil, Nat.reduceAdd, Int32.reduceLT, Int32.reduceLE, Int32.reduceAdd, Int32.reduceSub, Int32.neg_neg, Int32.reduceMul, Int32.reduceToNatClampNeg, Nat.reduceLeDiff, Nat.reduceLT, List.set_cons_zero, List.set_cons_succ, List.length_set, en_at, en_uu, en_gd, ce_14, b2, as_mlt, s0, s8, nt, t8, q2, q41, q42, q43, q44, q45, as_m6, as_m0, as_m1, as_ng, ite_self, ce_8_3, h19])
        (by
            rw [as_mt (n := 5) (by decide +kernel), show am_ent 5 [.ref 36, .int (Int32.ofNat t)] = [some (.ref 36), some (.int (Int32.ofNat t)), none, none, none] from rfl]
            simp only [q195_0, q195_1, q195_2, q195_5, q195_6, q195_7, q195_10, q195_11, q195_12, q195_15, q195_16, q195_17, q195_18, q195_21, q195_22, q195_25, q195_26, q195_29, q195_30, q195_31, q195_34, q195_35, q195_36, q195_39, q195_40, q195_41, q195_44, q195_45, q195_46, q195_49, q195_50, q195_51, q195_54, q195_55, q195_56, q195_57, q195_60, q195_62, q195_64, q195_67, q195_68, q195_71, q195_72, q195_75, q195_78, q195_79, q195_82, q195_83, q195_86, q195_87, q195_90, q195_91, q195_92, q195_93, q195_95, q195_98, q195_99, q195_100, q195_103, q195_106, q195_108, q195_111, q195_112, q195_113, q195_116, q195_117, q195_118, q195_121, q195_124, q195_125, q195_128, q195_130, q195_133, q195_135, q195_138, q195_139, q195_140, q195_141, q195_142, q195_145, q195_146, q195_149, q195_150, q195_151, q195_154, q195_157, q195_158, q195_160, q195_163, en_c36, en_f36_0, en_p36_0, en_f36_1, en_p36_1, en_f36_2, en_p36_2, en_f36_3, en_p36_3, en_f36_4, en_p36_4, en_f36_5, en_p36_5, en_f36_6, en_p36_6, en_f36_7, en_p36_7, en_f36_8, en_p36_8, en_f36_9, en_p36_9, en_f36_10, en_p36_10, en_f36_11, en_p36_11, en_f36_12, en_p36_12, en_f36_13, en_p36_13, en_f36_14, en_f36_15, en_f36_16, en_f36_17, en_f36_18, en_f36_19, en_f36_20, en_f36_21, en_f36_22, en_f36_23, en_f36_24, en_f36_25, en_f36_26, en_f36_27, en_f36_28, en_f36_29, en_p36_29, en_f36_30, en_p36_30, en_f36_31, en_p36_31, en_f36_32, en_p36_32, en_f36_33, en_p36_33, en_f36_34, en_f36_35, en_f36_36, en_f36_37, en_f36_38, en_p36_38, en_f36_39, en_f36_40, en_p36_40, en_f36_41, en_p36_41, en_a37, en_l37, en_s37, en_a38, en_l38, en_s38, en_a39, en_l39, en_s39, en_a40, en_l40, en_s40, en_a41, en_l41, en_s41, en_a42, en_l42, en_s42, en_a43, en_l43, en_s43, en_a44, en_l44, en_s44, en_a45, en_l45, en_s45, en_a46, en_l46, en_s46, en_a47, en_l47, en_a48, en_l48, en_a49, en_l49, en_a50, en_l50, en_a51, en_l51, en_s51, en_a52, en_l52, en_s52, en_a53, en_l53, en_s53, en_a54, en_l54, en_s54, en_a55, en_l55, en_s55, en_a56, en_l56, en_s56, as_10, as_01, Nat.reduceBEq, Nat.reduceEqDiff, ↓reduceIte, Option.bind_some, Option.getD_some, Option.isSome_some, Option.isSome_none, Bool.false_eq_true, Option.toList, List.nil_append, List.cons_append, List.lookup, Option.isSome, List.getElem?_cons_zero, List.getElem?_cons_succ, beq_self_eq_true, if_true, true_or, or_true, or_false, false_or, am_kl, true_and, and_true, and_false, false_and, if_false, not_true_eq_false, not_false_eq_true, as_b0, as_b1, as_em, as_ne, List.length_cons, List.length_nil, Nat.reduceAdd, Int32.reduceLT, Int32.reduceLE, Int32.reduceAdd, Int32.reduceSub, Int32.neg_neg, Int32.reduceMul, Int32.reduceToNatClampNeg, Nat.reduceLeDiff, Nat.reduceLT, List.set_cons_zero, List.set_cons_succ, List.length_set, en_at, en_uu, en_gd, ct_196, b1, as_21, s0, s8, nt, t8, q2, q41, q42, q43, q44, q45, as_m6, as_m0, as_m1, as_ng, ite_self, ce_167_3, h37])
    · have k100 := as_qlt (show k < 100 by omega)
      have km1 : (Int32.ofNat k = -1) ↔ False := as_nm1 (by omega)
      skip
      exact md_ref2 (b := -2) hR
        (by
            rw [as_mt (n := 4) (by decide +kernel), show am_ent 4 [.ref 0, .int (Int32.ofNat t)] = [some (.ref 0), some (.int (Int32.ofNat t)), none, none] from rfl]
            simp only [q79_0, q79_1, q79_2, q79_5, q79_6, q79_7, q79_10, q79_11, q79_12, q79_15, q79_16, q79_17, q79_20, q79_21, q79_24, q79_24n, q79_27, q79_28, q79_31, q79_32, q79_33, q79_36, q79_36n, q79_39, q79_40, q79_41, q79_42, q79_45, q79_48, q79_51, q79_52, q79_55, q79_56, q79_59, q79_60, q79_62, q79_65, q79_66, q79_67, q79_70, q79_71, q79_74, q79_74n, q79_77, q79_78, en_c0, en_f0_0, en_f0_1, en_f0_2, en_f0_3, en_f0_4, en_f0_5, en_f0_6, en_f0_7, en_f0_8, en_f0_9, en_p0_9, en_f0_10, en_p0_10, en_a2, en_l2, en_s2, en_a19, en_l19, en_s19, en_c20, en_f20_0, en_f20_1, en_f20_2, en_p20_2, en_f20_3, en_p20_3, en_f20_4, en_p20_4, en_f20_5, en_p20_5, en_f20_6, en_p20_6, en_f20_7, en_p20_7, en_f20_8, en_p20_8, en_f20_9, en_p20_9, en_f20_10, en_p20_10, en_f20_11, en_p20_11, en_f20_12, en_p20_12, en_f20_13, en_p20_13, en_f20_14, en_p20_14, en_a22, en_l22, en_s22, en_c23, en_f23_0, en_f23_1, en_f23_2, en_p23_2, en_f23_3, en_p23_3, en_f23_4, en_p23_4, en_f23_5, en_p23_5, en_f23_6, en_p23_6, en_f23_7, en_p23_7, en_f23_8, en_p23_8, en_f23_9, en_p23_9, en_f23_10, en_p23_10, en_f23_11, en_p23_11, en_f23_12, en_p23_12, en_f23_13, en_p23_13, en_f23_14, en_p23_14, en_c26, en_f26_0, en_f26_1, en_f26_2, en_p26_2, en_f26_3, en_p26_3, en_f26_4, en_p26_4, en_f26_5, en_p26_5, en_f26_6, en_p26_6, en_f26_7, en_p26_7, en_f26_8, en_p26_8, en_f26_9, en_p26_9, en_f26_10, en_p26_10, en_f26_11, en_p26_11, en_f26_12, en_p26_12, en_f26_13, en_p26_13, en_f26_14, en_p26_14, en_c34, en_f34_0, en_f34_1, en_p34_1, en_f34_2, en_p34_2, en_a35, en_l35, en_s35, as_10, as_01, Nat.reduceBEq, Nat.reduceEqDiff, ↓reduceIte, Option.bind_some, Option.getD_some, Option.isSome_some, Option.isSome_none, Bool.false_eq_true, Option.toList, List.nil_append, List.cons_append, List.lookup, Option.isSome, List.getElem?_cons_zero, List.getElem?_cons_succ, beq_self_eq_true, if_true, true_or, or_true, or_false, false_or, am_kl, true_and, and_true, and_false, false_and, if_false, not_true_eq_false, not_false_eq_true, as_b0, as_b1, as_em, as_ne, List.length_cons, List.length_nil, Nat.reduceAdd, Int32.reduceLT, Int32.reduceLE, Int32.reduceAdd, Int32.reduceSub, Int32.neg_neg, Int32.reduceMul, Int32.reduceToNatClampNeg, Nat.reduceLeDiff, Nat.reduceLT, List.set_cons_zero, List.set_cons_succ, List.length_set, en_at, en_uu, en_gd, ce_14, b2, b4, k100, km1, s0, s8, nt, t8, q2, q41, q42, q43, q44, q45, as_m6, as_m0, as_m1, as_ng, ite_self, ce_8_2, h19])
        (by
            rw [as_mt (n := 5) (by decide +kernel), show am_ent 5 [.ref 36, .int (Int32.ofNat t)] = [some (.ref 36), some (.int (Int32.ofNat t)), none, none, none] from rfl]
            simp only [q195_0, q195_1, q195_2, q195_5, q195_6, q195_7, q195_10, q195_11, q195_12, q195_15, q195_16, q195_17, q195_18, q195_21, q195_22, q195_25, q195_26, q195_29, q195_30, q195_31, q195_34, q195_35, q195_36, q195_39, q195_40, q195_41, q195_44, q195_45, q195_46, q195_49, q195_50, q195_51, q195_54, q195_55, q195_56, q195_57, q195_60, q195_62, q195_64, q195_67, q195_68, q195_71, q195_72, q195_75, q195_78, q195_79, q195_82, q195_83, q195_86, q195_87, q195_90, q195_91, q195_92, q195_93, q195_95, q195_98, q195_99, q195_100, q195_103, q195_106, q195_108, q195_111, q195_112, q195_113, q195_116, q195_117, q195_118, q195_121, q195_124, q195_125, q195_128, q195_130, q195_133, q195_135, q195_138, q195_139, q195_140, q195_141, q195_142, q195_145, q195_146, q195_149, q195_150, q195_151, q195_154, q195_157, q195_158, q195_160, q195_163, en_c36, en_f36_0, en_p36_0, en_f36_1, en_p36_1, en_f36_2, en_p36_2, en_f36_3, en_p36_3, en_f36_4, en_p36_4, en_f36_5, en_p36_5, en_f36_6, en_p36_6, en_f36_7, en_p36_7, en_f36_8, en_p36_8, en_f36_9, en_p36_9, en_f36_10, en_p36_10, en_f36_11, en_p36_11, en_f36_12, en_p36_12, en_f36_13, en_p36_13, en_f36_14, en_f36_15, en_f36_16, en_f36_17, en_f36_18, en_f36_19, en_f36_20, en_f36_21, en_f36_22, en_f36_23, en_f36_24, en_f36_25, en_f36_26, en_f36_27, en_f36_28, en_f36_29, en_p36_29, en_f36_30, en_p36_30, en_f36_31, en_p36_31, en_f36_32, en_p36_32, en_f36_33, en_p36_33, en_f36_34, en_f36_35, en_f36_36, en_f36_37, en_f36_38, en_p36_38, en_f36_39, en_f36_40, en_p36_40, en_f36_41, en_p36_41, en_a37, en_l37, en_s37, en_a38, en_l38, en_s38, en_a39, en_l39, en_s39, en_a40, en_l40, en_s40, en_a41, en_l41, en_s41, en_a42, en_l42, en_s42, en_a43, en_l43, en_s43, en_a44, en_l44, en_s44, en_a45, en_l45, en_s45, en_a46, en_l46, en_s46, en_a47, en_l47, en_a48, en_l48, en_a49, en_l49, en_a50, en_l50, en_a51, en_l51, en_s51, en_a52, en_l52, en_s52, en_a53, en_l53, en_s53, en_a54, en_l54, en_s54, en_a55, en_l55, en_s55, en_a56, en_l56, en_s56, as_10, as_01, Nat.reduceBEq, Nat.reduceEqDiff, ↓reduceIte, Option.bind_some, Option.getD_some, Option.isSome_some, Option.isSome_none, Bool.false_eq_true, Option.toList, List.nil_append, List.cons_append, List.lookup, Option.isSome, List.getElem?_cons_zero, List.getElem?_cons_succ, beq_self_eq_true, if_true, true_or, or_true, or_false, false_or, am_kl, true_and, and_true, and_false, false_and, if_false, not_true_eq_false, not_false_eq_true, as_b0, as_b1, as_em, as_ne, List.length_cons, List.length_nil, Nat.reduceAdd, Int32.reduceLT, Int32.reduceLE, Int32.reduceAdd, Int32.reduceSub, Int32.neg_neg, Int32.reduceMul, Int32.reduceToNatClampNeg, Nat.reduceLeDiff, Nat.reduceLT, List.set_cons_zero, List.set_cons_succ, List.length_set, en_at, en_uu, en_gd, ct_196, b1, s0, s8, nt, t8, q2, q41, q42, q43, q44, q45, as_m6, as_m0, as_m1, as_ng, ite_self, ce_167_2, h37])
    · obtain ⟨o100, om1⟩ := as_q100 b2
      obtain ⟨pl, pd, pl2, pd2, hRR⟩ := hR
      exact team_good hRR t8 e160 hnz enz b6 b7 (by rw [ce_14 q2]; simp only [as_10, as_01, Nat.reduceBEq, Nat.reduceEqDiff, ↓reduceIte, Option.bind_some, Option.getD_some, Option.isSome_some, Option.isSome_none, Bool.false_eq_true, Option.toList, List.nil_append, List.cons_append, List.lookup, Option.isSome, List.getElem?_cons_zero, List.getElem?_cons_succ, beq_self_eq_true, if_true, true_or, or_true, or_false, false_or, am_kl, true_and, and_true, and_false, false_and, if_false, not_true_eq_false, not_false_eq_true, as_b0, as_b1, as_em, as_ne, List.length_cons, List.length_nil, Nat.reduceAdd, Int32.reduceLT, Int32.reduceLE, Int32.reduceAdd, Int32.reduceSub, Int32.neg_neg, Int32.reduceMul, Int32.reduceToNatClampNeg, Nat.reduceLeDiff, Nat.reduceLT, List.set_cons_zero, List.set_cons_succ, List.length_set, en_at, en_uu, en_gd, s0, s8, nt, t8, q2, q41, q42, q43, q44, q45, b4, o100, om1]) (fun I' A' L' V' W' Q' h => by rw [ct_196 (by rw [h]; exact q41)]; simp only [as_10, as_01, Nat.reduceBEq, Nat.reduceEqDiff, ↓reduceIte, Option.bind_some, Option.getD_some, Option.isSome_some, Option.isSome_none, Bool.false_eq_true, Option.toList, List.nil_append, List.cons_append, List.lookup, Option.isSome, List.getElem?_cons_zero, List.getElem?_cons_succ, beq_self_eq_true, if_true, true_or, or_true, or_false, false_or, am_kl, true_and, and_true, and_false, false_and, if_false, not_true_eq_false, not_false_eq_true, as_b0, as_b1, as_em, as_ne, List.length_cons, List.length_nil, Nat.reduceAdd, Int32.reduceLT, Int32.reduceLE, Int32.reduceAdd, Int32.reduceSub, Int32.neg_neg, Int32.reduceMul, Int32.reduceToNatClampNeg, Nat.reduceLeDiff, Nat.reduceLT, List.set_cons_zero, List.set_cons_succ, List.length_set, en_at, en_uu, en_gd, s0, s8, nt, t8, q2, q41, q42, q43, q44, q45, h, b1, as_21])
  · skip
    have hs2 : s < 0 ∨ ¬ s < 8 := by
      by_cases a : s < 0
      · exact .inl a
      · exact .inr (fun b => hs ⟨a, b⟩)
    obtain ⟨q2, q41, q42, q43, q44, q45⟩ := r3.1
    skip
    exact md_ref1 (b := -1) hR
      (by
          rw [as_mt (n := 4) (by decide +kernel), show am_ent 4 [.ref 0, .int s] = [some (.ref 0), some (.int s), none, none] from rfl]
          simp only [q79_0, q79_1, q79_2, q79_5, q79_6, q79_7, q79_10, q79_11, q79_12, q79_15, q79_16, q79_17, q79_20, q79_21, q79_24, q79_24n, q79_27, q79_28, q79_31, q79_32, q79_33, q79_36, q79_36n, q79_39, q79_40, q79_41, q79_42, q79_45, q79_48, q79_51, q79_52, q79_55, q79_56, q79_59, q79_60, q79_62, q79_65, q79_66, q79_67, q79_70, q79_71, q79_74, q79_74n, q79_77, q79_78, en_c0, en_f0_0, en_f0_1, en_f0_2, en_f0_3, en_f0_4, en_f0_5, en_f0_6, en_f0_7, en_f0_8, en_f0_9, en_p0_9, en_f0_10, en_p0_10, en_a2, en_l2, en_s2, en_a19, en_l19, en_s19, en_c20, en_f20_0, en_f20_1, en_f20_2, en_p20_2, en_f20_3, en_p20_3, en_f20_4, en_p20_4, en_f20_5, en_p20_5, en_f20_6, en_p20_6, en_f20_7, en_p20_7, en_f20_8, en_p20_8, en_f20_9, en_p20_9, en_f20_10, en_p20_10, en_f20_11, en_p20_11, en_f20_12, en_p20_12, en_f20_13, en_p20_13, en_f20_14, en_p20_14, en_a22, en_l22, en_s22, en_c23, en_f23_0, en_f23_1, en_f23_2, en_p23_2, en_f23_3, en_p23_3, en_f23_4, en_p23_4, en_f23_5, en_p23_5, en_f23_6, en_p23_6, en_f23_7, en_p23_7, en_f23_8, en_p23_8, en_f23_9, en_p23_9, en_f23_10, en_p23_10, en_f23_11, en_p23_11, en_f23_12, en_p23_12, en_f23_13, en_p23_13, en_f23_14, en_p23_14, en_c26, en_f26_0, en_f26_1, en_f26_2, en_p26_2, en_f26_3, en_p26_3, en_f26_4, en_p26_4, en_f26_5, en_p26_5, en_f26_6, en_p26_6, en_f26_7, en_p26_7, en_f26_8, en_p26_8, en_f26_9, en_p26_9, en_f26_10, en_p26_10, en_f26_11, en_p26_11, en_f26_12, en_p26_12, en_f26_13, en_p26_13, en_f26_14, en_p26_14, en_c34, en_f34_0, en_f34_1, en_p34_1, en_f34_2, en_p34_2, en_a35, en_l35, en_s35, as_10, as_01, Nat.reduceBEq, Nat.reduceEqDiff, ↓reduceIte, Option.bind_some, Option.getD_some, Option.isSome_some, Option.isSome_none, Bool.false_eq_true, Option.toList, List.nil_append, List.cons_append, List.lookup, Option.isSome, List.getElem?_cons_zero, List.getElem?_cons_succ, beq_self_eq_true, if_true, true_or, or_true, or_false, false_or, am_kl, true_and, and_true, and_false, false_and, if_false, not_true_eq_false, not_false_eq_true, as_b0, as_b1, as_em, as_ne, List.length_cons, List.length_nil, Nat.reduceAdd, Int32.reduceLT, Int32.reduceLE, Int32.reduceAdd, Int32.reduceSub, Int32.neg_neg, Int32.reduceMul, Int32.reduceToNatClampNeg, Nat.reduceLeDiff, Nat.reduceLT, List.set_cons_zero, List.set_cons_succ, List.length_set, en_at, en_uu, en_gd, ce_14, q2, hs, as_m6, as_m0, as_m1, as_ng, ite_self, ce_8_1, h19])
      (by
          rw [as_mt (n := 5) (by decide +kernel), show am_ent 5 [.ref 36, .int s] = [some (.ref 36), some (.int s), none, none, none] from rfl]
          simp only [q195_0, q195_1, q195_2, q195_5, q195_6, q195_7, q195_10, q195_11, q195_12, q195_15, q195_16, q195_17, q195_18, q195_21, q195_22, q195_25, q195_26, q195_29, q195_30, q195_31, q195_34, q195_35, q195_36, q195_39, q195_40, q195_41, q195_44, q195_45, q195_46, q195_49, q195_50, q195_51, q195_54, q195_55, q195_56, q195_57, q195_60, q195_62, q195_64, q195_67, q195_68, q195_71, q195_72, q195_75, q195_78, q195_79, q195_82, q195_83, q195_86, q195_87, q195_90, q195_91, q195_92, q195_93, q195_95, q195_98, q195_99, q195_100, q195_103, q195_106, q195_108, q195_111, q195_112, q195_113, q195_116, q195_117, q195_118, q195_121, q195_124, q195_125, q195_128, q195_130, q195_133, q195_135, q195_138, q195_139, q195_140, q195_141, q195_142, q195_145, q195_146, q195_149, q195_150, q195_151, q195_154, q195_157, q195_158, q195_160, q195_163, en_c36, en_f36_0, en_p36_0, en_f36_1, en_p36_1, en_f36_2, en_p36_2, en_f36_3, en_p36_3, en_f36_4, en_p36_4, en_f36_5, en_p36_5, en_f36_6, en_p36_6, en_f36_7, en_p36_7, en_f36_8, en_p36_8, en_f36_9, en_p36_9, en_f36_10, en_p36_10, en_f36_11, en_p36_11, en_f36_12, en_p36_12, en_f36_13, en_p36_13, en_f36_14, en_f36_15, en_f36_16, en_f36_17, en_f36_18, en_f36_19, en_f36_20, en_f36_21, en_f36_22, en_f36_23, en_f36_24, en_f36_25, en_f36_26, en_f36_27, en_f36_28, en_f36_29, en_p36_29, en_f36_30, en_p36_30, en_f36_31, en_p36_31, en_f36_32, en_p36_32, en_f36_33, en_p36_33, en_f36_34, en_f36_35, en_f36_36, en_f36_37, en_f36_38, en_p36_38, en_f36_39, en_f36_40, en_p36_40, en_f36_41, en_p36_41, en_a37, en_l37, en_s37, en_a38, en_l38, en_s38, en_a39, en_l39, en_s39, en_a40, en_l40, en_s40, en_a41, en_l41, en_s41, en_a42, en_l42, en_s42, en_a43, en_l43, en_s43, en_a44, en_l44, en_s44, en_a45, en_l45, en_s45, en_a46, en_l46, en_s46, en_a47, en_l47, en_a48, en_l48, en_a49, en_l49, en_a50, en_l50, en_a51, en_l51, en_s51, en_a52, en_l52, en_s52, en_a53, en_l53, en_s53, en_a54, en_l54, en_s54, en_a55, en_l55, en_s55, en_a56, en_l56, en_s56, as_10, as_01, Nat.reduceBEq, Nat.reduceEqDiff, ↓reduceIte, Option.bind_some, Option.getD_some, Option.isSome_some, Option.isSome_none, Bool.false_eq_true, Option.toList, List.nil_append, List.cons_append, List.lookup, Option.isSome, List.getElem?_cons_zero, List.getElem?_cons_succ, beq_self_eq_true, if_true, true_or, or_true, or_false, false_or, am_kl, true_and, and_true, and_false, false_and, if_false, not_true_eq_false, not_false_eq_true, as_b0, as_b1, as_em, as_ne, List.length_cons, List.length_nil, Nat.reduceAdd, Int32.reduceLT, Int32.reduceLE, Int32.reduceAdd, Int32.reduceSub, Int32.neg_neg, Int32.reduceMul, Int32.reduceToNatClampNeg, Nat.reduceLeDiff, Nat.reduceLT, List.set_cons_zero, List.set_cons_succ, List.length_set, en_at, en_uu, en_gd, ct_196, q41, hs, as_m6, as_m0, as_m1, as_ng, ite_self, ce_167_1, h37])

