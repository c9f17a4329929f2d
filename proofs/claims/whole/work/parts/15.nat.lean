/-! ===== the JDK's methods that the system calls; one step, whole ===== -/
theorem am_args_spec {n : Nat} {st As r : List Value} (h : am_args n st = some (As, r)) : st = As.reverse ++ r ∧ As.length = n := by
  unfold am_args at h
  split at h
  next hn =>
    cases h
    refine ⟨by rw [List.reverse_reverse, List.take_append_drop], ?_⟩
    rw [List.length_reverse, List.length_take]; omega
  next => cases h
theorem sn_cats : ∀ (r : List Value), (r.map (fun v => v.category)).sum ≤ 2 * r.length
  | [] => by simp
  | v :: r => by
    have h := sn_cats r
    have h2 : v.category ≤ 2 := by cases v <;> simp [Value.category]
    simp only [List.map_cons, List.sum_cons, List.length_cons]
    omega
theorem sn_cats4 {G : sn_G} {r : List Value} (h : ¬ 4 < r.length) : ((r.map (sn_cv G)).map (fun v => v.category)).sum ≤ 8 := by
  have h1 := sn_cats (r.map (sn_cv G))
  rw [List.length_map] at h1
  omega
theorem sn_cpyf {f g : List Int64} {sp dp n : Nat} (h1 : sp + n ≤ f.length) (h2 : dp + n ≤ g.length) : va_cpy (fun j => f.getD j 0) (fun j => g.getD j 0) sp dp n = fun j => (am_cpy f g sp dp n).getD j 0 := by
  funext j
  unfold va_cpy am_cpy
  simp only [List.getD_eq_getElem?_getD]
  by_cases a : j < dp
  · rw [if_neg (by omega), List.append_assoc, List.getElem?_append_left (by rw [List.length_take]; omega), List.getElem?_take_of_lt a]
  · by_cases b : j < dp + n
    · rw [if_pos ⟨by omega, b⟩, List.append_assoc, List.getElem?_append_right (by rw [List.length_take]; omega), List.length_take, Nat.min_eq_left (by omega), List.getElem?_append_left (by rw [List.length_take, List.length_drop]; omega), List.getElem?_take_of_lt (by omega), List.getElem?_drop]
    · rw [if_neg (by omega), List.getElem?_append_right (by rw [List.length_append, List.length_take, List.length_take, List.length_drop]; omega), List.length_append, List.length_take, List.length_take, List.length_drop, Nat.min_eq_left (by omega), Nat.min_eq_left (by omega), List.getElem?_drop]
      congr 2
      omega
/-- which link a call has -/
theorem sn_call1 {m k n f : Nat} {P : Nat → Bool} (h : sn_CL.any (fun e => e.1.1 == sn_own m && e.1.2 == k && P e.2.1 && e.2.2.1 == n && e.2.2.2.2.1 == f && sn_rm m f && sn_ck e.2.1 f) = true) : ∃ (kd cc xx gx : Nat) (ps : List (Nat × Nat)), sn_cok ((sn_own m, k), (kd, (n, (cc, (f, (xx, (gx, ps))))))) = true ∧ P kd = true ∧ sn_rm m f = true ∧ sn_ck kd f = true := by
  obtain ⟨e, he, h1⟩ := sn_any h
  have hok := sn_CL_ok e he
  obtain ⟨⟨o, i⟩, kd, n', cc, f', xx, gx, ps⟩ := e
  simp only [Bool.and_eq_true, beq_iff_eq] at h1
  obtain ⟨⟨⟨⟨⟨⟨rfl, rfl⟩, h2⟩, rfl⟩, rfl⟩, h3⟩, h4⟩ := h1
  exact ⟨kd, cc, xx, gx, ps, hok, h2, h3, h4⟩
theorem sn_call2 {m k n c f : Nat} {P : Nat → Bool} (h : sn_CL.any (fun e => e.1.1 == sn_own m && e.1.2 == k && P e.2.1 && e.2.2.1 == n && (1000 ≤ f || e.2.2.2.1 == c) && e.2.2.2.2.1 == f && sn_rm m f && sn_ck e.2.1 f) = true) : ∃ (kd cc xx gx : Nat) (ps : List (Nat × Nat)), sn_cok ((sn_own m, k), (kd, (n, (cc, (f, (xx, (gx, ps))))))) = true ∧ P kd = true ∧ (1000 ≤ f ∨ cc = c) ∧ sn_rm m f = true ∧ sn_ck kd f = true := by
  obtain ⟨e, he, h1⟩ := sn_any h
  have hok := sn_CL_ok e he
  obtain ⟨⟨o, i⟩, kd, n', cc, f', xx, gx, ps⟩ := e
  simp only [Bool.and_eq_true, beq_iff_eq, Bool.or_eq_true, decide_eq_true_eq] at h1
  obtain ⟨⟨⟨⟨⟨⟨⟨rfl, rfl⟩, h2⟩, rfl⟩, h5⟩, rfl⟩, h3⟩, h4⟩ := h1
  exact ⟨kd, cc, xx, gx, ps, hok, h2, h5, h3, h4⟩
theorem sn_ck_nat {kd f : Nat} (h : sn_ck kd f = true) (hf : 1000 ≤ f) : kd + 980 = f := by
  unfold sn_ck at h
  rw [if_pos hf] at h
  exact eq_of_beq h
theorem sn_ck_own {kd f : Nat} (h : sn_ck kd f = true) (hf : ¬ 1000 ≤ f) : kd ≤ 6 := by
  unfold sn_ck at h
  rw [if_neg hf] at h
  exact of_decide_eq_true h
theorem sn_cok_w {e : sn_ce} (h : sn_cok e = true) : (∀ w ∈ sn_cw e, w ∈ lw_tbl) ∧ sn_cx e = true := by
  unfold sn_cok at h
  rw [Bool.and_eq_true] at h
  exact ⟨sn_wd_in h.1, h.2⟩
section SNA
variable {G : sn_G} {adV : Nat → Nat} {D : va_G} {X : List Int32} {m k0 z0 : Nat} {p : Program} {l : Launch} {e : Env} {R : Room} {s : State} {mm : MethodId} {args : Array Value} {below : List Frame} {meth : Method} {c : Code} {Q : State → Prop}
variable {pc n pc' : Nat} {ls ls' : am_Lc} {st st' : List Value} {M M' : am_Mem} {d : am_Dt}
/-- a call of a static method of the JDK's -/
theorem sn_natS (C0 : sn_C m p R s mm meth c) (hz0 : s.heap.size = G.1 + k0) (hroom : M.length ≤ k0 + R.cells ∧ sn_sz M ≤ z0 + R.slots) {k f kd cc xx gx : Nat} {ps : List (Nat × Nat)} {As r : List Value} (hd : decode (sn_bs m) pc = .ok (.invokestatic k, 3)) (hok : sn_cok ((sn_own m, k), (kd, (n, (cc, (f, (xx, (gx, ps))))))) = true) (hkd : kd + 980 = f) (hP : kd = 21 ∨ kd = 22 ∨ kd = 23) (hrm : sn_rm m f = true) (hr4 : ¬ 4 < r.length)
    (hx : am_nat f (pc + 3) ls As r M = some (.inl (pc', ls', st', M'))) (hk : sn_K G adV D X m k0 z0 p l e R s mm args below meth c Q pc' ls' st' M') : sn_K G adV D X m k0 z0 p l e R s mm args below meth c Q pc ls (As.reverse ++ r) M := by
  obtain ⟨hw, -⟩ := sn_cok_w hok
  have hcat := sn_cats4 (G := G) hr4
  obtain ⟨hxx, hb, hml, -, hown, -, -, hfr, hlo⟩ := id C0
  rcases hP with rfl | rfl | rfl
  · subst hkd
    match As, hx with
    | [.int x, .int y], hx =>
      obtain ⟨rfl, rfl, rfl, rfl⟩ := am_nx_inj hx
      obtain ⟨h1, h2⟩ := of_decide_eq_true hrm
      intro H locs cells slots lsA h3 h4 h5 h6 h7
      have kk := hk H locs cells slots lsA h3 h4 h5 h6 h7
      exact va_mmax (rest := r.map (sn_cv G)) hxx hb (by rw [hml]; exact h7.2.1.symm) hown (h3.1.word (hw _ (by simp [sn_cw])) rfl) (h3.1.word (hw _ (by simp [sn_cw])) rfl) (h3.1.word (hw _ (by simp [sn_cw])) rfl) (h3.1.word (hw _ (by simp [sn_cw])) rfl) (by omega) (by omega) (by omega) (by omega) hd kk
  · subst hkd
    match As, hx with
    | [.int x, .int y], hx =>
      obtain ⟨rfl, rfl, rfl, rfl⟩ := am_nx_inj hx
      obtain ⟨h1, h2⟩ := of_decide_eq_true hrm
      intro H locs cells slots lsA h3 h4 h5 h6 h7
      have kk := hk H locs cells slots lsA h3 h4 h5 h6 h7
      exact va_mmin (rest := r.map (sn_cv G)) hxx hb (by rw [hml]; exact h7.2.1.symm) hown (h3.1.word (hw _ (by simp [sn_cw])) rfl) (h3.1.word (hw _ (by simp [sn_cw])) rfl) (h3.1.word (hw _ (by simp [sn_cw])) rfl) (h3.1.word (hw _ (by simp [sn_cw])) rfl) (by omega) (by omega) (by omega) (by omega) hd kk
  · subst hkd
    match As, hx with
    | [.ref a0, .int sp, .ref a1, .int dp, .int w], hx =>
      have hx' : (match am_copyl M a0 a1 sp dp w with
        | some M' => am_nx (pc + 3) ls r M'
        | none => none) = some (.inl (pc', ls', st', M')) := hx
      split at hx'
      next M2 hc =>
        obtain ⟨rfl, rfl, rfl, rfl⟩ := am_nx_inj hx'
        obtain ⟨h1, h2⟩ := of_decide_eq_true hrm
        have hsz := sn_copyl_sz hc
        intro H locs cells slots lsA h3 h4 h5 h6 h7
        unfold am_copyl at hc
        split at hc
        next f g hf hg =>
          split at hc
          next => cases hc
          next hn =>
            have hM2 := Option.some.inj hc
            have hnw : nativeFrameWords "java/lang/System" "arraycopy" 5 = 7 := by decide +kernel
            refine va_copyl (rest := st'.map (sn_cv G)) (t0 := 1) (t1 := 1) (ty := .long) hxx hb (by rw [hml]; exact h7.2.1.symm) hown (h3.1.word (hw _ (by simp [sn_cw])) rfl) (h3.1.word (hw _ (by simp [sn_cw])) rfl) (h3.1.word (hw _ (by simp [sn_cw])) rfl) (h3.1.word (hw _ (by simp [sn_cw])) rfl) h3.2.1 h3.2.2.1 (sn_D G M) h4 a0 a1 (sn_get0 G hf) (sn_get0 G hg) rfl rfl rfl (fun q => hn (Or.inl q)) (fun q => hn (Or.inr (Or.inl q))) (fun q => hn (Or.inr (Or.inr (Or.inl q)))) (by omega) (by omega) (fun _ _ => rfl) (by omega) (by rw [hnw]; omega) hd (fun H1 locs1 hP1 _ hS1 => ?_)
            refine sn_stored h3 h4 hz0 h5 hP1 (o' := .inr (.inl (am_cpy f g sp.toNatClampNeg dp.toNatClampNeg w.toNatClampNeg))) ?_ hS1 (fun hww => ?_)
            · rw [sn_cpyf (by omega) (by omega)]
              simp only [sn_E]
              rw [am_cpy_len (by omega) (by omega)]
            · rw [hM2] at hww
              exact hk H1 locs1 cells slots lsA hww hS1 (by omega) (by omega) h7
        next => cases hc
      next => cases hx'
/-- Object's constructor -/
theorem sn_natI (C0 : sn_C m p R s mm meth c) {k f cc xx gx : Nat} {ps : List (Nat × Nat)} {As r : List Value} {t : Nat} (hd : decode (sn_bs m) pc = .ok (.invokespecial k, 3)) (hok : sn_cok ((sn_own m, k), (20, (n, (cc, (f, (xx, (gx, ps))))))) = true) (hkd : 20 + 980 = f) (hn : As.length = n) (hrm : sn_rm m f = true) (hr4 : ¬ 4 < r.length)
    (hx : am_nat f (pc + 3) ls (.ref t :: As) r M = some (.inl (pc', ls', st', M'))) (hk : sn_K G adV D X m k0 z0 p l e R s mm args below meth c Q pc' ls' st' M') : sn_K G adV D X m k0 z0 p l e R s mm args below meth c Q pc ls (As.reverse ++ .ref t :: r) M := by
  obtain ⟨hw, -⟩ := sn_cok_w hok
  have hcat := sn_cats4 (G := G) hr4
  obtain ⟨hxx, hb, hml, -, hown, -, -, hfr, hlo⟩ := id C0
  subst hkd
  match As, hx with
  | [], hx =>
    obtain ⟨rfl, rfl, rfl, rfl⟩ := am_nx_inj hx
    obtain ⟨h1, h2⟩ := of_decide_eq_true hrm
    intro H locs cells slots lsA h3 h4 h5 h6 h7
    have kk := hk H locs cells slots lsA h3 h4 h5 h6 h7
    exact W.objInit (rest := st'.map (sn_cv G)) hxx hb hown (h3.1.word (hw _ (by simp [sn_cw])) rfl) (h3.1.word (hw _ (by simp [sn_cw])) rfl) (h3.1.word (hw _ (by simp [sn_cw])) rfl) rfl (by rw [hml]; exact h7.2.1) rfl hd (by omega) (by show 2 * 0 + _ + 12 ≤ _; omega) kk
theorem js_y {y : MethodName} {b : ByteArray} {ml : Nat} {rt : Option FieldType} : Cond.code y b ml rt ∈ [Cond.code y b ml rt] := List.mem_cons_self
/-- length and letters of a word -/
theorem sn_natT (C0 : sn_C m p R s mm meth c) (hroom : M.length ≤ k0 + R.cells ∧ sn_sz M ≤ z0 + R.slots) {k f kd cc xx gx : Nat} {ps : List (Nat × Nat)} {As r : List Value} {t : Nat} (hd : decode (sn_bs m) pc = .ok (.invokevirtual k, 3)) (hok : sn_cok ((sn_own m, k), (kd, (n, (cc, (f, (xx, (gx, ps))))))) = true) (hkd : kd + 980 = f) (hP : kd = 24 ∨ kd = 25) (hrm : sn_rm m f = true) (hr4 : ¬ 4 < r.length)
    (hx : am_nat f (pc + 3) ls (.retAddr t :: As) r M = some (.inl (pc', ls', st', M'))) (hk : sn_K G adV D X m k0 z0 p l e R s mm args below meth c Q pc' ls' st' M') : sn_K G adV D X m k0 z0 p l e R s mm args below meth c Q pc ls (As.reverse ++ .retAddr t :: r) M := by
  obtain ⟨hw, -⟩ := sn_cok_w hok
  have hcat := sn_cats4 (G := G) hr4
  obtain ⟨hxx, hb, hml, -, hown, -, -, hfr, hlo⟩ := id C0
  rcases hP with rfl | rfl
  · subst hkd
    match t, As, hx with
    | i + 1, [], hx =>
      have hx' : (match am_texts[i]? with
        | some t => am_nx (pc + 3) ls (.int (Int32.ofNat t.length) :: r) M
        | none => none) = some (.inl (pc', ls', st', M')) := hx
      split at hx'
      next tx ht =>
        obtain ⟨rfl, rfl, rfl, rfl⟩ := am_nx_inj hx'
        obtain ⟨h1, h2⟩ := of_decide_eq_true hrm
        have hi : i < 8 := (List.getElem?_eq_some_iff.mp ht).1
        intro H locs cells slots lsA h3 h4 h5 h6 h7
        have kk := hk H locs cells slots lsA h3 h4 h5 h6 h7
        have hge := h3.1
        obtain ⟨-, -, -, -, hV, -⟩ := id h3.1
        have hE : tx = am_texts.getD i [] := by rw [List.getD_eq_getElem?_getD, ht]; rfl
        rw [hE] at kk
        obtain ⟨cell, r1, r2, r3, -⟩ := (hV.1 i hi).1
        refine js_calli (va_runV (C := "java/lang/String") (own := sn_cnm (sn_own m)) (Ts := []) (As := []) (rest := r.map (sn_cv G)) ⟨hxx, hb, hml, hown, fun w h => by cases h⟩ (js_met_length (adV := adV) (X := X) (G := G) l hi) ⟨sn_cb (index := k) (n := 0) (y := js_length) h3.1 js_length_cd js_w_iS (hw _ (by simp [sn_cw, js_length])) (by decide) (by decide +kernel) ⟨by show 1 + 1 ≤ _; omega, by show 8 + (1 + 11) + 20 ≤ _; omega⟩, h3.1.word js_w_in_length rfl, h3.1.word js_w_se_length rfl⟩ ⟨js_blind _ _ _ _, ⟨cell, r1, r2, r3⟩, fun U hU hW => ⟨rfl, by rw [hU]; exact h3.1.warm hW⟩⟩ rfl rfl h7.2.1 rfl (lv_room hcat) hd ⟨by omega, by omega⟩) kk
      next => cases hx'
  · subst hkd
    match t, As, hx with
    | i + 1, [.int x], hx =>
      have hx' : (match am_texts[i]? with
        | some t => if x < 0 then none else match t[x.toNatClampNeg]? with
          | some c => am_nx (pc + 3) ls (.int (Int32.ofNat c) :: r) M
          | none => none
        | none => none) = some (.inl (pc', ls', st', M')) := hx
      split at hx'
      next tx ht =>
        split at hx'
        next => cases hx'
        next h0 =>
          split at hx'
          next ch hch =>
            obtain ⟨rfl, rfl, rfl, rfl⟩ := am_nx_inj hx'
            obtain ⟨h1, h2⟩ := of_decide_eq_true hrm
            have hi : i < 8 := (List.getElem?_eq_some_iff.mp ht).1
            intro H locs cells slots lsA h3 h4 h5 h6 h7
            have kk := hk H locs cells slots lsA h3 h4 h5 h6 h7
            obtain ⟨-, -, -, -, hV, -⟩ := id h3.1
            have hE : tx = am_texts.getD i [] := by rw [List.getD_eq_getElem?_getD, ht]; rfl
            have hE2 : ch = (am_texts.getD i []).getD x.toNatClampNeg 0 := by rw [← hE, List.getD_eq_getElem?_getD, hch]; rfl
            have hlt : x.toNatClampNeg < (am_texts.getD i []).length := by rw [← hE]; exact (List.getElem?_eq_some_iff.mp hch).1
            rw [hE2] at kk
            obtain ⟨cell, r1, r2, r3, -⟩ := (hV.1 i hi).1
            refine js_calli (va_runV (C := "java/lang/String") (own := sn_cnm (sn_own m)) (Ts := []) (As := [.int x]) (rest := r.map (sn_cv G)) ⟨hxx, hb, hml, hown, fun w h => by cases h⟩ (js_met_ca (adV := adV) (X := X) (G := G) l hi h0 hlt) ⟨sn_cb (index := k) (n := 1) (y := js_ca) h3.1 js_ca_cd js_w_iS (hw _ (by simp [sn_cw, js_ca])) (by decide) (by decide +kernel) ⟨by show 3 + 1 ≤ _; omega, by show 8 + (2 + 11) + 64 ≤ _; omega⟩, h3.1.word js_w_in_ca rfl, h3.1.word js_w_se_ca rfl⟩ ⟨js_blind _ _ _ _, ⟨cell, r1, r2, r3⟩, fun U hU hW => ⟨rfl, by rw [hU]; exact h3.1.warm hW⟩⟩ rfl rfl h7.2.1 rfl (lv_room hcat) hd ⟨by omega, by omega⟩) kk
          next => cases hx'
      next => cases hx'
end SNA
