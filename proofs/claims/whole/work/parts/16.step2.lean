/-! ===== one step, whole; growth; calls; the abstract machine is the machine ===== -/
theorem am_if_some {α : Type} {c : Prop} [Decidable c] {a : Option α} {b : α} (h : (if c then a else none) = some b) : c ∧ a = some b := by
  by_cases hc : c
  · rw [if_pos hc] at h; exact ⟨hc, h⟩
  · rw [if_neg hc] at h; cases h
section SNZ
variable {G : sn_G} {adV : Nat → Nat} {D : va_G} {X : List Int32} {m k0 z0 : Nat} {p : Program} {l : Launch} {e : Env} {R : Room} {s : State} {mm : MethodId} {args : Array Value} {below : List Frame} {meth : Method} {c : Code} {Q : State → Prop}
theorem sn_lcmp {H : Heap} {locs : List Loc} {cells slots : Nat} {cc : ByteArray} {pc : Nat} {ls : Array Slot} {rest : List Value} (hexec : p.tables.exec = Jvm.exec) (hb : c.code = cc) {x y : Int64} (hdg : decode cc pc = .ok (.lcmp, 1))
    (k : W p l e R s mm args below meth c H locs cells slots Q (F0 mm (pc + 1) ls (sn_cv G (.int (am_lc x y)) :: rest))) : W p l e R s mm args below meth c H locs cells slots Q (F0 mm pc ls (.long y :: .long x :: rest)) := by
  intro T hT X
  obtain ⟨t, a, b⟩ := k T hT X
  refine ⟨t, ?_, b⟩
  by_cases h1 : y < x
  · have e1 : sn_cv G (.int (am_lc x y)) = .int 1 := by simp [am_lc, h1, sn_cv]
    rw [e1] at a
    jvm_step X.here [X.here.top, hexec, hb, hdg, h1]
    exact a
  · by_cases h2 : x = y
    · subst h2
      have e1 : sn_cv G (.int (am_lc x x)) = .int 0 := by simp [am_lc, h1, sn_cv]
      rw [e1] at a
      jvm_step X.here [X.here.top, hexec, hb, hdg]
      exact a
    · have e1 : sn_cv G (.int (am_lc x y)) = .int (-1) := by simp [am_lc, h1, h2, sn_cv]
      rw [e1] at a
      jvm_step X.here [X.here.top, hexec, hb, hdg, h1, h2]
      exact a
variable {pc n pc' : Nat} {ls ls' : am_Lc} {st st' : List Value} {M M' : am_Mem} {d : am_Dt}
set_option maxHeartbeats 4000000 in
/-- one step of the abstract machine is the machine's -/
theorem sn_step (C0 : sn_C m p R s mm meth c) (hz0 : s.heap.size = G.1 + k0) {q : Instr × Nat × am_Dt} (hq : am_at m pc = some q) (hx : am_ex X pc q.1 q.2.1 q.2.2 ls st M = some (.inl (pc', ls', st', M'))) (hroom0 : M.length ≤ k0 + R.cells ∧ sn_sz M ≤ z0 + R.slots) (hroom : M'.length ≤ k0 + R.cells ∧ sn_sz M' ≤ z0 + R.slots)
    (hk : sn_K G adV D X m k0 z0 p l e R s mm args below meth c Q pc' ls' st' M') : sn_K G adV D X m k0 z0 p l e R s mm args below meth c Q pc ls st M := by
  obtain ⟨-, hok⟩ := sn_ok hq
  obtain ⟨i, n, d⟩ := q
  unfold sn_okI at hok
  rw [Bool.and_eq_true] at hok
  obtain ⟨hdec, hlk⟩ := hok
  have hd := of_decide_eq_true hdec
  dsimp only at hd hlk hx
  cases i with
    | aconst_null =>
      have hn : n = 1 := eq_of_beq hlk
      subst hn
      exact sn_push (fun H locs cells slots lsA rest k => lv_null C0.1 C0.2.1 hd k) hx hk
    | iconst v =>
      have hn : n = 1 := eq_of_beq hlk
      subst hn
      exact sn_push (fun H locs cells slots lsA rest k => lv_iconst C0.1 C0.2.1 hd rfl k) hx hk
    | bipush v =>
      have hn : n = 2 := eq_of_beq hlk
      subst hn
      exact sn_push (fun H locs cells slots lsA rest k => lv_bipush C0.1 C0.2.1 hd rfl k) hx hk
    | sipush v =>
      have hn : n = 3 := eq_of_beq hlk
      subst hn
      exact sn_push (fun H locs cells slots lsA rest k => lv_sipush C0.1 C0.2.1 hd rfl k) hx hk
    | lconst v =>
      have hn : n = 1 := eq_of_beq hlk
      subst hn
      exact sn_push (fun H locs cells slots lsA rest k => lv_lconst C0.1 C0.2.1 hd rfl k) hx hk
    | iload k =>
      have hn : n = 2 := eq_of_beq hlk
      subst hn
      exact sn_ldI (fun H locs cells slots lsA rest x hl k => lv_iload C0.1 C0.2.1 hd hl k) hx hk
    | iload_n k =>
      have hn : n = 1 := eq_of_beq hlk
      subst hn
      exact sn_ldI (fun H locs cells slots lsA rest x hl k => lv_iload_n C0.1 C0.2.1 hd rfl hl k) hx hk
    | lload k =>
      have hn : n = 2 := eq_of_beq hlk
      subst hn
      exact sn_ldL (fun H locs cells slots lsA rest x hl k => lv_lload C0.1 C0.2.1 hd hl k) hx hk
    | lload_n k =>
      have hn : n = 1 := eq_of_beq hlk
      subst hn
      exact sn_ldL (fun H locs cells slots lsA rest x hl k => lv_lload_n C0.1 C0.2.1 hd rfl hl k) hx hk
    | aload k =>
      have hn : n = 2 := eq_of_beq hlk
      subst hn
      exact sn_ldA (fun H locs cells slots lsA rest x hl k => lv_aload C0.1 C0.2.1 hd hl k) (fun H locs cells slots lsA rest hl k => lv_aloadN C0.1 C0.2.1 hd hl k) hx hk
    | aload_n k =>
      have hn : n = 1 := eq_of_beq hlk
      subst hn
      exact sn_ldA (fun H locs cells slots lsA rest x hl k => lv_aload_n C0.1 C0.2.1 hd rfl hl k) (fun H locs cells slots lsA rest hl k => lv_aload_nN C0.1 C0.2.1 hd rfl hl k) hx hk
    | istore k =>
      have hn : n = 2 := eq_of_beq hlk
      subst hn
      exact sn_stI (fun H locs cells slots lsA rest x lv hl hi k => lv_istore C0.1 C0.2.1 hd hl hi rfl k) hx hk
    | istore_n k =>
      have hn : n = 1 := eq_of_beq hlk
      subst hn
      exact sn_stI (fun H locs cells slots lsA rest x lv hl hi k => lv_istore_n C0.1 C0.2.1 hd rfl hl hi rfl k) hx hk
    | astore k =>
      have hn : n = 2 := eq_of_beq hlk
      subst hn
      exact sn_stA (fun H locs cells slots lsA rest x lv hl hi k => lv_astore C0.1 C0.2.1 hd hl hi rfl k) (fun H locs cells slots lsA rest lv hl hi k => lv_astoreN C0.1 C0.2.1 hd hl hi rfl k) hx hk
    | astore_n k =>
      have hn : n = 1 := eq_of_beq hlk
      subst hn
      exact sn_stA (fun H locs cells slots lsA rest x lv hl hi k => lv_astore_n C0.1 C0.2.1 hd rfl hl hi rfl k) (fun H locs cells slots lsA rest lv hl hi k => lv_astore_nN C0.1 C0.2.1 hd rfl hl hi rfl k) hx hk
    | lstore k =>
      have hn : n = 2 := eq_of_beq hlk
      subst hn
      exact sn_stL (fun H locs cells slots lsA rest x lv hl hi k => lv_lstore C0.1 C0.2.1 hd hl hi rfl k) hx hk
    | iinc k cc =>
      have hn : n = 3 := eq_of_beq hlk
      subst hn
      have hx' : (match ls[k]? with
        | some (some (.int x)) => am_nx (pc + 3) (am_set1 ls k (.int (x + Int32.ofInt cc))) st M
        | _ => none) = some (.inl (pc', ls', st', M')) := hx
      split at hx'
      next x hl =>
        obtain ⟨rfl, rfl, rfl, rfl⟩ := am_nx_inj hx'
        intro H locs cells slots lsA h1 h2 h3 h4 h5
        obtain ⟨j, hj⟩ := List.getElem?_of_mem (sn_prs_in.mpr ⟨_, hl, rfl⟩ : (k, sn_cv G (.int x)) ∈ sn_prs G ls)
        have hkl : k < am_nL m := by rw [← h5.1]; exact (List.getElem?_eq_some_iff.mp hl).1
        exact lv_iinc C0.1 C0.2.1 hd h5.has hj rfl hkl rfl (fun ls' h' => hk H locs cells slots ls' h1 h2 h3 h4 (h5.st1 (v := .int (x + Int32.ofInt cc)) h'))
      next => cases hx'
    | iadd =>
      have hn : n = 1 := eq_of_beq hlk
      subst hn
      exact sn_i2 (fun H locs cells slots lsA rest x y k => lv_iadd C0.1 C0.2.1 hd k) hx hk
    | isub =>
      have hn : n = 1 := eq_of_beq hlk
      subst hn
      exact sn_i2 (fun H locs cells slots lsA rest x y k => lv_isub C0.1 C0.2.1 hd k) hx hk
    | imul =>
      have hn : n = 1 := eq_of_beq hlk
      subst hn
      exact sn_i2 (fun H locs cells slots lsA rest x y k => lv_imul C0.1 C0.2.1 hd k) hx hk
    | iand =>
      have hn : n = 1 := eq_of_beq hlk
      subst hn
      exact sn_i2 (fun H locs cells slots lsA rest x y k => lv_iand C0.1 C0.2.1 hd k) hx hk
    | ior =>
      have hn : n = 1 := eq_of_beq hlk
      subst hn
      exact sn_i2 (fun H locs cells slots lsA rest x y k => lv_ior C0.1 C0.2.1 hd k) hx hk
    | ixor =>
      have hn : n = 1 := eq_of_beq hlk
      subst hn
      exact sn_i2 (fun H locs cells slots lsA rest x y k => lv_ixor C0.1 C0.2.1 hd k) hx hk
    | ishl =>
      have hn : n = 1 := eq_of_beq hlk
      subst hn
      exact sn_i2 (fun H locs cells slots lsA rest x y k => lv_ishl C0.1 C0.2.1 hd k) hx hk
    | ishr =>
      have hn : n = 1 := eq_of_beq hlk
      subst hn
      exact sn_i2 (fun H locs cells slots lsA rest x y k => lv_ishr C0.1 C0.2.1 hd k) hx hk
    | iushr =>
      have hn : n = 1 := eq_of_beq hlk
      subst hn
      exact sn_i2 (fun H locs cells slots lsA rest x y k => lv_iushr C0.1 C0.2.1 hd rfl k) hx hk
    | idiv =>
      have hn : n = 1 := eq_of_beq hlk
      subst hn
      exact sn_d2 (fun H locs cells slots lsA rest x y hy k => lv_idiv C0.1 C0.2.1 hd hy k) hx hk
    | irem =>
      have hn : n = 1 := eq_of_beq hlk
      subst hn
      exact sn_d2 (fun H locs cells slots lsA rest x y hy k => lv_irem C0.1 C0.2.1 hd hy k) hx hk
    | ineg =>
      have hn : n = 1 := eq_of_beq hlk
      subst hn
      exact sn_i1 (fun H locs cells slots lsA rest x k => lv_ineg C0.1 C0.2.1 hd k) hx hk
    | i2l =>
      have hn : n = 1 := eq_of_beq hlk
      subst hn
      exact sn_i1 (fun H locs cells slots lsA rest x k => lv_i2l C0.1 C0.2.1 hd rfl k) hx hk
    | i2b =>
      have hn : n = 1 := eq_of_beq hlk
      subst hn
      exact sn_i1 (fun H locs cells slots lsA rest x k => lv_i2b C0.1 C0.2.1 hd rfl k) hx hk
    | i2s =>
      have hn : n = 1 := eq_of_beq hlk
      subst hn
      exact sn_i1 (fun H locs cells slots lsA rest x k => lv_i2s C0.1 C0.2.1 hd rfl k) hx hk
    | i2c =>
      have hn : n = 1 := eq_of_beq hlk
      subst hn
      exact sn_i1 (fun H locs cells slots lsA rest x k => lv_i2c C0.1 C0.2.1 hd rfl k) hx hk
    | ladd =>
      have hn : n = 1 := eq_of_beq hlk
      subst hn
      exact sn_l2 (fun H locs cells slots lsA rest x y k => lv_ladd C0.1 C0.2.1 hd k) hx hk
    | lmul =>
      have hn : n = 1 := eq_of_beq hlk
      subst hn
      exact sn_l2 (fun H locs cells slots lsA rest x y k => lv_lmul C0.1 C0.2.1 hd k) hx hk
    | land =>
      have hn : n = 1 := eq_of_beq hlk
      subst hn
      exact sn_l2 (fun H locs cells slots lsA rest x y k => lv_land C0.1 C0.2.1 hd k) hx hk
    | lor =>
      have hn : n = 1 := eq_of_beq hlk
      subst hn
      exact sn_l2 (fun H locs cells slots lsA rest x y k => lv_lor C0.1 C0.2.1 hd k) hx hk
    | lcmp =>
      have hn : n = 1 := eq_of_beq hlk
      subst hn
      exact sn_l2 (fun H locs cells slots lsA rest x y k => sn_lcmp C0.1 C0.2.1 hd k) hx hk
    | ldiv =>
      have hn : n = 1 := eq_of_beq hlk
      subst hn
      exact sn_dl2 (fun H locs cells slots lsA rest x y hy k => lv_ldiv C0.1 C0.2.1 hd hy k) hx hk
    | l2i =>
      have hn : n = 1 := eq_of_beq hlk
      subst hn
      match st, hx with
      | .long x :: r, hx =>
        obtain ⟨rfl, rfl, rfl, rfl⟩ := am_nx_inj hx
        intro H locs cells slots lsA h1 h2 h3 h4 h5
        exact lv_l2i C0.1 C0.2.1 hd rfl (hk H locs cells slots lsA h1 h2 h3 h4 h5)
    | lshl =>
      have hn : n = 1 := eq_of_beq hlk
      subst hn
      match st, hx with
      | .int y :: .long x :: r, hx =>
        obtain ⟨rfl, rfl, rfl, rfl⟩ := am_nx_inj hx
        intro H locs cells slots lsA h1 h2 h3 h4 h5
        exact lv_lshl C0.1 C0.2.1 hd rfl (hk H locs cells slots lsA h1 h2 h3 h4 h5)
    | dup =>
      have hn : n = 1 := eq_of_beq hlk
      subst hn
      match st, hx with
      | v :: r, hx =>
        have hx' : (if v.category = 1 then am_nx (pc + 1) ls _ M else none) = some (.inl (pc', ls', st', M')) := hx
        split at hx'
        next hc =>
          obtain ⟨rfl, rfl, rfl, rfl⟩ := am_nx_inj hx'
          intro H locs cells slots lsA h1 h2 h3 h4 h5
          exact lv_dup C0.1 C0.2.1 hd (by rw [sn_cv_cat]; exact hc) (hk H locs cells slots lsA h1 h2 h3 h4 h5)
        next => cases hx'
    | pop =>
      have hn : n = 1 := eq_of_beq hlk
      subst hn
      match st, hx with
      | v :: r, hx =>
        have hx' : (if v.category = 1 then am_nx (pc + 1) ls _ M else none) = some (.inl (pc', ls', st', M')) := hx
        split at hx'
        next hc =>
          obtain ⟨rfl, rfl, rfl, rfl⟩ := am_nx_inj hx'
          intro H locs cells slots lsA h1 h2 h3 h4 h5
          exact lv_pop C0.1 C0.2.1 hd (by rw [sn_cv_cat]; exact hc) (hk H locs cells slots lsA h1 h2 h3 h4 h5)
        next => cases hx'
    | dup_x1 =>
      have hn : n = 1 := eq_of_beq hlk
      subst hn
      match st, hx with
      | a :: b :: r, hx =>
        have hx' : (if a.category = 1 ∧ b.category = 1 then am_nx (pc + 1) ls _ M else none) = some (.inl (pc', ls', st', M')) := hx
        split at hx'
        next hc =>
          obtain ⟨rfl, rfl, rfl, rfl⟩ := am_nx_inj hx'
          intro H locs cells slots lsA h1 h2 h3 h4 h5
          exact lv_dup_x1 C0.1 C0.2.1 hd (by rw [sn_cv_cat]; exact hc.1) (by rw [sn_cv_cat]; exact hc.2) (hk H locs cells slots lsA h1 h2 h3 h4 h5)
        next => cases hx'
    | dup2 =>
      have hn : n = 1 := eq_of_beq hlk
      subst hn
      match st, hx with
      | a :: b :: r, hx =>
        have hx' : (if a.category = 1 ∧ b.category = 1 then am_nx (pc + 1) ls _ M else none) = some (.inl (pc', ls', st', M')) := hx
        split at hx'
        next hc =>
          obtain ⟨rfl, rfl, rfl, rfl⟩ := am_nx_inj hx'
          intro H locs cells slots lsA h1 h2 h3 h4 h5
          exact lv_dup2_11 C0.1 C0.2.1 hd (by rw [sn_cv_cat]; exact hc.1) (by rw [sn_cv_cat]; exact hc.2) (hk H locs cells slots lsA h1 h2 h3 h4 h5)
        next => cases hx'
    | goto off =>
      simp only [sn_lk, Bool.and_eq_true, beq_iff_eq] at hlk
      obtain ⟨hj, hn⟩ := hlk
      subst hn
      obtain ⟨rfl, rfl, rfl, rfl⟩ := am_nx_inj hx
      intro H locs cells slots lsA h1 h2 h3 h4 h5
      exact lv_goto C0.1 C0.2.1 hd (sn_tgt hj) (hk H locs cells slots lsA h1 h2 h3 h4 h5)
    | ifCond cnd off =>
      simp only [sn_lk, Bool.and_eq_true, beq_iff_eq] at hlk
      obtain ⟨hj, hn⟩ := hlk
      subst hn
      exact sn_if (sn_ifC C0 hd hj) rfl hx hk
    | if_icmp cnd off =>
      simp only [sn_lk, Bool.and_eq_true, beq_iff_eq] at hlk
      obtain ⟨hj, hn⟩ := hlk
      subst hn
      exact sn_icmp (sn_icmpC C0 hd hj) rfl hx hk
    | ifnull off =>
      simp only [sn_lk, Bool.and_eq_true, beq_iff_eq] at hlk
      obtain ⟨hj, hn⟩ := hlk
      subst hn
      match st, hx with
      | .ref a :: r, hx =>
        obtain ⟨rfl, rfl, rfl, rfl⟩ := am_nx_inj hx
        intro H locs cells slots lsA h1 h2 h3 h4 h5
        exact lv_ifnull C0.1 C0.2.1 hd (hk H locs cells slots lsA h1 h2 h3 h4 h5)
      | .null :: r, hx =>
        obtain ⟨rfl, rfl, rfl, rfl⟩ := am_nx_inj hx
        intro H locs cells slots lsA h1 h2 h3 h4 h5
        exact lv_ifnullN C0.1 C0.2.1 hd (sn_tgt hj) (hk H locs cells slots lsA h1 h2 h3 h4 h5)
    | ifnonnull off =>
      simp only [sn_lk, Bool.and_eq_true, beq_iff_eq] at hlk
      obtain ⟨hj, hn⟩ := hlk
      subst hn
      match st, hx with
      | .ref a :: r, hx =>
        obtain ⟨rfl, rfl, rfl, rfl⟩ := am_nx_inj hx
        intro H locs cells slots lsA h1 h2 h3 h4 h5
        exact lv_ifnonnull C0.1 C0.2.1 hd (sn_tgt hj) (hk H locs cells slots lsA h1 h2 h3 h4 h5)
      | .null :: r, hx =>
        obtain ⟨rfl, rfl, rfl, rfl⟩ := am_nx_inj hx
        intro H locs cells slots lsA h1 h2 h3 h4 h5
        exact lv_ifnonnullN C0.1 C0.2.1 hd (hk H locs cells slots lsA h1 h2 h3 h4 h5)
    | tableswitch dflt lo hi offs =>
      match st, hx with
      | .int x :: r, hx =>
        obtain ⟨rfl, rfl, rfl, rfl⟩ := am_nx_inj hx
        intro H locs cells slots lsA h1 h2 h3 h4 h5
        exact sn_swR C0 hd hlk (hk H locs cells slots lsA h1 h2 h3 h4 h5)
    | ldc k =>
      simp only [sn_lk, Bool.and_eq_true, beq_iff_eq] at hlk
      obtain ⟨hn, hlk⟩ := hlk
      subst hn
      obtain ⟨d1, d2⟩ := d
      match d2, hlk, hx with
      | [], hlk, hx =>
        obtain ⟨e0, he, h1⟩ := sn_any hlk
        simp only [Bool.and_eq_true, beq_iff_eq] at h1
        obtain ⟨⟨ho, hk2⟩, hdd⟩ := h1
        have w := sn_KL_ok e0 he
        rw [ho, hk2, hdd] at w
        obtain ⟨rfl, rfl, rfl, rfl⟩ := am_nx_inj hx
        intro H locs cells slots lsA h1 h2 h3 h4 h5
        exact lv_ldc C0.1 C0.2.1 C0.2.2.2.2.1 (h1.1.word w rfl) hd (hk H locs cells slots lsA h1 h2 h3 h4 h5)
      | q :: qs, hlk, hx =>
        simp only [Bool.and_eq_true, beq_iff_eq, decide_eq_true_eq] at hlk
        obtain ⟨⟨ho, h8⟩, hk2⟩ := hlk
        obtain ⟨rfl, rfl, rfl, rfl⟩ := am_nx_inj hx
        intro H locs cells slots lsA h1 h2 h3 h4 h5
        obtain ⟨-, -, -, hR, -⟩ := h1.1
        have hr := hR d1 h8
        subst hk2
        have hown := C0.2.2.2.2.1
        rw [ho] at hown
        exact va_ldcS C0.1 C0.2.1 hown hr hd (hk H locs cells slots lsA h1 h2 h3 h4 h5)
    | ldc_w k =>
      simp only [sn_lk, Bool.and_eq_true, beq_iff_eq] at hlk
      obtain ⟨hn, hlk⟩ := hlk
      subst hn
      obtain ⟨e0, he, h1⟩ := sn_any hlk
      simp only [Bool.and_eq_true, beq_iff_eq] at h1
      obtain ⟨⟨ho, hk2⟩, hdd⟩ := h1
      have w := sn_KL_ok e0 he
      rw [ho, hk2, hdd] at w
      obtain ⟨rfl, rfl, rfl, rfl⟩ := am_nx_inj hx
      intro H locs cells slots lsA h1 h2 h3 h4 h5
      exact lv_ldcw C0.1 C0.2.1 C0.2.2.2.2.1 (h1.1.word w rfl) hd (hk H locs cells slots lsA h1 h2 h3 h4 h5)
    | ldc2_w k =>
      simp only [sn_lk, Bool.and_eq_true, beq_iff_eq] at hlk
      obtain ⟨hn, hlk⟩ := hlk
      subst hn
      obtain ⟨e0, he, h1⟩ := sn_any hlk
      simp only [Bool.and_eq_true, beq_iff_eq] at h1
      obtain ⟨⟨ho, hk2⟩, hdd⟩ := h1
      have w := sn_KLL_ok e0 he
      rw [ho, hk2, hdd] at w
      obtain ⟨rfl, rfl, rfl, rfl⟩ := am_nx_inj hx
      intro H locs cells slots lsA h1 h2 h3 h4 h5
      exact lv_ldc2 C0.1 C0.2.1 C0.2.2.2.2.1 (h1.1.word w rfl) hd (hk H locs cells slots lsA h1 h2 h3 h4 h5)
    | getfield k =>
      simp only [sn_lk, Bool.and_eq_true, beq_iff_eq] at hlk
      obtain ⟨hn, hlk⟩ := hlk
      subst hn
      match st, hx with
      | .ref t :: r, hx =>
        have hx' : (match am_gf M t d.2 d.1 with
          | some v => am_nx (pc + 3) ls (v :: r) M
          | none => none) = some (.inl (pc', ls', st', M')) := hx
        split at hx'
        next v hg =>
          obtain ⟨rfl, rfl, rfl, rfl⟩ := am_nx_inj hx'
          intro H locs cells slots lsA h1 h2 h3 h4 h5
          exact sn_getf C0 h1 hlk hg hd (hk H locs cells slots lsA h1 h2 h3 h4 h5)
        next => cases hx'
    | putfield k =>
      simp only [sn_lk, Bool.and_eq_true, beq_iff_eq] at hlk
      obtain ⟨⟨hn, hlk⟩, hfin⟩ := hlk
      subst hn
      match st, hx with
      | v :: .ref t :: r, hx =>
        have hx' : (match am_pf M t d.2 d.1 v with
          | some M' => am_nx (pc + 3) ls r M'
          | none => none) = some (.inl (pc', ls', st', M')) := hx
        split at hx'
        next M2 hg =>
          obtain ⟨rfl, rfl, rfl, rfl⟩ := am_nx_inj hx'
          have hsz := sn_pf_sz hg
          intro H locs cells slots lsA h1 h2 h3 h4 h5
          exact sn_putf C0 h1 h2 hz0 h3 hlk hfin hg hd (fun H1 locs1 g1 g2 => hk H1 locs1 cells slots lsA g1 g2 (by omega) (by omega) h5)
        next => cases hx'
    | iaload =>
      have hn : n = 1 := eq_of_beq hlk
      subst hn
      match st, hx with
      | .int i :: .ref a :: r, hx =>
        have hx' : (match am_ia M a i with
          | some x => am_nx (pc + 1) ls (.int x :: r) M
          | none => none) = some (.inl (pc', ls', st', M')) := hx
        split at hx'
        next x hg =>
          obtain ⟨rfl, rfl, rfl, rfl⟩ := am_nx_inj hx'
          intro H locs cells slots lsA h1 h2 h3 h4 h5
          exact sn_ialoadR C0 h1 hg hd (hk H locs cells slots lsA h1 h2 h3 h4 h5)
        next => cases hx'
      | .int i :: .retAddr 0 :: r, hx =>
        have hx' : (if i < 0 then none else match X[i.toNatClampNeg]? with
          | some x => am_nx (pc + 1) ls (.int x :: r) M
          | none => none) = some (.inl (pc', ls', st', M')) := hx
        split at hx'
        next => cases hx'
        next h0 =>
          split at hx'
          next x hg =>
            obtain ⟨rfl, rfl, rfl, rfl⟩ := am_nx_inj hx'
            intro H locs cells slots lsA h1 h2 h3 h4 h5
            exact sn_ialoadX C0 h1 h2 h0 hg hd (hk H locs cells slots lsA h1 h2 h3 h4 h5)
          next => cases hx'
    | laload =>
      have hn : n = 1 := eq_of_beq hlk
      subst hn
      match st, hx with
      | .int i :: .ref a :: r, hx =>
        have hx' : (match am_la M a i with
          | some x => am_nx (pc + 1) ls (.long x :: r) M
          | none => none) = some (.inl (pc', ls', st', M')) := hx
        split at hx'
        next x hg =>
          obtain ⟨rfl, rfl, rfl, rfl⟩ := am_nx_inj hx'
          intro H locs cells slots lsA h1 h2 h3 h4 h5
          exact sn_laloadR C0 h1 hg hd (hk H locs cells slots lsA h1 h2 h3 h4 h5)
        next => cases hx'
    | aaload =>
      have hn : n = 1 := eq_of_beq hlk
      subst hn
      match st, hx with
      | .int i :: .ref a :: r, hx =>
        have hx' : (match am_aa M a i with
          | some x => am_nx (pc + 1) ls (x :: r) M
          | none => none) = some (.inl (pc', ls', st', M')) := hx
        split at hx'
        next x hg =>
          obtain ⟨rfl, rfl, rfl, rfl⟩ := am_nx_inj hx'
          intro H locs cells slots lsA h1 h2 h3 h4 h5
          exact sn_aaloadR C0 h1 hg hd (hk H locs cells slots lsA h1 h2 h3 h4 h5)
        next => cases hx'
    | iastore =>
      have hn : n = 1 := eq_of_beq hlk
      subst hn
      match st, hx with
      | .int x :: .int i :: .ref a :: r, hx =>
        have hx' : (match am_iset M a i x with
          | some M' => am_nx (pc + 1) ls r M'
          | none => none) = some (.inl (pc', ls', st', M')) := hx
        split at hx'
        next M2 hg =>
          obtain ⟨rfl, rfl, rfl, rfl⟩ := am_nx_inj hx'
          have hsz := sn_iset_sz hg
          intro H locs cells slots lsA h1 h2 h3 h4 h5
          exact sn_iastoreR C0 h1 h2 hz0 h3 hg hd (fun H1 locs1 g1 g2 => hk H1 locs1 cells slots lsA g1 g2 (by omega) (by omega) h5)
        next => cases hx'
    | lastore =>
      have hn : n = 1 := eq_of_beq hlk
      subst hn
      match st, hx with
      | .long x :: .int i :: .ref a :: r, hx =>
        have hx' : (match am_lset M a i x with
          | some M' => am_nx (pc + 1) ls r M'
          | none => none) = some (.inl (pc', ls', st', M')) := hx
        split at hx'
        next M2 hg =>
          obtain ⟨rfl, rfl, rfl, rfl⟩ := am_nx_inj hx'
          have hsz := sn_lset_sz hg
          intro H locs cells slots lsA h1 h2 h3 h4 h5
          exact sn_lastoreR C0 h1 h2 hz0 h3 hg hd (fun H1 locs1 g1 g2 => hk H1 locs1 cells slots lsA g1 g2 (by omega) (by omega) h5)
        next => cases hx'
    | aastore =>
      have hn : n = 1 := eq_of_beq hlk
      subst hn
      match st, hx with
      | x :: .int i :: .ref a :: r, hx =>
        have hx' : (match am_aset M a i x with
          | some M' => am_nx (pc + 1) ls r M'
          | none => none) = some (.inl (pc', ls', st', M')) := hx
        split at hx'
        next M2 hg =>
          obtain ⟨rfl, rfl, rfl, rfl⟩ := am_nx_inj hx'
          have hsz := sn_aset_sz hg
          intro H locs cells slots lsA h1 h2 h3 h4 h5
          exact sn_aastoreR C0 h1 h2 hz0 h3 hg hd (fun H1 locs1 g1 g2 => hk H1 locs1 cells slots lsA g1 g2 (by omega) (by omega) h5)
        next => cases hx'
    | arraylength =>
      have hn : n = 1 := eq_of_beq hlk
      subst hn
      match st, hx with
      | .ref a :: r, hx =>
        have hx' : (match am_len M a with
          | some x => am_nx (pc + 1) ls (.int x :: r) M
          | none => none) = some (.inl (pc', ls', st', M')) := hx
        split at hx'
        next x hg =>
          obtain ⟨rfl, rfl, rfl, rfl⟩ := am_nx_inj hx'
          intro H locs cells slots lsA h1 h2 h3 h4 h5
          exact sn_alenR C0 h1 hg hd (hk H locs cells slots lsA h1 h2 h3 h4 h5)
        next => cases hx'
      | .retAddr 0 :: r, hx =>
        obtain ⟨rfl, rfl, rfl, rfl⟩ := am_nx_inj hx
        intro H locs cells slots lsA h1 h2 h3 h4 h5
        exact sn_alenX C0 h1 h2 hd (hk H locs cells slots lsA h1 h2 h3 h4 h5)
    | newarray aty =>
      have hn : n = 2 := eq_of_beq hlk
      subst hn
      match st, hx with
      | .int x :: r, hx =>
        have hx' : (if x < 0 ∨ 100000 < x.toNatClampNeg then none else match aty with
          | .int => am_nx (pc + 2) ls (.ref M.length :: r) (M ++ [.inl (List.replicate x.toNatClampNeg 0)])
          | .long => am_nx (pc + 2) ls (.ref M.length :: r) (M ++ [.inr (.inl (List.replicate x.toNatClampNeg 0))])
          | _ => none) = some (.inl (pc', ls', st', M')) := hx
        split at hx'
        next => cases hx'
        next h0 =>
          split at hx'
          next =>
            obtain ⟨rfl, rfl, rfl, rfl⟩ := am_nx_inj hx'
            rw [List.length_append, sn_sz_app] at hroom
            simp only [List.length_singleton, sn_sz1, List.length_replicate] at hroom
            intro H locs cells slots lsA h1 h2 h3 h4 h5
            refine sn_newaR C0 h1 h2 hz0 h3 h0 hd (by omega) (by omega) (fun H1 g1 g2 => hk H1 locs _ _ lsA g1 g2 ?_ ?_ h5)
            · rw [List.length_append, List.length_singleton]; omega
            · rw [sn_sz_app]; simp only [sn_sz1, List.length_replicate]; omega
          next =>
            obtain ⟨rfl, rfl, rfl, rfl⟩ := am_nx_inj hx'
            rw [List.length_append, sn_sz_app] at hroom
            simp only [List.length_singleton, sn_sz1, List.length_replicate] at hroom
            intro H locs cells slots lsA h1 h2 h3 h4 h5
            refine sn_newaLR C0 h1 h2 hz0 h3 h0 hd (by omega) (by omega) (fun H1 g1 g2 => hk H1 locs _ _ lsA g1 g2 ?_ ?_ h5)
            · rw [List.length_append, List.length_singleton]; omega
            · rw [sn_sz_app]; simp only [sn_sz1, List.length_replicate]; omega
          next => cases hx'
    | anewarray k =>
      simp only [sn_lk, Bool.and_eq_true, beq_iff_eq] at hlk
      obtain ⟨hn, hlk⟩ := hlk
      subst hn
      match st, hx with
      | .int x :: r, hx =>
        have hx' : (if x < 0 ∨ 100000 < x.toNatClampNeg then none else am_nx (pc + 3) ls (.ref M.length :: r) (M ++ [.inr (.inr (.inl (d.1, List.replicate x.toNatClampNeg .null)))])) = some (.inl (pc', ls', st', M')) := hx
        split at hx'
        next => cases hx'
        next h0 =>
          obtain ⟨rfl, rfl, rfl, rfl⟩ := am_nx_inj hx'
          rw [List.length_append, sn_sz_app] at hroom
          simp only [List.length_singleton, sn_sz1, List.length_replicate] at hroom
          intro H locs cells slots lsA h1 h2 h3 h4 h5
          refine sn_anewR C0 h1 h2 hz0 h3 hlk h0 hd (by omega) (by omega) (fun H1 g1 g2 => hk H1 locs _ _ lsA g1 g2 ?_ ?_ h5)
          · rw [List.length_append, List.length_singleton]; omega
          · rw [sn_sz_app]; simp only [sn_sz1, List.length_replicate]; omega
    | new k =>
      simp only [sn_lk, Bool.and_eq_true, beq_iff_eq] at hlk
      obtain ⟨hn, hlk⟩ := hlk
      subst hn
      obtain ⟨rfl, rfl, rfl, rfl⟩ := am_nx_inj hx
      rw [List.length_append, sn_sz_app, List.length_singleton] at hroom
      intro H locs cells slots lsA h1 h2 h3 h4 h5
      refine sn_newR C0 h1 h2 hz0 h3 hlk hd (by omega) (by omega) (fun H1 g1 g2 => hk H1 locs _ _ lsA g1 g2 ?_ ?_ h5)
      · rw [List.length_append, List.length_singleton]; omega
      · rw [sn_sz_app]; omega
    | instanceof k =>
      simp only [sn_lk, Bool.and_eq_true, beq_iff_eq] at hlk
      obtain ⟨hn, hlk⟩ := hlk
      subst hn
      match st, hx with
      | .ref t :: r, hx =>
        have hx' : (match am_cls M t with
          | some c => match d.2.lookup c with
            | some b => am_nx (pc + 3) ls (.int (Int32.ofNat b) :: r) M
            | none => none
          | none => none) = some (.inl (pc', ls', st', M')) := hx
        split at hx'
        next ci hc =>
          split at hx'
          next b hb2 =>
            obtain ⟨rfl, rfl, rfl, rfl⟩ := am_nx_inj hx'
            intro H locs cells slots lsA h1 h2 h3 h4 h5
            exact sn_instR C0 h1 hlk hc hb2 hd (hk H locs cells slots lsA h1 h2 h3 h4 h5)
          next => cases hx'
        next => cases hx'
    | invokestatic k =>
      simp only [sn_lk, Bool.and_eq_true, beq_iff_eq] at hlk
      obtain ⟨hn, hlk⟩ := hlk
      subst hn
      obtain ⟨d1, d2⟩ := d
      match d2, hlk, hx with
      | [(c0, f)], hlk, hx =>
        have hx' : (match am_args d1 st with
          | some (As, r) => am_call f (pc + 3) ls As r M
          | none => none) = some (.inl (pc', ls', st', M')) := hx
        split at hx'
        next As r ha =>
          obtain ⟨hst, hlen⟩ := am_args_spec ha
          subst hst
          unfold am_call at hx'
          split at hx'
          next => cases hx'
          next hr4 =>
            split at hx'
            next hf =>
              obtain ⟨kd, cc, xx, gx, ps, hok, hP, hrm, hck⟩ := sn_call1 (P := fun q => q == 0 || q == 1 || q == 21 || q == 22 || q == 23) hlk
              have hkd := sn_ck_nat hck hf
              simp only [Bool.or_eq_true, beq_iff_eq] at hP
              have hM : M.length ≤ k0 + R.cells ∧ sn_sz M ≤ z0 + R.slots := hroom0
              exact sn_natS C0 hz0 hM hd hok hkd (by omega) hrm hr4 hx' hk
            next => cases hx'
        next => cases hx'
    | invokespecial k =>
      simp only [sn_lk, Bool.and_eq_true, beq_iff_eq] at hlk
      obtain ⟨hn, hlk⟩ := hlk
      subst hn
      obtain ⟨d1, d2⟩ := d
      match d2, hlk, hx with
      | [(c0, f)], hlk, hx =>
        have hx' : (match am_args d1 st with
          | some (As, .ref t :: r) => if (am_cls M t).isSome = true then am_call f (pc + 3) ls (.ref t :: As) r M else none
          | _ => none) = some (.inl (pc', ls', st', M')) := hx
        split at hx'
        next As t r ha =>
          obtain ⟨hst, hlen⟩ := am_args_spec ha
          subst hst
          replace hx' := (am_if_some hx').2
          unfold am_call at hx'
          split at hx'
          next => cases hx'
          next hr4 =>
            split at hx'
            next hf =>
              obtain ⟨kd, cc, xx, gx, ps, hok, hP, hrm, hck⟩ := sn_call1 (P := fun q => q == 2 || q == 3 || q == 4 || q == 20) hlk
              have hkd := sn_ck_nat hck hf
              simp only [Bool.or_eq_true, beq_iff_eq] at hP
              have hk20 : kd = 20 := by omega
              subst hk20
              exact sn_natI C0 hd hok hkd hlen hrm hr4 hx' hk
            next => cases hx'
        next => cases hx'
    | invokevirtual k =>
      simp only [sn_lk, Bool.and_eq_true, beq_iff_eq] at hlk
      obtain ⟨hn, hlk⟩ := hlk
      subst hn
      have hx' : (match am_args d.1 st with
        | some (As, .ref t :: r) => match am_cls M t with
          | some c => match d.2.lookup c with
            | some f => if 1000 ≤ f then none else am_call f (pc + 3) ls (.ref t :: As) r M
            | none => none
          | none => none
        | some (As, .retAddr k :: r) => match d.2 with
          | (_, f) :: _ => if 1000 ≤ f then am_call f (pc + 3) ls (.retAddr k :: As) r M else none
          | [] => none
        | _ => none) = some (.inl (pc', ls', st', M')) := hx
      split at hx'
      next As t r ha =>
        split at hx'
        next =>
          split at hx'
          next f hl =>
            split at hx'
            next => cases hx'
            next hf =>
              unfold am_call at hx'
              split at hx'
              next => cases hx'
              next => cases hx'
          next => cases hx'
        next => cases hx'
      next As t r ha =>
        obtain ⟨hst, hlen⟩ := am_args_spec ha
        subst hst
        split at hx'
        next c0 f tl hd2 =>
          split at hx'
          next hf =>
            unfold am_call at hx'
            split at hx'
            next => cases hx'
            next hr4 =>
              rw [hd2] at hlk
              have hl0 := List.all_eq_true.mp hlk _ List.mem_cons_self
              obtain ⟨kd, cc, xx, gx, ps, hok, hP, -, hrm, hck⟩ := sn_call2 (P := fun q => q == 5 || q == 6 || q == 24 || q == 25) hl0
              have hkd := sn_ck_nat hck hf
              simp only [Bool.or_eq_true, beq_iff_eq] at hP
              exact sn_natT C0 hroom0 hd hok hkd (by omega) hrm hr4 hx' hk
          next => cases hx'
        next => cases hx'
      next => cases hx'
    | ireturn =>
      exfalso
      simp only [am_ex] at hx
      (repeat' split at hx) <;> cases hx
    | lreturn =>
      exfalso
      simp only [am_ex] at hx
      (repeat' split at hx) <;> cases hx
    | areturn =>
      exfalso
      simp only [am_ex] at hx
      (repeat' split at hx) <;> cases hx
    | return_ =>
      exfalso
      simp only [am_ex] at hx
      (repeat' split at hx) <;> cases hx
    | _ => cases hx
end SNZ
