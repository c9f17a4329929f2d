/-! ===== calls by their sorts; the induction ===== -/
theorem sn_CL_gx : ∀ e ∈ sn_CL, e.2.1 = 6 → 1 ≤ e.2.2.2.2.2.2.1 ∧ e.2.2.2.2.2.2.1 < 254 := by decide +kernel
theorem sn_call3 {m k n c f : Nat} {P : Nat → Bool} (h : sn_CL.any (fun e => e.1.1 == sn_own m && e.1.2 == k && P e.2.1 && e.2.2.1 == n && (1000 ≤ f || e.2.2.2.1 == c) && e.2.2.2.2.1 == f && sn_rm m f && sn_ck e.2.1 f) = true) : ∃ (kd cc xx gx : Nat) (ps : List (Nat × Nat)), sn_cok ((sn_own m, k), (kd, (n, (cc, (f, (xx, (gx, ps))))))) = true ∧ P kd = true ∧ (1000 ≤ f ∨ cc = c) ∧ sn_rm m f = true ∧ sn_ck kd f = true ∧ (kd = 6 → 1 ≤ gx ∧ gx < 254) := by
  obtain ⟨e, he, h1⟩ := sn_any h
  have hok := sn_CL_ok e he
  have hgx := sn_CL_gx e he
  obtain ⟨⟨o, i⟩, kd, n', cc, f', xx, gx, ps⟩ := e
  simp only [Bool.and_eq_true, beq_iff_eq, Bool.or_eq_true, decide_eq_true_eq] at h1
  obtain ⟨⟨⟨⟨⟨⟨⟨rfl, rfl⟩, h2⟩, rfl⟩, h5⟩, rfl⟩, h3⟩, h4⟩ := h1
  exact ⟨kd, cc, xx, gx, ps, hok, h2, h5, h3, h4, hgx⟩
section SU
variable {p : Program} {l : Launch} {e : Env} {R : Room} {s : State} {m : MethodId} {args : Array Value} {below : List Frame} {meth : Method} {c : Code} {H : Heap} {locs : List Loc} {cells slots : Nat}
/-- super.m(..), the method standing in the superclass or above it -/
theorem su_run {x y : MethodName} {bytes cc : ByteArray} {maxL nL mc ms n index : Nat} {ret : Option FieldType} {ws : List Cond} {rm : Room} {Pc : Array Value → State → Prop} {Qc : Array Value → State → Outcome → State → Prop} {free : Addr → Prop} {own C : String} {cC : ClassId} {b : Addr} {As rest : List Value} {g : JFrame}
    (hat : ClassAt s C cC) (hx : p.tables.exec = Jvm.exec) (hb : c.code = cc) (hml : c.maxLocals = nL) (ho : s.vm.findClass own = some m.cls) (hM : Met l y ws rm Pc Qc mc ms free)
    (hbk : rm.cells = mc ∧ rm.slots = ms ∧ rm.frames + 1 ≤ R.frames ∧ 8 + (maxL + 11) + rm.locals ≤ R.locals ∧ (∀ w ∈ ws, ∀ (a' : Array Value) (U : State), s.WarmedH U.vm → w.before a' U = true) ∧ Cond.code y bytes maxL ret ∈ ws)
    (hlink : (Cond.methodLink own index x).before args s = true) (hsame : (Cond.sameMethod x.cls y.cls x.name x.desc).before args s = true) (hsup : (Cond.superclass own x.cls).before args s = true) (hup : x.cls = y.cls ∨ (Cond.superclass x.cls y.cls).before args s = true)
    (hyx : y = ⟨y.cls, x.name, x.desc⟩) (hinst : (Cond.instanceMethod y).before args s = true) (hini : (Cond.initialized y.cls).before args s = true) (hcode : (Cond.code y bytes maxL ret).before args s = true) (hno : x.name ≠ "<init>") (hlen : ∀ sig, parseMethodDescriptor y.desc = some sig → n = sig.parameters.length)
    (hp : PreV s H C b Pc As)
    (hg : g.method = m) (hn : As.length = n) (hsize : g.locals.size = nL) (hstack : g.stack = As.reverse ++ .ref b :: rest) (hW : 2 * g.monitorRoom + (rest.map fun v => v.category).sum ≤ 8) (hdg : decode cc g.pc = .ok (.invokespecial index, 3)) (hf : cells + mc ≤ R.cells ∧ slots + ms ≤ R.slots) :
    va_Run p l e R s m args below meth c H locs cells slots mc ms g rest (Qc (Value.ref b :: As).toArray) (free) := by
  obtain ⟨hrc, hrs, hfr, hlo, hws, hcw⟩ := hbk
  have hK : Back l R p e below s args y 3 8 (PreOf R mc ms Pc) (PostOf Qc mc ms free) := back_of (bytes := bytes) (maxL := maxL) (ret := ret) hM hp.1 hrc hrs hfr hlo hws hcw (fun a' U hW => word_at hW (Or.inl (by first | rfl | simp [Cond.onTables, Cond.keeps, Cond.steady])) hini)
  obtain ⟨-, ⟨cellB, hcB, hoB, hclB⟩, hPc⟩ := hp
  obtain ⟨hfc, kB, hkB, -⟩ := hat
  cases hfc.symm.trans hclB
  obtain ⟨mk, methM, hnamed, hmethM, hstM, habM⟩ := Cond.instanceMethod_spec hinst
  obtain ⟨methM', cM, hmethM', -, -, -, -, -, -, hsigM⟩ := Cond.code_spec hnamed hcode
  cases hmethM.symm.trans hmethM'
  obtain ⟨ps, dk, kp, hps, hdk, hkp, hsuper, -, hkpo, hnid⟩ := Cond.superclass_spec ho hsup
  have hnm : s.methodNamed? ⟨y.cls, x.name, x.desc⟩ = some mk := by rw [← hyx]; exact hnamed
  have hyc : s.vm.findClass y.cls = some mk.cls := findClass_of_methodNamed hnamed
  have hsub : s.vm.isSubclass ps mk.cls = true := by
    rcases hup with h | h
    · have hpm : ps = mk.cls := Option.some.inj (hps.symm.trans (by rw [h]; exact hyc))
      rw [hpm]; simp [Vm.isSubclass, Vm.isSubclassAux]
    · obtain ⟨q, k1, kq, hq, hk1, hkq, hs1, -⟩ := Cond.superclass_spec hps h
      have hqm : q = mk.cls := Option.some.inj (hq.symm.trans hyc)
      subst hqm
      have hlt : ps < s.vm.classes.size := (Array.getElem?_eq_some_iff.mp hk1).1
      have hpos : 0 < s.vm.classes.size := Nat.lt_of_le_of_lt (Nat.zero_le _) hlt
      by_cases hpq : ps = mk.cls
      · rw [hpq]; simp [Vm.isSubclass, Vm.isSubclassAux]
      · obtain ⟨w, hw⟩ : ∃ w, s.vm.classes.size = w + 1 := ⟨s.vm.classes.size - 1, (Nat.succ_pred_eq_of_pos hpos).symm⟩
        simp [Vm.isSubclass, Vm.isSubclassAux, hw, hk1, hs1]
  intro T hT X
  obtain ⟨vm₁, X₁, hstep₁⟩ := X.invokespecialUp hx ho hlink hsame hnm hmethM hstM habM hno hdk hnid hps hsuper hsub (a := b) (cell := cellB) (by rw [hT]; exact hcB)
    (fun z h => by rw [h] at hoB; cases hoB) hkB (g := g) hg (argsL := As) (rest := rest) (by rw [hn]; exact hlen _ hsigM) hstack (by rw [hb]; exact hdg)
  obtain ⟨v, B, X', hpost, hsteps⟩ := hK m meth c ⟨T.setVm vm₁, locs, cells, slots⟩ { g with stack := rest } (.invokespecial index) mk (Value.ref b :: As).toArray X₁ hg (hsize.trans hml.symm) (by rw [hb]; exact hdg) hW (X₁.named hnamed) ⟨hf.1, hf.2, hPc (T.setVm vm₁) hT X₁.warmed⟩
  obtain ⟨U', l2, c2, s2⟩ := B
  obtain ⟨g', mk', t, L, e1, e2, hq, h1, hL, h2, h3⟩ := hpost
  dsimp only [Pt.U, Pt.locs, Pt.cells, Pt.slots] at X' e1 e2 h1 h2 h3 hsteps
  subst h1; subst h2; subst h3
  exact ⟨v, (T.setVm vm₁).calling g' mk' (Value.ref b :: As).toArray, t, U', L, hT, X', hL, e1, e2, hq, fun target h => hstep₁ _ (by rw [doInvoke_state]; exact hsteps.trans h)⟩
end SU
section SNE
variable {G : sn_G} {adV : Nat → Nat} {D : va_G} {X : List Int32} {m k0 z0 : Nat} {p : Program} {l : Launch} {e : Env} {R : Room} {s : State} {mm : MethodId} {args : Array Value} {below : List Frame} {meth : Method} {c : Code} {Q : State → Prop}
variable {pc n pc' : Nat} {ls ls' : am_Lc} {st st' : List Value} {M M' M1 : am_Mem} {d : am_Dt} {rv : Option Value}
theorem sn_pre {H : Heap} {As : List Value} (h1 : sn_W G adV D X M s H) : PreS s H (sn_Pc G adV D X As M) (As.map (sn_cv G)) := ⟨sn_blind G adV D X As M, fun U hU hW => ⟨rfl, by rw [hU]; exact h1.warm hW⟩⟩
theorem sn_preI {H : Heap} {As : List Value} {t : Nat} (h1 : sn_W G adV D X M s H) : PreS s H (sn_Pc G adV D X (.ref t :: As) M) (.ref (G.1 + t) :: As.map (sn_cv G)) := ⟨sn_blind G adV D X _ M, fun U hU hW => ⟨rfl, by rw [hU]; exact h1.warm hW⟩⟩
theorem sn_preV {H : Heap} {As : List Value} {t ci : Nat} {q : vw_C} {fs : List Value} (h1 : sn_W G adV D X M s H) (hq : vwCl[ci]? = some q) (hM : M[t]? = some (.inr (.inr (.inr (ci, fs))))) : PreV s H q.1 (G.1 + t) (sn_Pc G adV D X (.ref t :: As) M) (As.map (sn_cv G)) := ⟨sn_blind G adV D X _ M, va_recv h1.2.1 h1.2.2.1 hq (sn_get0 G hM), fun U hU hW => ⟨rfl, by rw [hU]; exact h1.warm hW⟩⟩
theorem sn_stk (G : sn_G) (As r : List Value) : (As.reverse ++ r).map (sn_cv G) = (As.map (sn_cv G)).reverse ++ r.map (sn_cv G) := by rw [List.map_append, List.map_reverse]
set_option maxHeartbeats 4000000 in
theorem sn_callS (C0 : sn_C m p R s mm meth c) (hz0 : s.heap.size = G.1 + k0) (hroom : M1.length ≤ k0 + R.cells ∧ sn_sz M1 ≤ z0 + R.slots) (hg : M.length ≤ M1.length ∧ sn_sz M ≤ sn_sz M1) {k f kd cc xx gx : Nat} {ps : List (Nat × Nat)} {As r : List Value} (hd : decode (sn_bs m) pc = .ok (.invokestatic k, 3)) (hok : sn_cok ((sn_own m, k), (kd, (n, (cc, (f, (xx, (gx, ps))))))) = true) (hP : kd = 0 ∨ kd = 1) (hf : ¬ 1000 ≤ f) (hrm : sn_rm m f = true) (hn : As.length = n) (hr4 : ¬ 4 < r.length)
    (hmet : sn_met G adV D X l f As M rv M1) (hk : sn_K G adV D X m k0 z0 p l e R s mm args below meth c Q (pc + 3) ls (rv.toList ++ r) M1) : sn_K G adV D X m k0 z0 p l e R s mm args below meth c Q pc ls (As.reverse ++ r) M := by
  obtain ⟨hw, hxc⟩ := sn_cok_w hok
  obtain ⟨hf1, hfr, hlo⟩ := sn_rm_own hrm hf
  have hcat := sn_cats4 (G := G) hr4
  obtain ⟨hxx, hb, hml, -, hown, -, -, hfr0, hlo0⟩ := id C0
  intro H locs cells slots lsA h1 h2 h3 h4 h5
  rw [sn_stk]
  refine sn_after h1 h2 hz0 h3 h4 h5 hg (rv := rv) (M1 := M1) (a := (As.map (sn_cv G)).toArray) ?_ hk
  rcases hP with rfl | rfl
  · simp only [sn_cx, Bool.and_eq_true] at hxc
    obtain ⟨hmh, har⟩ := hxc
    obtain ⟨⟨b1, b2, b3, b4, b5, b6⟩, b7, b8, b9⟩ := sn_cbf (args := args) (R := R) (rm := { frames := sn_fr f, cells := M1.length - M.length, slots := sn_sz M1 - sn_sz M, locals := sn_lo f }) h1.1 (k0' := 0) hf1 (hw _ (by simp [sn_cw])) hmh ⟨by show sn_fr f + 1 ≤ _; omega, by show 8 + (am_nL f + 11) + sn_lo f ≤ _; omega⟩
    exact va_runS (own := sn_cnm (sn_own m)) (index := k) (n := n) (nL := am_nL m) (cc := sn_bs m) (bytes := sn_bs f) (maxL := am_nL f) (ret := sn_rt f) (Ts := []) (As := As.map (sn_cv G)) (rest := r.map (sn_cv G)) ⟨hxx, hb, hml, hown, fun w h => by cases h⟩ hmet ⟨⟨b1, b2, b3, b4, b5, b6, b7, b8, b9, sn_arity har, h1.1.word (hw _ (by simp [sn_cw])) rfl⟩, h1.1.word (hw _ (by simp [sn_cw])) rfl⟩ (sn_pre h1) rfl (by rw [List.length_map]; exact hn) h5.2.1 rfl (lv_room hcat) hd ⟨by omega, by omega⟩
  · simp only [sn_cx, Bool.and_eq_true] at hxc
    obtain ⟨hmh, har⟩ := hxc
    obtain ⟨b0, b7, b8, b9⟩ := sn_cbf (args := args) (R := R) (rm := { frames := sn_fr f, cells := M1.length - M.length, slots := sn_sz M1 - sn_sz M, locals := sn_lo f }) h1.1 (k0' := 0) hf1 (hw _ (by simp [sn_cw])) hmh ⟨by show sn_fr f + 1 ≤ _; omega, by show 8 + (am_nL f + 11) + sn_lo f ≤ _; omega⟩
    exact va_runSN (own := sn_cnm (sn_own m)) (host := "ToLiftToStrike") (index := k) (n := n) (nL := am_nL m) (cc := sn_bs m) (bytes := sn_bs f) (maxL := am_nL f) (ret := sn_rt f) (Ts := []) (As := As.map (sn_cv G)) (rest := r.map (sn_cv G)) ⟨hxx, hb, hml, hown, fun w h => by cases h⟩ hmet ⟨⟨b0, b7, b8, b9, sn_arity har, h1.1.word (hw _ (by simp [sn_cw])) rfl⟩, h1.1.word (hw _ (by simp [sn_cw])) rfl, trivial⟩ (sn_pre h1) rfl (by rw [List.length_map]; exact hn) h5.2.1 rfl (lv_room hcat) hd ⟨by omega, by omega⟩
set_option maxHeartbeats 4000000 in
theorem sn_callI (C0 : sn_C m p R s mm meth c) (hz0 : s.heap.size = G.1 + k0) (hroom : M1.length ≤ k0 + R.cells ∧ sn_sz M1 ≤ z0 + R.slots) (hg : M.length ≤ M1.length ∧ sn_sz M ≤ sn_sz M1) {k f kd cc xx gx t : Nat} {ps : List (Nat × Nat)} {As r : List Value} (hd : decode (sn_bs m) pc = .ok (.invokespecial k, 3)) (hok : sn_cok ((sn_own m, k), (kd, (n, (cc, (f, (xx, (gx, ps))))))) = true) (hP : kd = 2 ∨ kd = 3 ∨ kd = 4) (hf : ¬ 1000 ≤ f) (hrm : sn_rm m f = true) (hn : As.length = n) (hr4 : ¬ 4 < r.length) (hobj : ∃ (ci : Nat) (fs : List Value), M[t]? = some (.inr (.inr (.inr (ci, fs)))))
    (hmet : sn_met G adV D X l f (.ref t :: As) M rv M1) (hk : sn_K G adV D X m k0 z0 p l e R s mm args below meth c Q (pc + 3) ls (rv.toList ++ r) M1) : sn_K G adV D X m k0 z0 p l e R s mm args below meth c Q pc ls (As.reverse ++ .ref t :: r) M := by
  obtain ⟨hw, hxc⟩ := sn_cok_w hok
  obtain ⟨hf1, hfr, hlo⟩ := sn_rm_own hrm hf
  have hcat := sn_cats4 (G := G) hr4
  obtain ⟨hxx, hb, hml, -, hown, -, -, hfr0, hlo0⟩ := id C0
  intro H locs cells slots lsA h1 h2 h3 h4 h5
  rw [sn_stk]
  refine sn_after h1 h2 hz0 h3 h4 h5 hg (rv := rv) (M1 := M1) (a := (Value.ref (G.1 + t) :: As.map (sn_cv G)).toArray) ?_ hk
  rcases hP with rfl | rfl | rfl
  · simp only [sn_cx, Bool.and_eq_true, decide_eq_true_eq] at hxc
    obtain ⟨⟨⟨hmh, har⟩, hnm⟩, hrt⟩ := hxc
    obtain ⟨⟨b1, b2, b3, b4, b5, b6⟩, b7, b8, b9⟩ := sn_cbf (args := args) (R := R) (rm := { frames := sn_fr f, cells := M1.length - M.length, slots := sn_sz M1 - sn_sz M, locals := sn_lo f }) h1.1 (k0' := 0) hf1 (hw _ (by simp [sn_cw])) hmh ⟨by show sn_fr f + 1 ≤ _; omega, by show 8 + (am_nL f + 11) + sn_lo f ≤ _; omega⟩
    unfold sn_cd at b5 b6 b7
    unfold sn_met sn_cd at hmet
    rw [hrt] at b5 b6 b7 hmet
    exact va_runI (own := sn_cnm (sn_own m)) (index := k) (n := n) (nL := am_nL m) (cc := sn_bs m) (bytes := sn_bs f) (maxL := am_nL f) (Ts := []) (b := G.1 + t) (As := As.map (sn_cv G)) (rest := r.map (sn_cv G)) ⟨hxx, hb, hml, hown, fun w h => by cases h⟩ hmet ⟨⟨b1, b2, b3, b4, b5, b6, b7, b8, b9, sn_arity har, h1.1.word (hw _ (by simp [sn_cw])) rfl⟩, hnm, h1.1.word (hw _ (by simp [sn_cw])) rfl⟩ (sn_preI h1) rfl (by rw [List.length_map]; exact hn) h5.2.1 rfl (lv_room hcat) hd ⟨by omega, by omega⟩
  · simp only [sn_cx, Bool.and_eq_true, decide_eq_true_eq] at hxc
    obtain ⟨⟨⟨hmh, har⟩, hnm⟩, hrt⟩ := hxc
    obtain ⟨b0, b7, b8, b9⟩ := sn_cbf (args := args) (R := R) (rm := { frames := sn_fr f, cells := M1.length - M.length, slots := sn_sz M1 - sn_sz M, locals := sn_lo f }) h1.1 (k0' := 0) hf1 (hw _ (by simp [sn_cw])) hmh ⟨by show sn_fr f + 1 ≤ _; omega, by show 8 + (am_nL f + 11) + sn_lo f ≤ _; omega⟩
    unfold sn_cd at b0 b7
    unfold sn_met sn_cd at hmet
    rw [hrt] at b0 b7 hmet
    exact va_runIN (own := sn_cnm (sn_own m)) (host := "ToLiftToStrike") (index := k) (n := n) (nL := am_nL m) (cc := sn_bs m) (bytes := sn_bs f) (maxL := am_nL f) (Ts := []) (b := G.1 + t) (As := As.map (sn_cv G)) (rest := r.map (sn_cv G)) ⟨hxx, hb, hml, hown, fun w h => by cases h⟩ hmet ⟨⟨b0, b7, b8, b9, sn_arity har, h1.1.word (hw _ (by simp [sn_cw])) rfl⟩, hnm, h1.1.word (hw _ (by simp [sn_cw])) rfl⟩ (sn_preI h1) rfl (by rw [List.length_map]; exact hn) h5.2.1 rfl (lv_room hcat) hd ⟨by omega, by omega⟩
  · simp only [sn_cx, Bool.and_eq_true, decide_eq_true_eq] at hxc
    obtain ⟨⟨hyx, hno⟩, har⟩ := hxc
    obtain ⟨ci, fs, hM⟩ := hobj
    have h13 : ci < 13 := by
      obtain ⟨r0, hr0, -⟩ := h1.2.2.1 t _ (sn_get0 G hM)
      exact (List.getElem?_eq_some_iff.mp hr0).1
    obtain ⟨q, hq, hqn⟩ := sn_cnmq ci h13
    have hcd := sn_cd_in f hf1.1 hf1.2
    have hini : Cond.initialized (sn_nm f).cls ∈ lw_tbl := hw _ (by simp [sn_cw])
    refine su_run (x := sn_xn xx) (y := sn_nm f) (own := sn_cnm (sn_own m)) (index := k) (n := n) (nL := am_nL m) (cc := sn_bs m) (bytes := sn_bs f) (maxL := am_nL f) (ret := sn_rt f) (C := q.1) (b := G.1 + t) (As := As.map (sn_cv G)) (rest := r.map (sn_cv G)) (h1.2.1.1 ci q hq).2 hxx hb hml hown hmet ⟨rfl, rfl, by show sn_fr f + 1 ≤ _; omega, by show 8 + (am_nL f + 11) + sn_lo f ≤ _; omega, fun w hw2 a' U hW => ?_, List.mem_cons_self⟩ (h1.1.word (hw _ (by simp [sn_cw])) rfl) (h1.1.word (hw _ (by simp [sn_cw])) rfl) (h1.1.word (hw _ (by simp [sn_cw])) rfl) ?_ hyx (h1.1.word (hw _ (by simp [sn_cw])) rfl) (h1.1.word hini rfl) (h1.1.word hcd rfl) hno (sn_arity har) (sn_preV h1 hq hM) rfl (by rw [List.length_map]; exact hn) h5.2.1 rfl (lv_room hcat) hd ⟨by omega, by omega⟩
    · rw [List.mem_singleton] at hw2
      subst hw2
      exact word_at hW (Or.inl rfl) (h1.1.word (args := args) hcd rfl)
    · by_cases hxy : (sn_xn xx).cls = (sn_nm f).cls
      · exact Or.inl hxy
      · exact Or.inr (h1.1.word (hw _ (by simp [sn_cw, hxy])) rfl)
set_option maxHeartbeats 4000000 in
theorem sn_callV (C0 : sn_C m p R s mm meth c) (hz0 : s.heap.size = G.1 + k0) (hroom : M1.length ≤ k0 + R.cells ∧ sn_sz M1 ≤ z0 + R.slots) (hg : M.length ≤ M1.length ∧ sn_sz M ≤ sn_sz M1) {k f kd cc xx gx t : Nat} {ps : List (Nat × Nat)} {As r fs : List Value} (hd : decode (sn_bs m) pc = .ok (.invokevirtual k, 3)) (hok : sn_cok ((sn_own m, k), (kd, (n, (cc, (f, (xx, (gx, ps))))))) = true) (hP : kd = 5 ∨ kd = 6) (hf : ¬ 1000 ≤ f) (hrm : sn_rm m f = true) (hn : As.length = n) (hr4 : ¬ 4 < r.length) (hobj : M[t]? = some (.inr (.inr (.inr (cc, fs))))) (hgx6 : kd = 6 → 1 ≤ gx ∧ gx < 254)
    (hmet : sn_met G adV D X l f (.ref t :: As) M rv M1) (hk : sn_K G adV D X m k0 z0 p l e R s mm args below meth c Q (pc + 3) ls (rv.toList ++ r) M1) : sn_K G adV D X m k0 z0 p l e R s mm args below meth c Q pc ls (As.reverse ++ .ref t :: r) M := by
  obtain ⟨hw, hxc⟩ := sn_cok_w hok
  obtain ⟨hf1, hfr, hlo⟩ := sn_rm_own hrm hf
  have hcat := sn_cats4 (G := G) hr4
  obtain ⟨hxx, hb, hml, -, hown, -, -, hfr0, hlo0⟩ := id C0
  intro H locs cells slots lsA h1 h2 h3 h4 h5
  rw [sn_stk]
  refine sn_after h1 h2 hz0 h3 h4 h5 hg (rv := rv) (M1 := M1) (a := (Value.ref (G.1 + t) :: As.map (sn_cv G)).toArray) ?_ hk
  have hcls : ∃ q : vw_C, vwCl[cc]? = some q ∧ sn_cnm cc = q.1 := by
    obtain ⟨r0, hr0, -⟩ := h1.2.2.1 t _ (sn_get0 G hobj)
    have h13 : cc < 13 := (List.getElem?_eq_some_iff.mp hr0).1
    exact sn_cnmq cc h13
  obtain ⟨q, hq, hqn⟩ := hcls
  rcases hP with rfl | rfl
  · simp only [sn_cx, Bool.and_eq_true, decide_eq_true_eq] at hxc
    obtain ⟨⟨hyc, hmh⟩, har⟩ := hxc
    have hini : Cond.initialized (sn_nm f).cls ∈ lw_tbl := by rw [hyc]; exact hw _ (by simp [sn_cw])
    obtain ⟨⟨b1, b2, b3, b4, b5, b6⟩, b7, b8, b9⟩ := sn_cbf (args := args) (R := R) (rm := { frames := sn_fr f, cells := M1.length - M.length, slots := sn_sz M1 - sn_sz M, locals := sn_lo f }) h1.1 (k0' := 0) hf1 hini hmh ⟨by show sn_fr f + 1 ≤ _; omega, by show 8 + (am_nL f + 11) + sn_lo f ≤ _; omega⟩
    have hsel : (Cond.selects q.1 (sn_nm f) (sn_nm f)).before args s = true := by rw [← hqn]; exact h1.1.word (hw _ (by simp [sn_cw])) rfl
    exact va_runV (own := sn_cnm (sn_own m)) (C := q.1) (index := k) (n := n) (nL := am_nL m) (cc := sn_bs m) (bytes := sn_bs f) (maxL := am_nL f) (ret := sn_rt f) (Ts := []) (b := G.1 + t) (As := As.map (sn_cv G)) (rest := r.map (sn_cv G)) ⟨hxx, hb, hml, hown, fun w h => by cases h⟩ hmet ⟨⟨b1, b2, b3, b4, b5, b6, b7, b8, b9, sn_arity har, h1.1.word (hw _ (by simp [sn_cw])) rfl⟩, h1.1.word (hw _ (by simp [sn_cw])) rfl, hsel⟩ (sn_preV h1 hq hobj) rfl (by rw [List.length_map]; exact hn) h5.2.1 rfl (lv_room hcat) hd ⟨by omega, by omega⟩
  · simp only [sn_cx, Bool.and_eq_true, decide_eq_true_eq] at hxc
    obtain ⟨⟨hgx, hmh⟩, har⟩ := hxc
    have hcd := sn_cd_in f hf1.1 hf1.2
    have hgx0 : 1 ≤ gx ∧ gx < 254 := hgx6 rfl
    have hcg := sn_cd_in gx hgx0.1 hgx0.2
    unfold sn_cd at hcg
    rw [hgx] at hcg
    unfold sn_mh at hmh
    rw [Bool.and_eq_true] at hmh
    have hsel : (Cond.selects q.1 (sn_xn xx) (sn_nm f)).before args s = true := by rw [← hqn]; exact h1.1.word (hw _ (by simp [sn_cw])) rfl
    refine va_runU (x := sn_xn xx) (y := sn_nm f) (owner := (sn_xn xx).cls) (own := sn_cnm (sn_own m)) (C := q.1) (index := k) (n := n) (nL := am_nL m) (cc := sn_bs m) (bytes := sn_bs f) (maxL := am_nL f) (ret := sn_rt f) (Ts := []) (b := G.1 + t) (As := As.map (sn_cv G)) (rest := r.map (sn_cv G)) ⟨hxx, hb, hml, hown, fun w h => by cases h⟩ hmet ⟨⟨rfl, rfl, by show sn_fr f + 1 ≤ _; omega, by show 8 + (am_nL f + 11) + sn_lo f ≤ _; omega, fun w hw2 a' U hW => ?_, List.mem_cons_self⟩, h1.1.word hcd rfl, h1.1.word (hw _ (by simp [sn_cw])) rfl, ⟨of_decide_eq_true hmh.1, of_decide_eq_true hmh.2⟩, sn_arity har, h1.1.word (hw _ (by simp [sn_cw])) rfl, h1.1.word (hw _ (by simp [sn_cw])) rfl, va_Decl.of (args := args) (h1.1.word (hw _ (by simp [sn_cw])) rfl) (h1.1.word hcg rfl), hsel, h1.1.word (hw _ (by simp [sn_cw])) rfl⟩ (sn_preV h1 hq hobj) rfl (by rw [List.length_map]; exact hn) h5.2.1 rfl (lv_room hcat) hd ⟨by omega, by omega⟩
    rw [List.mem_singleton] at hw2
    subst hw2
    exact word_at hW (Or.inl rfl) (h1.1.word (args := args) hcd rfl)
end SNE
