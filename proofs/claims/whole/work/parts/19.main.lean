/-! ===== what the abstract machine comes to, the machine comes to ===== -/
section SNH
variable (G : sn_G) (adV : Nat → Nat) (D : va_G) (X : List Int32) (l : Launch)
/-- all runs of n steps are the machine's -/
def sn_Hyp (n : Nat) : Prop := ∀ (m pc : Nat) (ls : am_Lc) (st : List Value) (M : am_Mem) (rv : Option Value) (M' : am_Mem), am_run X n m pc ls st M = some (rv, M') →
  ∀ (k0 z0 : Nat) (p : Program) (e : Env) (R : Room) (s : State) (mm : MethodId) (args : Array Value) (below : List Frame) (meth : Method) (c : Code) (Q : State → Prop), sn_C m p R s mm meth c → s.heap.size = G.1 + k0 → M'.length ≤ k0 + R.cells → sn_sz M' ≤ z0 + R.slots →
  (∀ (pcE : Nat) (lsE : am_Lc) (stE : List Value) (q : Instr × Nat × am_Dt), am_at m pcE = some q → am_ex X pcE q.1 q.2.1 q.2.2 lsE stE M' = some (.inr (.inl rv)) → sn_K G adV D X m k0 z0 p l e R s mm args below meth c Q pcE lsE stE M') →
  sn_K G adV D X m k0 z0 p l e R s mm args below meth c Q pc ls st M
end SNH
theorem sn_nmcls : ∀ f : Nat, f < 254 → sn_cnm (sn_own f) = (sn_nm f).cls ∧ plainName (sn_nm f).cls = true := by
  have h : (List.range 254).all (fun f => decide (sn_cnm (sn_own f) = (sn_nm f).cls) && plainName (sn_nm f).cls) = true := by decide +kernel
  intro f hf
  have h1 := List.all_eq_true.mp h f (List.mem_range.mpr hf)
  rw [Bool.and_eq_true] at h1
  exact ⟨of_decide_eq_true h1.1, h1.2⟩
section SNP
variable {G : sn_G} {adV : Nat → Nat} {D : va_G} {X : List Int32} {l : Launch}
/-- the end of a method, as its contract has it -/
theorem sn_end {m k0 z0 : Nat} {p : Program} {e : Env} {R : Room} {s : State} {mm : MethodId} {args : Array Value} {below : List Frame} {meth : Method} {c : Code} {pc : Nat} {ls : am_Lc} {st : List Value} {M : am_Mem} {rv : Option Value} {q : Instr × Nat × am_Dt} {mc ms : Nat}
    (C0 : sn_C m p R s mm meth c) (hz0 : s.heap.size = G.1 + k0) (hmc : M.length = k0 + mc) (hms : sn_sz M = z0 + ms) (hq : am_at m pc = some q) (hx : am_ex X pc q.1 q.2.1 q.2.2 ls st M = some (.inr (.inl rv))) : sn_K G adV D X m k0 z0 p l e R s mm args below meth c (MQ below (sn_Qc G D rv M) args s mc ms (sn_A G)) pc ls st M := by
  obtain ⟨-, hok⟩ := sn_ok hq
  obtain ⟨i, n, d⟩ := q
  unfold sn_okI at hok
  rw [Bool.and_eq_true] at hok
  obtain ⟨hdec, hlk⟩ := hok
  have hd := of_decide_eq_true hdec
  dsimp only at hd hlk hx
  have hret := am_ex_ret hx
  obtain ⟨hxx, hb, hml, hr, hown, hlocks, -⟩ := id C0
  intro H locs cells slots lsA h1 h2 h3 h4 h5
  have e1 : cells = mc := by omega
  have e2 : slots = ms := by omega
  subst e1; subst e2
  have hQ : ∀ t : State, t.heap = H → s.WarmedH t.vm → sn_Qc G D rv M args s (.returned (rv.map (sn_cv G))) t := by
    intro t ht _
    refine ⟨rfl, by rw [ht]; exact h1.2.2.1, by rw [ht]; exact h1.2.2.2, fun q hq => ?_⟩
    rw [ht]
    exact h2.2.1 q (by omega) (Nat.not_le.mpr hq)
  cases i with
  | ireturn =>
    have hn : n = 1 := by
      simp only [sn_lk, Bool.and_eq_true, beq_iff_eq] at hlk
      exact hlk.1
    subst hn
    have hx' : (match st with
      | [.int x] => if d.1 = 1 ∧ ¬ (x = 0 ∨ x = 1) then none else (some (.inr (.inl (some (.int x)))) : am_R)
      | _ => none) = some (.inr (.inl rv)) := hx
    split at hx'
    next x =>
      split at hx'
      next => cases hx'
      next hbit =>
        cases hx'
        have hty : ∃ ty, sn_rt m = some ty ∧ narrow ty (.int x) = .int x := by
          simp only [sn_lk, Bool.and_eq_true, beq_iff_eq] at hlk
          obtain ⟨-, hlk⟩ := hlk
          split at hlk
          next h => exact ⟨_, h, rfl⟩
          next h =>
            rw [beq_iff_eq] at hlk
            have hx01 : x = 0 ∨ x = 1 := by
              by_cases z : x = 0 ∨ x = 1
              · exact z
              · exact absurd ⟨hlk, z⟩ hbit
            refine ⟨_, h, ?_⟩
            rcases hx01 with rfl | rfl <;> rfl
          next => cases hlk
        obtain ⟨ty, hty, hnar⟩ := hty
        exact W.zret hxx hb (by rw [hr]; exact hty) hnar hQ h2.2.2 hd
    next => cases hx'
  | lreturn =>
    simp only [sn_lk, Bool.and_eq_true, beq_iff_eq, decide_eq_true_eq] at hlk
    obtain ⟨hn, hty⟩ := hlk
    subst hn
    have hx' : (match st with
      | [.long x] => (some (.inr (.inl (some (.long x)))) : am_R)
      | _ => none) = some (.inr (.inl rv)) := hx
    split at hx'
    next x =>
      cases hx'
      exact W.lret hxx hb (by rw [hr]; exact hty) hQ h2.2.2 hd
    next => cases hx'
  | areturn =>
    simp only [sn_lk, Bool.and_eq_true, beq_iff_eq] at hlk
    obtain ⟨hn, hty⟩ := hlk
    subst hn
    have hx' : (match st with
      | [v] => if am_isR v = true then (some (.inr (.inl (some v))) : am_R) else none
      | _ => none) = some (.inr (.inl rv)) := hx
    split at hx'
    next v =>
      split at hx'
      next hv =>
        cases hx'
        split at hty
        next cn hcn =>
          exact W.aret hxx hb (by rw [hr]; exact hcn) (Or.inl ⟨_, rfl⟩) ((sn_isR (G := G) hv).symm) hQ h2.2.2 hd
        next => cases hty
      next => cases hx'
    next => cases hx'
  | return_ =>
    simp only [sn_lk, Bool.and_eq_true, beq_iff_eq, decide_eq_true_eq] at hlk
    obtain ⟨hn, hty⟩ := hlk
    subst hn
    have hx' : (match st with
      | [] => (some (.inr (.inl none)) : am_R)
      | _ => none) = some (.inr (.inl rv)) := hx
    split at hx'
    next =>
      cases hx'
      exact W.vret hxx hb (by rw [hr]; exact hty) hQ h2.2.2 hd
    next => cases hx'
  | _ => cases hret
/-- the contract of a method, out of its runs -/
theorem sn_met_of {n : Nat} (hH : sn_Hyp G adV D X l n) {f : Nat} (hf : 1 ≤ f ∧ f < 254) {As : List Value} {M M1 : am_Mem} {rv : Option Value} (hrun : am_run X n f 0 (am_ent (am_nL f) As) [] M = some (rv, M1)) (hsz : (lg_sl (As.map (sn_cv G))).length ≤ am_nL f) : sn_met G adV D X l f As M rv M1 := by
  obtain ⟨hcn, hpl⟩ := sn_nmcls f hf.2
  have hgr := am_run_grow X n f 0 _ _ _ _ _ hrun
  refine Met.ofW (cc := sn_bs f) (maxL := am_nL f) (ret := sn_rt f) hpl rfl ?_
  intro p e s m args below meth c s₁ B hml hv
  obtain ⟨rfl, hW⟩ := hv
  have hC : sn_C f p (headSpec [sn_cd f] ({ frames := sn_fr f, cells := M1.length - M.length, slots := sn_sz M1 - sn_sz M, locals := sn_lo f } : Room)).room s m meth c := by
    refine ⟨B.exec, B.bytes, hml, B.returns, ?_, B.notSynchronized, fun h => ?_, Nat.le_refl _, Nat.le_refl _⟩
    · rw [hcn]
      exact findClass_of_methodNamed B.named
    · exact (name_of_methodNamed B.named B.method).1.trans h
  have hl := lv_entry (As.map (sn_cv G)) hsz
  rw [lg_entry_eq]
  refine hH f 0 _ _ M rv M1 hrun M.length (sn_sz M) p e _ s m _ below meth c _ hC hW.2.2.2 (by show M1.length ≤ M.length + (M1.length - M.length); omega) (by show sn_sz M1 ≤ sn_sz M + (sn_sz M1 - sn_sz M); omega) (fun pcE lsE stE q hq hx => ?_) s.heap [] 0 0 _ hW va_S.rf rfl rfl (sn_ent G hl hsz)
  exact sn_end hC hW.2.2.2 (by omega) (by omega) hq hx
/-- a call, by its entry -/
theorem sn_step_call {m k0 z0 : Nat} {p : Program} {e : Env} {R : Room} {s : State} {mm : MethodId} {args : Array Value} {below : List Frame} {meth : Method} {c : Code} {Q : State → Prop} {pc f pc' : Nat} {ls : am_Lc} {st As st' : List Value} {M M1 : am_Mem} {rv : Option Value} {q : Instr × Nat × am_Dt}
    (C0 : sn_C m p R s mm meth c) (hz0 : s.heap.size = G.1 + k0) (hroom : M1.length ≤ k0 + R.cells ∧ sn_sz M1 ≤ z0 + R.slots) (hg : M.length ≤ M1.length ∧ sn_sz M ≤ sn_sz M1) (hq : am_at m pc = some q) (hx : am_ex X pc q.1 q.2.1 q.2.2 ls st M = some (.inr (.inr (f, As, pc', st'))))
    (hmet : 1 ≤ f ∧ f < 254 → sn_met G adV D X l f As M rv M1) (hk : sn_K G adV D X m k0 z0 p l e R s mm args below meth c Q pc' ls (rv.toList ++ st') M1) : sn_K G adV D X m k0 z0 p l e R s mm args below meth c Q pc ls st M := by
  obtain ⟨-, hok⟩ := sn_ok hq
  obtain ⟨i, n, d⟩ := q
  unfold sn_okI at hok
  rw [Bool.and_eq_true] at hok
  obtain ⟨hdec, hlk⟩ := hok
  have hd := of_decide_eq_true hdec
  dsimp only at hd hlk hx
  have hinv := am_ex_inv hx
  cases i with
  | invokestatic k =>
    simp only [sn_lk, Bool.and_eq_true, beq_iff_eq] at hlk
    obtain ⟨hn, hlk⟩ := hlk
    subst hn
    obtain ⟨d1, d2⟩ := d
    match d2, hlk, hx with
    | [(c0, f0)], hlk, hx =>
      have hx' : (match am_args d1 st with
        | some (As, r) => am_call f0 (pc + 3) ls As r M
        | none => none) = some (.inr (.inr (f, As, pc', st'))) := hx
      split at hx'
      next As0 r ha =>
        obtain ⟨hst, hlen⟩ := am_args_spec ha
        subst hst
        obtain ⟨hr4, hf, rfl, rfl, rfl, rfl⟩ := am_call_inv hx'
        obtain ⟨kd, cc, xx, gx, ps, hok, hP, hrm, hck⟩ := sn_call1 (P := fun q => q == 0 || q == 1 || q == 21 || q == 22 || q == 23) hlk
        have hkd := sn_ck_own hck hf
        simp only [Bool.or_eq_true, beq_iff_eq] at hP
        exact sn_callS C0 hz0 hroom hg hd hok (by omega) hf hrm hlen hr4 (hmet (sn_rm_own hrm hf).1) hk
      next => cases hx'
  | invokespecial k =>
    simp only [sn_lk, Bool.and_eq_true, beq_iff_eq] at hlk
    obtain ⟨hn, hlk⟩ := hlk
    subst hn
    obtain ⟨d1, d2⟩ := d
    match d2, hlk, hx with
    | [(c0, f0)], hlk, hx =>
      have hx' : (match am_args d1 st with
        | some (As, .ref t :: r) => if (am_cls M t).isSome = true then am_call f0 (pc + 3) ls (.ref t :: As) r M else none
        | _ => none) = some (.inr (.inr (f, As, pc', st'))) := hx
      split at hx'
      next As0 t r ha =>
        obtain ⟨hst, hlen⟩ := am_args_spec ha
        subst hst
        obtain ⟨hcls, hx'⟩ := am_if_some hx'
        obtain ⟨ci, hci⟩ := Option.isSome_iff_exists.mp hcls
        obtain ⟨fs, hfs⟩ := sn_clsOf hci
        obtain ⟨hr4, hf, rfl, rfl, rfl, rfl⟩ := am_call_inv hx'
        obtain ⟨kd, cc, xx, gx, ps, hok, hP, hrm, hck⟩ := sn_call1 (P := fun q => q == 2 || q == 3 || q == 4 || q == 20) hlk
        have hkd := sn_ck_own hck hf
        simp only [Bool.or_eq_true, beq_iff_eq] at hP
        exact sn_callI C0 hz0 hroom hg hd hok (by omega) hf hrm hlen hr4 ⟨ci, fs, hfs⟩ (hmet (sn_rm_own hrm hf).1) hk
      next => cases hx'
  | invokevirtual k =>
    simp only [sn_lk, Bool.and_eq_true, beq_iff_eq] at hlk
    obtain ⟨hn, hlk⟩ := hlk
    subst hn
    have hx' : (match am_args d.1 st with
      | some (As, .ref t :: r) => match am_cls M t with
        | some c => match d.2.lookup c with
          | some f => if 1000 ≤ f then none else am_call f (pc + 3) ls (.ref t :: As) r M
          | none => none
        | none => none
      | some (As, .retAddr k :: r) => match d.2 with
        | (_, f) :: _ => if 1000 ≤ f then am_call f (pc + 3) ls (.retAddr k :: As) r M else none
        | [] => none
      | _ => none) = some (.inr (.inr (f, As, pc', st'))) := hx
    split at hx'
    next As0 t r ha =>
      obtain ⟨hst, hlen⟩ := am_args_spec ha
      subst hst
      split at hx'
      next ci hci =>
        split at hx'
        next f0 hl =>
          split at hx'
          next => cases hx'
          next hf0 =>
            obtain ⟨hr4, hf, rfl, rfl, rfl, rfl⟩ := am_call_inv hx'
            have hl0 := List.all_eq_true.mp hlk _ (sn_lookup_in hl)
            obtain ⟨kd, cc, xx, gx, ps, hok, hP, h5, hrm, hck, hgx6⟩ := sn_call3 (P := fun q => q == 5 || q == 6 || q == 24 || q == 25) hl0
            have hkd := sn_ck_own hck hf
            simp only [Bool.or_eq_true, beq_iff_eq] at hP
            have hcc : cc = ci := h5.resolve_left hf
            subst hcc
            obtain ⟨fs, hfs⟩ := sn_clsOf hci
            exact sn_callV C0 hz0 hroom hg hd hok (by omega) hf hrm hlen hr4 hfs hgx6 (hmet (sn_rm_own hrm hf).1) hk
        next => cases hx'
      next => cases hx'
    next As0 t r ha =>
      split at hx'
      next c0 f0 tl hd2 =>
        split at hx'
        next hf0 =>
          obtain ⟨-, hf, -⟩ := am_call_inv hx'
          exact absurd hf0 hf
        next => cases hx'
      next => cases hx'
    next => cases hx'
  | _ => cases hinv
/-- THE INDUCTION -/
theorem sn_all (n : Nat) : sn_Hyp G adV D X l n := by
  induction n with
  | zero => intro m pc ls st M rv M' h; simp [am_run] at h
  | succ n ih =>
    intro m pc ls st M rv M' h k0 z0 p e R s mm args below meth c Q C0 hz0 hr1 hr2 hend
    have h0 := h
    simp only [am_run] at h
    cases hq : am_at m pc with
    | none => rw [hq] at h; cases h
    | some q =>
      rw [hq] at h
      dsimp only at h
      cases hx : am_ex X pc q.1 q.2.1 q.2.2 ls st M with
      | none => rw [hx] at h; cases h
      | some z =>
        rw [hx] at h
        have hgr := am_run_grow X (n + 1) m pc _ _ _ _ _ h0
        rcases z with ⟨pc', ls', st', M1⟩ | rv' | ⟨f, As, pc', st'⟩
        · have hg1 := am_run_grow X n m pc' _ _ _ _ _ h
          exact sn_step C0 hz0 hq hx ⟨by omega, by omega⟩ ⟨by omega, by omega⟩ (ih m pc' ls' st' M1 rv M' h k0 z0 p e R s mm args below meth c Q C0 hz0 hr1 hr2 hend)
        · cases h
          exact hend pc ls st q hq hx
        · dsimp only at h
          obtain ⟨hsl, h⟩ := am_if_some h
          cases hf : am_run X n f 0 (am_ent (am_nL f) As) [] M with
          | none => rw [hf] at h; cases h
          | some v =>
            obtain ⟨rv', M1⟩ := v
            rw [hf] at h
            have hg1 := am_run_grow X n f 0 _ _ _ _ _ hf
            have hg2 := am_run_grow X n m pc' _ _ _ _ _ h
            refine sn_step_call C0 hz0 ⟨by omega, by omega⟩ hg1 hq hx (fun hf2 => sn_met_of ih hf2 hf (by rw [← sn_ent_sl]; exact hsl)) (ih m pc' ls _ M1 rv M' h k0 z0 p e R s mm args below meth c Q C0 hz0 hr1 hr2 hend)
end SNP
