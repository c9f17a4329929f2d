/-! ===== growth; calls; the abstract machine is the machine ===== -/
theorem am_nx_grow {a pc' : Nat} {b ls' : am_Lc} {c st' : List Value} {M M' : am_Mem} (h : am_nx a b c M = some (.inl (pc', ls', st', M'))) : M.length ≤ M'.length ∧ sn_sz M ≤ sn_sz M' := by
  obtain ⟨-, -, -, rfl⟩ := am_nx_inj h
  exact ⟨Nat.le_refl _, Nat.le_refl _⟩
theorem am_nx_ne {a : Nat} {b : am_Lc} {c : List Value} {M : am_Mem} {z : (Option Value) ⊕ (Nat × List Value × Nat × List Value)} (h : am_nx a b c M = some (.inr z)) : False := by
  unfold am_nx at h
  cases h
theorem am_nat_grow {f nx pc' : Nat} {ls ls' : am_Lc} {As r st' : List Value} {M M' : am_Mem} (h : am_nat f nx ls As r M = some (.inl (pc', ls', st', M'))) : M.length ≤ M'.length ∧ sn_sz M ≤ sn_sz M' := by
  unfold am_nat at h
  split at h
  · exact am_nx_grow h
  · exact am_nx_grow h
  · exact am_nx_grow h
  · split at h
    next M2 hc =>
      obtain ⟨-, -, -, rfl⟩ := am_nx_inj h
      have := sn_copyl_sz hc
      omega
    next => cases h
  · split at h
    · exact am_nx_grow h
    · cases h
  · split at h
    · split at h
      · cases h
      · split at h
        · exact am_nx_grow h
        · cases h
    · cases h
  · cases h
theorem am_nat_ne {f nx : Nat} {ls : am_Lc} {As r : List Value} {M : am_Mem} {z : (Option Value) ⊕ (Nat × List Value × Nat × List Value)} (h : am_nat f nx ls As r M = some (.inr z)) : False := by
  unfold am_nat at h
  split at h
  · exact am_nx_ne h
  · exact am_nx_ne h
  · exact am_nx_ne h
  · split at h
    · exact am_nx_ne h
    · cases h
  · split at h
    · exact am_nx_ne h
    · cases h
  · split at h
    · split at h
      · cases h
      · split at h
        · exact am_nx_ne h
        · cases h
    · cases h
  · cases h
theorem am_call_grow {f nx pc' : Nat} {ls ls' : am_Lc} {As r st' : List Value} {M M' : am_Mem} (h : am_call f nx ls As r M = some (.inl (pc', ls', st', M'))) : M.length ≤ M'.length ∧ sn_sz M ≤ sn_sz M' := by
  unfold am_call at h
  split at h
  · cases h
  · split at h
    · exact am_nat_grow h
    · cases h
theorem am_call_ret {f nx : Nat} {ls : am_Lc} {As r : List Value} {M : am_Mem} {rv : Option Value} (h : am_call f nx ls As r M = some (.inr (.inl rv))) : False := by
  unfold am_call at h
  split at h
  · cases h
  · split at h
    · exact am_nat_ne h
    · cases h
theorem am_call_inv {f nx f' pc' : Nat} {ls : am_Lc} {As r As' st' : List Value} {M : am_Mem} (h : am_call f nx ls As r M = some (.inr (.inr (f', As', pc', st')))) : ¬ 4 < r.length ∧ ¬ 1000 ≤ f ∧ f' = f ∧ As' = As ∧ pc' = nx ∧ st' = r := by
  unfold am_call at h
  split at h
  · cases h
  next h4 =>
    split at h
    · exact absurd h (fun z => am_nat_ne z)
    next hf =>
      cases h
      exact ⟨h4, hf, rfl, rfl, rfl, rfl⟩
set_option maxHeartbeats 4000000 in
theorem am_ex_grow {X : List Int32} {pc n pc' : Nat} {i : Instr} {d : am_Dt} {ls ls' : am_Lc} {st st' : List Value} {M M' : am_Mem} (h : am_ex X pc i n d ls st M = some (.inl (pc', ls', st', M'))) : M.length ≤ M'.length ∧ sn_sz M ≤ sn_sz M' := by
  cases i <;> first
    | (cases h; done)
    | exact am_nx_grow h
    | (simp only [am_ex, am_i1, am_i2, am_d2, am_l2, am_dl2, am_ldI, am_ldL, am_ldA, am_stI, am_stA, am_stL] at h
       (repeat' split at h) <;> first
        | (cases h; done)
        | exact am_nx_grow h
        | exact am_call_grow h
        | (obtain ⟨-, -, -, rfl⟩ := am_nx_inj h
           rename_i hg
           first
            | (have := sn_pf_sz hg; omega)
            | (have := sn_iset_sz hg; omega)
            | (have := sn_lset_sz hg; omega)
            | (have := sn_aset_sz hg; omega))
        | (obtain ⟨-, -, -, rfl⟩ := am_nx_inj h
           rw [List.length_append, sn_sz_app]
           exact ⟨Nat.le_add_right _ _, Nat.le_add_right _ _⟩))
    | (obtain ⟨-, -, -, rfl⟩ := am_nx_inj h
       rw [List.length_append, sn_sz_app]
       exact ⟨Nat.le_add_right _ _, Nat.le_add_right _ _⟩)
def am_isRet : Instr → Bool
  | .ireturn => true
  | .lreturn => true
  | .areturn => true
  | .return_ => true
  | _ => false
def am_isInv : Instr → Bool
  | .invokestatic _ => true
  | .invokespecial _ => true
  | .invokevirtual _ => true
  | _ => false
set_option maxHeartbeats 4000000 in
theorem am_ex_ret {X : List Int32} {pc n : Nat} {i : Instr} {d : am_Dt} {ls : am_Lc} {st : List Value} {M : am_Mem} {rv : Option Value} (h : am_ex X pc i n d ls st M = some (.inr (.inl rv))) : am_isRet i = true := by
  cases i <;> first
    | rfl
    | (cases h; done)
    | exact absurd h (fun z => am_nx_ne z)
    | (exfalso
       simp only [am_ex, am_i1, am_i2, am_d2, am_l2, am_dl2, am_ldI, am_ldL, am_ldA, am_stI, am_stA, am_stL] at h
       (repeat' split at h) <;> first
        | (cases h; done)
        | exact am_nx_ne h
        | exact am_call_ret h)
set_option maxHeartbeats 4000000 in
theorem am_ex_inv {X : List Int32} {pc n f pc' : Nat} {i : Instr} {d : am_Dt} {ls : am_Lc} {st As st' : List Value} {M : am_Mem} (h : am_ex X pc i n d ls st M = some (.inr (.inr (f, As, pc', st')))) : am_isInv i = true := by
  cases i <;> first
    | rfl
    | (cases h; done)
    | exact absurd h (fun z => am_nx_ne z)
    | (exfalso
       simp only [am_ex, am_i1, am_i2, am_d2, am_l2, am_dl2, am_ldI, am_ldL, am_ldA, am_stI, am_stA, am_stL] at h
       (repeat' split at h) <;> first
        | (cases h; done)
        | exact am_nx_ne h)
theorem am_run_grow (X : List Int32) : ∀ (n m pc : Nat) (ls : am_Lc) (st : List Value) (M : am_Mem) (rv : Option Value) (M' : am_Mem), am_run X n m pc ls st M = some (rv, M') → M.length ≤ M'.length ∧ sn_sz M ≤ sn_sz M' := by
  intro n
  induction n with
  | zero => intro m pc ls st M rv M' h; simp [am_run] at h
  | succ n ih =>
    intro m pc ls st M rv M' h
    simp only [am_run] at h
    cases hq : am_at m pc with
    | none => rw [hq] at h; cases h
    | some q =>
      rw [hq] at h
      dsimp only at h
      cases hx : am_ex X pc q.1 q.2.1 q.2.2 ls st M with
      | none => rw [hx] at h; cases h
      | some z =>
        rw [hx] at h
        rcases z with ⟨pc', ls', st', M1⟩ | rv' | ⟨f, As, pc', st'⟩
        · have h1 := am_ex_grow hx
          have h2 := ih _ _ _ _ _ _ _ h
          omega
        · cases h
          exact ⟨Nat.le_refl _, Nat.le_refl _⟩
        · dsimp only at h
          replace h := (am_if_some h).2
          cases hf : am_run X n f 0 (am_ent (am_nL f) As) [] M with
          | none => rw [hf] at h; cases h
          | some v =>
            obtain ⟨rv', M1⟩ := v
            rw [hf] at h
            have h1 := ih _ _ _ _ _ _ _ hf
            have h2 := ih _ _ _ _ _ _ _ h
            omega
/-- the locals with which a method begins -/
theorem sn_ent_sl (G : sn_G) : ∀ (As : List Value), (As.flatMap am_sl).length = (lg_sl (As.map (sn_cv G))).length
  | [] => rfl
  | v :: As => by
    have ih := sn_ent_sl G As
    have h1 : (am_sl v).length = (if (sn_cv G v).category = 2 then [Slot.val (sn_cv G v), .second] else [.val (sn_cv G v)]).length := by
      rw [sn_cv_cat]
      cases v <;> rfl
    simp only [lg_sl, List.map_cons, List.flatMap_cons, List.length_append] at ih ⊢
    rw [h1, ih]
theorem sn_ent_in (G : sn_G) : ∀ (As : List Value) (k i : Nat) (v : Value), (As.flatMap am_sl)[i]? = some (some v) → (k + i, sn_cv G v) ∈ lv_args k (As.map (sn_cv G))
  | [], k, i, v, h => by simp at h
  | a :: As, k, i, v, h => by
    rw [List.flatMap_cons] at h
    rw [List.map_cons, lv_args]
    by_cases hc : a.category = 2
    · have h2 : am_sl a = [some a, none] := by cases a <;> first | rfl | (simp [Value.category] at hc)
      rw [h2] at h
      rw [if_pos (by rw [sn_cv_cat]; exact hc)]
      match i, h with
      | 0, h =>
        simp at h
        subst h
        exact List.mem_cons_self
      | 1, h => simp at h
      | i + 2, h =>
        simp only [List.cons_append, List.nil_append, List.getElem?_cons_succ] at h
        have := sn_ent_in G As (k + 2) i v h
        rw [show k + (i + 2) = k + 2 + i by omega]
        exact List.mem_cons_of_mem _ this
    · have h2 : am_sl a = [some a] := by cases a <;> first | rfl | (simp [Value.category] at hc)
      rw [h2] at h
      rw [if_neg (by rw [sn_cv_cat]; exact hc)]
      match i, h with
      | 0, h =>
        simp at h
        subst h
        exact List.mem_cons_self
      | i + 1, h =>
        simp only [List.cons_append, List.nil_append, List.getElem?_cons_succ] at h
        have := sn_ent_in G As (k + 1) i v h
        rw [show k + (i + 1) = k + 1 + i by omega]
        exact List.mem_cons_of_mem _ this
theorem sn_ent (G : sn_G) {n : Nat} {As : List Value} {lsA : Array Slot} (h : lv_has lsA n (lv_args 0 (As.map (sn_cv G)))) (hn : (lg_sl (As.map (sn_cv G))).length ≤ n) : sn_L G n lsA (am_ent n As) := by
  have hl := sn_ent_sl G As
  refine ⟨?_, h.1, h.2.1, fun i v hi => ?_⟩
  · unfold am_ent
    rw [List.length_append, List.length_replicate]
    omega
  · unfold am_ent at hi
    by_cases hlt : i < (As.flatMap am_sl).length
    · rw [List.getElem?_append_left hlt] at hi
      have := sn_ent_in G As 0 i v hi
      rw [Nat.zero_add] at this
      exact h.2.2 _ this
    · rw [List.getElem?_append_right (by omega), List.getElem?_replicate] at hi
      split at hi <;> cases hi
section SNC
variable (G : sn_G) (adV : Nat → Nat) (D : va_G) (X : List Int32) (l : Launch)
def sn_Pc (As : List Value) (M : am_Mem) : Array Value → State → Prop := fun v U => v = (As.map (sn_cv G)).toArray ∧ sn_W G adV D X M U U.heap
def sn_Qc (rv : Option Value) (M1 : am_Mem) : Array Value → State → Outcome → State → Prop := fun _ st o t => o = .returned (rv.map (sn_cv G)) ∧ va_P D vwCl (sn_ws G 0 M1) t.heap ∧ t.heap.size = G.1 + M1.length ∧ ∀ q : Nat, q < G.1 → t.heap[q]? = st.heap[q]?
/-- the contract of a method, for one run of the abstract machine -/
def sn_met (f : Nat) (As : List Value) (M : am_Mem) (rv : Option Value) (M1 : am_Mem) : Prop :=
  Met l (sn_nm f) [sn_cd f] ({ frames := sn_fr f, cells := M1.length - M.length, slots := sn_sz M1 - sn_sz M, locals := sn_lo f } : Room) (sn_Pc G adV D X As M) (sn_Qc G D rv M1) (M1.length - M.length) (sn_sz M1 - sn_sz M) (sn_A G)
theorem sn_blind (As : List Value) (M : am_Mem) : FrameBlind (sn_Pc G adV D X As M) := fun a U g mk h => ⟨h.1, h.2.same (u := U) rfl⟩
end SNC
section SND
variable {G : sn_G} {adV : Nat → Nat} {D : va_G} {X : List Int32} {m k0 z0 : Nat} {p : Program} {l : Launch} {e : Env} {R : Room} {s : State} {mm : MethodId} {args : Array Value} {below : List Frame} {meth : Method} {c : Code} {Q : State → Prop}
variable {pc n pc' : Nat} {ls ls' : am_Lc} {st st' : List Value} {M M' M1 : am_Mem} {d : am_Dt} {rv : Option Value}
theorem sn_after {H : Heap} {locs : List Loc} {cells slots : Nat} {lsA : Array Slot} {st0 r : List Value} {a : Array Value} (hW : sn_W G adV D X M s H) (hS : va_S (sn_A G) s.heap H locs) (hz0 : s.heap.size = G.1 + k0) (hc0 : k0 + cells = M.length) (hs0 : z0 + slots = sn_sz M) (hL : sn_L G (am_nL m) lsA ls) (hg : M.length ≤ M1.length ∧ sn_sz M ≤ sn_sz M1)
    (hr : va_Run p l e R s mm args below meth c H locs cells slots (M1.length - M.length) (sn_sz M1 - sn_sz M) (F0 mm pc lsA st0) (r.map (sn_cv G)) (sn_Qc G D rv M1 a) (sn_A G)) (hk : sn_K G adV D X m k0 z0 p l e R s mm args below meth c Q (pc + 3) ls (rv.toList ++ r) M1) : W p l e R s mm args below meth c H locs cells slots Q (F0 mm pc lsA st0) := by
  intro T hT X0
  obtain ⟨v, st₀, t, T', L, h0, X', hL', e1, e2, ⟨hv, hP, hz, hq⟩, stp⟩ := hr T hT X0
  have hv' : v = rv.map (sn_cv G) := Outcome.returned.inj hv
  subst hv'
  have hold : ∀ q : Nat, q < G.1 → T'.heap[q]? = H[q]? := fun q hq1 => by rw [e1, hq q hq1, h0]
  have hzH := hW.2.2.2
  have hzT : T'.heap.size = G.1 + M1.length := by rw [e1]; exact hz
  have hW1 : sn_W G adV D X M1 s T'.heap := ⟨hW.1.kept hold (by omega), hW.2.1, by rw [e1]; exact hP, hzT⟩
  have hS1 : va_S (sn_A G) s.heap T'.heap (locs ++ L) := by
    refine ⟨by have := hS.1; omega, fun q h1 h2 => ?_, fun q hq => ?_⟩
    · rw [hold q (Nat.lt_of_not_le h2)]
      exact hS.2.1 q h1 h2
    · rcases List.mem_append.mp hq with h | h
      · exact hS.2.2 q h
      · exact hL' q h
  have k := hk T'.heap (locs ++ L) (cells + (M1.length - M.length)) (slots + (sn_sz M1 - sn_sz M)) lsA hW1 hS1 (by omega) (by omega) hL
  have est : (rv.toList ++ r).map (sn_cv G) = (rv.map (sn_cv G)).toList ++ r.map (sn_cv G) := by
    rw [List.map_append]
    cases rv <;> rfl
  rw [est] at k
  obtain ⟨t2, a1, b1⟩ := k T' rfl X'
  exact ⟨t2, stp t2 a1, b1⟩
/-- the tables' part of a call of one of the system's methods -/
theorem sn_cbf {H : Heap} (h1 : sn_F G adV X s H) {f k0' : Nat} {rm : Room} (hf : 1 ≤ f ∧ f < 254) (hini : Cond.initialized (sn_nm f).cls ∈ lw_tbl) (hmh : sn_mh (sn_nm f).cls = true) (hR : rm.frames + 1 ≤ R.frames ∧ 8 + (am_nL f + 11) + rm.locals ≤ R.locals) :
    (rm.cells = rm.cells ∧ rm.slots = rm.slots ∧ rm.frames + 1 ≤ R.frames ∧ 8 + (am_nL f + 11) + rm.locals ≤ R.locals ∧ (∀ w ∈ [sn_cd f], ∀ (a' : Array Value) (U : State), s.WarmedH U.vm → w.before a' U = true) ∧ sn_cd f ∈ [sn_cd f]) ∧ (sn_cd f).before args s = true ∧ (Cond.initialized (sn_nm f).cls).before args s = true ∧ ((sn_nm f).cls ≠ "java/lang/invoke/MethodHandle" ∧ (sn_nm f).cls ≠ "java/lang/invoke/VarHandle") := by
  have hcd := sn_cd_in f hf.1 hf.2
  refine ⟨⟨rfl, rfl, hR.1, hR.2, fun w hw a' U hW => ?_, List.mem_cons_self⟩, h1.word hcd rfl, h1.word hini rfl, ?_⟩
  · rw [List.mem_singleton] at hw
    subst hw
    exact word_at hW (Or.inl rfl) (h1.word (args := args) hcd rfl)
  · unfold sn_mh at hmh
    rw [Bool.and_eq_true] at hmh
    exact ⟨of_decide_eq_true hmh.1, of_decide_eq_true hmh.2⟩
theorem sn_arity {ds : String} {n : Nat} (h : sn_ar ds n = true) : ∀ sig, parseMethodDescriptor ds = some sig → n = sig.parameters.length := by
  intro sig hs
  have h1 := of_decide_eq_true h
  rw [hs] at h1
  exact (Option.some.inj h1).symm
theorem sn_rm_own {m f : Nat} (h : sn_rm m f = true) (hf : ¬ 1000 ≤ f) : (1 ≤ f ∧ f < 254) ∧ sn_fr f + 1 ≤ sn_fr m ∧ 8 + (am_nL f + 11) + sn_lo f ≤ sn_lo m := by
  unfold sn_rm at h
  split at h
  · omega
  · omega
  · omega
  · omega
  · omega
  · omega
  · have := of_decide_eq_true h
    exact ⟨⟨this.1, this.2.1⟩, this.2.2⟩
end SND
