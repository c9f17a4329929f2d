/-! ===== each instruction of the abstract machine is one of the machine's: those that neither call nor return ===== -/
def sn_sz1 : am_Ob → Nat
  | .inl xs => xs.length
  | .inr (.inl xs) => xs.length
  | .inr (.inr (.inl (_, xs))) => xs.length
  | .inr (.inr (.inr (_, fs))) => fs.length
def sn_sz (M : am_Mem) : Nat := (M.map sn_sz1).sum
def sn_L (G : sn_G) (n : Nat) (lsA : Array Slot) (ls : am_Lc) : Prop := ls.length = n ∧ lsA.size = n ∧ lv_wf lsA ∧ ∀ (i : Nat) (v : Value), ls[i]? = some (some v) → lsA[i]? = some (.val (sn_cv G v))
theorem sn_cv_cat (G : sn_G) (v : Value) : (sn_cv G v).category = v.category := by
  cases v with
  | retAddr k => cases k <;> rfl
  | _ => rfl
/-- the listed locals -/
def sn_prs (G : sn_G) (ls : am_Lc) : List (Nat × Value) := (List.range ls.length).filterMap (fun i => (ls[i]?.join).map (fun v => (i, sn_cv G v)))
theorem sn_prs_in {G : sn_G} {ls : am_Lc} {i : Nat} {w : Value} : (i, w) ∈ sn_prs G ls ↔ ∃ v, ls[i]? = some (some v) ∧ w = sn_cv G v := by
  unfold sn_prs
  rw [List.mem_filterMap]
  constructor
  · rintro ⟨j, -, hj⟩
    cases h : ls[j]? with
    | none => rw [h] at hj; simp at hj
    | some o =>
      cases o with
      | none => rw [h] at hj; simp at hj
      | some v =>
        rw [h] at hj
        simp at hj
        obtain ⟨rfl, rfl⟩ := hj
        exact ⟨v, h, rfl⟩
  · rintro ⟨v, hv, rfl⟩
    refine ⟨i, List.mem_range.mpr (List.getElem?_eq_some_iff.mp hv).1, ?_⟩
    rw [hv]
    rfl
theorem sn_L.has {G : sn_G} {n : Nat} {lsA : Array Slot} {ls : am_Lc} (h : sn_L G n lsA ls) : lv_has lsA n (sn_prs G ls) := by
  refine ⟨h.2.1, h.2.2.1, fun q hq => ?_⟩
  obtain ⟨i, w⟩ := q
  obtain ⟨v, hv, rfl⟩ := sn_prs_in.mp hq
  exact h.2.2.2 i v hv
theorem am_set1_len : ∀ (ls : am_Lc) (k : Nat) (v : Value), (am_set1 ls k v).length = ls.length
  | [], k, v => rfl
  | a :: l, 0, v => rfl
  | a :: l, 1, v => by rw [am_set1, List.length_cons, List.length_cons, am_set1_len l 0 v]
  | a :: l, k + 2, v => by rw [am_set1, List.length_cons, List.length_cons, am_set1_len l (k + 1) v]
theorem am_kl_some {o : Option Value} {v : Value} (h : am_kl o = some v) : o = some v ∧ ¬ v.category = 2 := by
  cases o with
  | none => cases h
  | some w =>
    cases w <;> first
      | (cases h; done)
      | (have h' := Option.some.inj h; subst h'; exact ⟨rfl, by simp [Value.category]⟩)
/-- what stands in the locals behind a store -/
theorem am_set1_get : ∀ (ls : am_Lc) (k : Nat) (v : Value) (j : Nat) (w : Value), (am_set1 ls k v)[j]? = some (some w) → (j = k ∧ w = v) ∨ (j ≠ k ∧ ls[j]? = some (some w) ∧ ¬ (j + 1 = k ∧ w.category = 2))
  | [], k, v, j, w, h => by simp [am_set1] at h
  | a :: l, 0, v, 0, w, h => by
    simp [am_set1] at h
    exact Or.inl ⟨rfl, h.symm⟩
  | a :: l, 0, v, j + 1, w, h => by
    rw [am_set1, List.getElem?_cons_succ] at h
    exact Or.inr ⟨by omega, by rw [List.getElem?_cons_succ]; exact h, fun q => by omega⟩
  | a :: l, 1, v, 0, w, h => by
    rw [am_set1, List.getElem?_cons_zero] at h
    obtain ⟨h1, h2⟩ := am_kl_some (Option.some.inj h)
    exact Or.inr ⟨by omega, by rw [List.getElem?_cons_zero, h1], fun q => h2 q.2⟩
  | a :: l, 1, v, j + 1, w, h => by
    rw [am_set1, List.getElem?_cons_succ] at h
    rcases am_set1_get l 0 v j w h with ⟨rfl, rfl⟩ | ⟨h1, h2, h3⟩
    · exact Or.inl ⟨rfl, rfl⟩
    · exact Or.inr ⟨by omega, by rw [List.getElem?_cons_succ]; exact h2, fun q => by omega⟩
  | a :: l, k + 2, v, 0, w, h => by
    rw [am_set1, List.getElem?_cons_zero] at h
    exact Or.inr ⟨by omega, by rw [List.getElem?_cons_zero]; exact h, fun q => by omega⟩
  | a :: l, k + 2, v, j + 1, w, h => by
    rw [am_set1, List.getElem?_cons_succ] at h
    rcases am_set1_get l (k + 1) v j w h with ⟨rfl, rfl⟩ | ⟨h1, h2, h3⟩
    · exact Or.inl ⟨rfl, rfl⟩
    · exact Or.inr ⟨by omega, by rw [List.getElem?_cons_succ]; exact h2, fun q => h3 ⟨by omega, q.2⟩⟩
theorem am_set2_len : ∀ (ls : am_Lc) (k : Nat) (v : Value), (am_set2 ls k v).length = ls.length
  | [], k, v => by simp [am_set2]
  | [a], k, v => by simp [am_set2]
  | a :: b :: l, 0, v => by simp [am_set2]
  | a :: b :: l, 1, v => by rw [am_set2, List.length_cons, List.length_cons, am_set2_len (b :: l) 0 v]; intro h; cases h
  | a :: b :: l, k + 2, v => by rw [am_set2, List.length_cons, List.length_cons, am_set2_len (b :: l) (k + 1) v]; intro h; cases h
theorem am_set2_get : ∀ (ls : am_Lc) (k : Nat) (v : Value) (j : Nat) (w : Value), k + 1 < ls.length → (am_set2 ls k v)[j]? = some (some w) → (j = k ∧ w = v) ∨ (j ≠ k ∧ j ≠ k + 1 ∧ ls[j]? = some (some w) ∧ ¬ (j + 1 = k ∧ w.category = 2))
  | [], k, v, j, w, hl, h => by simp at hl
  | [a], k, v, j, w, hl, h => by simp at hl
  | a :: b :: l, 0, v, 0, w, hl, h => by
    simp [am_set2] at h
    exact Or.inl ⟨rfl, h.symm⟩
  | a :: b :: l, 0, v, 1, w, hl, h => by simp [am_set2] at h
  | a :: b :: l, 0, v, j + 2, w, hl, h => by
    rw [am_set2, List.getElem?_cons_succ, List.getElem?_cons_succ] at h
    exact Or.inr ⟨by omega, by omega, by rw [List.getElem?_cons_succ, List.getElem?_cons_succ]; exact h, fun q => by omega⟩
  | a :: b :: l, 1, v, 0, w, hl, h => by
    rw [am_set2, List.getElem?_cons_zero] at h
    · obtain ⟨h1, h2⟩ := am_kl_some (Option.some.inj h)
      exact Or.inr ⟨by omega, by omega, by rw [List.getElem?_cons_zero, h1], fun q => h2 q.2⟩
    · intro h; cases h
  | a :: b :: l, 1, v, j + 1, w, hl, h => by
    rw [am_set2, List.getElem?_cons_succ] at h
    · rcases am_set2_get (b :: l) 0 v j w (by simp at hl ⊢; omega) h with ⟨rfl, rfl⟩ | ⟨h1, h2, h3, h4⟩
      · exact Or.inl ⟨rfl, rfl⟩
      · exact Or.inr ⟨by omega, by omega, by rw [List.getElem?_cons_succ]; exact h3, fun q => by omega⟩
    · intro h; cases h
  | a :: b :: l, k + 2, v, 0, w, hl, h => by
    rw [am_set2, List.getElem?_cons_zero] at h
    · exact Or.inr ⟨by omega, by omega, by rw [List.getElem?_cons_zero]; exact h, fun q => by omega⟩
    · intro h; cases h
  | a :: b :: l, k + 2, v, j + 1, w, hl, h => by
    rw [am_set2, List.getElem?_cons_succ] at h
    · rcases am_set2_get (b :: l) (k + 1) v j w (by simp at hl ⊢; omega) h with ⟨rfl, rfl⟩ | ⟨h1, h2, h3, h4⟩
      · exact Or.inl ⟨rfl, rfl⟩
      · exact Or.inr ⟨by omega, by omega, by rw [List.getElem?_cons_succ]; exact h3, fun q => h4 ⟨by omega, q.2⟩⟩
    · intro h; cases h
/-- behind a store of one slot: the listed locals hold what the abstract ones say -/
theorem sn_L.st1 {G : sn_G} {n k : Nat} {lsA lsA' : Array Slot} {ls : am_Lc} {v : Value} (h : sn_L G n lsA ls) (h' : lv_has lsA' n ((k, sn_cv G v) :: (sn_prs G ls).filter (fun q => !(q.1 == k) && !(q.1 + 1 == k && q.2.category == 2)))) : sn_L G n lsA' (am_set1 ls k v) := by
  refine ⟨by rw [am_set1_len]; exact h.1, h'.1, h'.2.1, fun j w hj => ?_⟩
  rcases am_set1_get ls k v j w hj with ⟨rfl, rfl⟩ | ⟨h1, h2, h3⟩
  · exact h'.2.2 (j, sn_cv G w) List.mem_cons_self
  · refine h'.2.2 (j, sn_cv G w) (List.mem_cons_of_mem _ (List.mem_filter.mpr ⟨sn_prs_in.mpr ⟨w, h2, rfl⟩, ?_⟩))
    have e1 : (j == k) = false := by simpa using h1
    have e2 : (j + 1 == k && (sn_cv G w).category == 2) = false := by
      rw [sn_cv_cat]
      by_cases a : j + 1 = k
      · by_cases b : w.category = 2
        · exact absurd ⟨a, b⟩ h3
        · simp [b]
      · simp [a]
    simp only [e1, e2]
    rfl
theorem sn_L.st2 {G : sn_G} {n k : Nat} {lsA lsA' : Array Slot} {ls : am_Lc} {v : Value} (h : sn_L G n lsA ls) (hk : k + 1 < ls.length) (h' : lv_has lsA' n ((k, sn_cv G v) :: (sn_prs G ls).filter (fun q => !(q.1 == k) && (!(q.1 == k + 1) && !(q.1 + 1 == k && q.2.category == 2))))) : sn_L G n lsA' (am_set2 ls k v) := by
  refine ⟨by rw [am_set2_len]; exact h.1, h'.1, h'.2.1, fun j w hj => ?_⟩
  rcases am_set2_get ls k v j w hk hj with ⟨rfl, rfl⟩ | ⟨h1, h1b, h2, h3⟩
  · exact h'.2.2 (j, sn_cv G w) List.mem_cons_self
  · refine h'.2.2 (j, sn_cv G w) (List.mem_cons_of_mem _ (List.mem_filter.mpr ⟨sn_prs_in.mpr ⟨w, h2, rfl⟩, ?_⟩))
    have e1 : (j == k) = false := by simpa using h1
    have e1b : (j == k + 1) = false := by simpa using h1b
    have e2 : (j + 1 == k && (sn_cv G w).category == 2) = false := by
      rw [sn_cv_cat]
      by_cases a : j + 1 = k
      · by_cases b : w.category = 2
        · exact absurd ⟨a, b⟩ h3
        · simp [b]
      · simp [a]
    simp only [e1, e1b, e2]
    rfl
theorem am_nx_inj {a a' : Nat} {b b' : am_Lc} {c c' : List Value} {d d' : am_Mem} (h : am_nx a b c d = some (.inl (a', b', c', d'))) : a' = a ∧ b' = b ∧ c' = c ∧ d' = d := by
  unfold am_nx at h
  cases h
  exact ⟨rfl, rfl, rfl, rfl⟩
theorem sn_tgt {pc : Nat} {off : Int} (h : sn_jp pc off = true) : (pc : Int) + off = ((am_to pc off : Nat) : Int) := by
  unfold sn_jp at h
  unfold am_to
  have := of_decide_eq_true h
  omega
/-- what is known of a method's activation -/
def sn_C (m : Nat) (p : Program) (R : Room) (s : State) (mm : MethodId) (meth : Method) (c : Code) : Prop :=
  p.tables.exec = Jvm.exec ∧ c.code = sn_bs m ∧ c.maxLocals = am_nL m ∧ meth.sig.returnType = sn_rt m ∧ s.vm.findClass (sn_cnm (sn_own m)) = some mm.cls ∧ meth.locks = false ∧ ((sn_nm m).name = "<init>" → meth.name = "<init>") ∧ sn_fr m ≤ R.frames ∧ sn_lo m ≤ R.locals
section SNK
variable (G : sn_G) (adV : Nat → Nat) (D : va_G) (X : List Int32) (m k0 z0 : Nat) (p : Program) (l : Launch) (e : Env) (R : Room) (s : State) (mm : MethodId) (args : Array Value) (below : List Frame) (meth : Method) (c : Code) (Q : State → Prop)
/-- from a state of the abstract machine the machine comes to Q -/
def sn_K (pc : Nat) (ls : am_Lc) (st : List Value) (M : am_Mem) : Prop := ∀ (H : Heap) (locs : List Loc) (cells slots : Nat) (lsA : Array Slot), sn_W G adV D X M s H → va_S (sn_A G) s.heap H locs → k0 + cells = M.length → z0 + slots = sn_sz M → sn_L G (am_nL m) lsA ls →
  W p l e R s mm args below meth c H locs cells slots Q (F0 mm pc lsA (st.map (sn_cv G)))
end SNK
section SNS
variable {G : sn_G} {adV : Nat → Nat} {D : va_G} {X : List Int32} {m k0 z0 : Nat} {p : Program} {l : Launch} {e : Env} {R : Room} {s : State} {mm : MethodId} {args : Array Value} {below : List Frame} {meth : Method} {c : Code} {Q : State → Prop}
variable {pc n pc' : Nat} {ls ls' : am_Lc} {st st' : List Value} {M M' : am_Mem}
theorem sn_push {v : Value} (hr : ∀ (H : Heap) (locs : List Loc) (cells slots : Nat) (lsA : Array Slot) (rest : List Value), W p l e R s mm args below meth c H locs cells slots Q (F0 mm (pc + n) lsA (sn_cv G v :: rest)) → W p l e R s mm args below meth c H locs cells slots Q (F0 mm pc lsA rest))
    (hx : am_nx (pc + n) ls (v :: st) M = some (.inl (pc', ls', st', M'))) (hk : sn_K G adV D X m k0 z0 p l e R s mm args below meth c Q pc' ls' st' M') : sn_K G adV D X m k0 z0 p l e R s mm args below meth c Q pc ls st M := by
  obtain ⟨rfl, rfl, rfl, rfl⟩ := am_nx_inj hx
  intro H locs cells slots lsA h1 h2 h3 h4 h5
  exact hr H locs cells slots lsA _ (hk H locs cells slots lsA h1 h2 h3 h4 h5)
theorem sn_ldI {k : Nat} (hr : ∀ (H : Heap) (locs : List Loc) (cells slots : Nat) (lsA : Array Slot) (rest : List Value) (x : Int32), lsA[k]? = some (.val (.int x)) → W p l e R s mm args below meth c H locs cells slots Q (F0 mm (pc + n) lsA (.int x :: rest)) → W p l e R s mm args below meth c H locs cells slots Q (F0 mm pc lsA rest))
    (hx : am_ldI (pc + n) k ls st M = some (.inl (pc', ls', st', M'))) (hk : sn_K G adV D X m k0 z0 p l e R s mm args below meth c Q pc' ls' st' M') : sn_K G adV D X m k0 z0 p l e R s mm args below meth c Q pc ls st M := by
  unfold am_ldI at hx
  split at hx
  next x hl =>
    obtain ⟨rfl, rfl, rfl, rfl⟩ := am_nx_inj hx
    intro H locs cells slots lsA h1 h2 h3 h4 h5
    exact hr H locs cells slots lsA _ x (h5.2.2.2 k _ hl) (hk H locs cells slots lsA h1 h2 h3 h4 h5)
  next => cases hx
theorem sn_ldL {k : Nat} (hr : ∀ (H : Heap) (locs : List Loc) (cells slots : Nat) (lsA : Array Slot) (rest : List Value) (x : Int64), lsA[k]? = some (.val (.long x)) → W p l e R s mm args below meth c H locs cells slots Q (F0 mm (pc + n) lsA (.long x :: rest)) → W p l e R s mm args below meth c H locs cells slots Q (F0 mm pc lsA rest))
    (hx : am_ldL (pc + n) k ls st M = some (.inl (pc', ls', st', M'))) (hk : sn_K G adV D X m k0 z0 p l e R s mm args below meth c Q pc' ls' st' M') : sn_K G adV D X m k0 z0 p l e R s mm args below meth c Q pc ls st M := by
  unfold am_ldL at hx
  split at hx
  next x hl =>
    obtain ⟨rfl, rfl, rfl, rfl⟩ := am_nx_inj hx
    intro H locs cells slots lsA h1 h2 h3 h4 h5
    exact hr H locs cells slots lsA _ x (h5.2.2.2 k _ hl) (hk H locs cells slots lsA h1 h2 h3 h4 h5)
  next => cases hx
theorem sn_isR {v : Value} (h : am_isR v = true) : (∃ a : Nat, sn_cv G v = .ref a) ∨ sn_cv G v = .null := by
  cases v with
  | ref a => exact Or.inl ⟨_, rfl⟩
  | null => exact Or.inr rfl
  | retAddr k => cases k <;> exact Or.inl ⟨_, rfl⟩
  | _ => cases h
theorem sn_ldA {k : Nat} (hr : ∀ (H : Heap) (locs : List Loc) (cells slots : Nat) (lsA : Array Slot) (rest : List Value) (a : Nat), lsA[k]? = some (.val (.ref a)) → W p l e R s mm args below meth c H locs cells slots Q (F0 mm (pc + n) lsA (.ref a :: rest)) → W p l e R s mm args below meth c H locs cells slots Q (F0 mm pc lsA rest))
    (hrN : ∀ (H : Heap) (locs : List Loc) (cells slots : Nat) (lsA : Array Slot) (rest : List Value), lsA[k]? = some (.val .null) → W p l e R s mm args below meth c H locs cells slots Q (F0 mm (pc + n) lsA (.null :: rest)) → W p l e R s mm args below meth c H locs cells slots Q (F0 mm pc lsA rest))
    (hx : am_ldA (pc + n) k ls st M = some (.inl (pc', ls', st', M'))) (hk : sn_K G adV D X m k0 z0 p l e R s mm args below meth c Q pc' ls' st' M') : sn_K G adV D X m k0 z0 p l e R s mm args below meth c Q pc ls st M := by
  unfold am_ldA at hx
  split at hx
  next v hl =>
    split at hx
    next hv =>
      obtain ⟨rfl, rfl, rfl, rfl⟩ := am_nx_inj hx
      intro H locs cells slots lsA h1 h2 h3 h4 h5
      have hl' := h5.2.2.2 k _ hl
      have hk' := hk H locs cells slots lsA h1 h2 h3 h4 h5
      rw [List.map_cons] at hk'
      rcases sn_isR (G := G) hv with ⟨a, ha⟩ | ha
      · rw [ha] at hl' hk'
        exact hr H locs cells slots lsA _ a hl' hk'
      · rw [ha] at hl' hk'
        exact hrN H locs cells slots lsA _ hl' hk'
    next => cases hx
  next => cases hx
theorem sn_stI {k : Nat} (hr : ∀ (H : Heap) (locs : List Loc) (cells slots : Nat) (lsA : Array Slot) (rest : List Value) (x : Int32) (lv : List (Nat × Value)), lv_has lsA (am_nL m) lv → k < am_nL m → (∀ ls' : Array Slot, lv_has ls' (am_nL m) ((k, Value.int x) :: lv.filter (fun q => !(q.1 == k) && !(q.1 + 1 == k && q.2.category == 2))) → W p l e R s mm args below meth c H locs cells slots Q (F0 mm (pc + n) ls' rest)) → W p l e R s mm args below meth c H locs cells slots Q (F0 mm pc lsA (.int x :: rest)))
    (hx : am_stI (pc + n) k ls st M = some (.inl (pc', ls', st', M'))) (hk : sn_K G adV D X m k0 z0 p l e R s mm args below meth c Q pc' ls' st' M') : sn_K G adV D X m k0 z0 p l e R s mm args below meth c Q pc ls st M := by
  unfold am_stI at hx
  split at hx
  next x r =>
    split at hx
    next hl =>
      obtain ⟨rfl, rfl, rfl, rfl⟩ := am_nx_inj hx
      intro H locs cells slots lsA h1 h2 h3 h4 h5
      exact hr H locs cells slots lsA _ x _ h5.has (by rw [← h5.1]; exact hl) (fun ls' h' => hk H locs cells slots ls' h1 h2 h3 h4 (h5.st1 (v := .int x) h'))
    next => cases hx
  next => cases hx
theorem sn_stA {k : Nat} (hr : ∀ (H : Heap) (locs : List Loc) (cells slots : Nat) (lsA : Array Slot) (rest : List Value) (a : Nat) (lv : List (Nat × Value)), lv_has lsA (am_nL m) lv → k < am_nL m → (∀ ls' : Array Slot, lv_has ls' (am_nL m) ((k, Value.ref a) :: lv.filter (fun q => !(q.1 == k) && !(q.1 + 1 == k && q.2.category == 2))) → W p l e R s mm args below meth c H locs cells slots Q (F0 mm (pc + n) ls' rest)) → W p l e R s mm args below meth c H locs cells slots Q (F0 mm pc lsA (.ref a :: rest)))
    (hrN : ∀ (H : Heap) (locs : List Loc) (cells slots : Nat) (lsA : Array Slot) (rest : List Value) (lv : List (Nat × Value)), lv_has lsA (am_nL m) lv → k < am_nL m → (∀ ls' : Array Slot, lv_has ls' (am_nL m) ((k, Value.null) :: lv.filter (fun q => !(q.1 == k) && !(q.1 + 1 == k && q.2.category == 2))) → W p l e R s mm args below meth c H locs cells slots Q (F0 mm (pc + n) ls' rest)) → W p l e R s mm args below meth c H locs cells slots Q (F0 mm pc lsA (.null :: rest)))
    (hx : am_stA (pc + n) k ls st M = some (.inl (pc', ls', st', M'))) (hk : sn_K G adV D X m k0 z0 p l e R s mm args below meth c Q pc' ls' st' M') : sn_K G adV D X m k0 z0 p l e R s mm args below meth c Q pc ls st M := by
  unfold am_stA at hx
  split at hx
  next v r =>
    split at hx
    next hl =>
      obtain ⟨rfl, rfl, rfl, rfl⟩ := am_nx_inj hx
      intro H locs cells slots lsA h1 h2 h3 h4 h5
      rw [List.map_cons]
      have hst := fun (ls' : Array Slot) h' => hk H locs cells slots ls' h1 h2 h3 h4 (h5.st1 (v := v) h')
      rcases sn_isR (G := G) hl.1 with ⟨a, ha⟩ | ha
      · rw [ha] at hst ⊢
        exact hr H locs cells slots lsA _ a _ h5.has (by rw [← h5.1]; exact hl.2) hst
      · rw [ha] at hst ⊢
        exact hrN H locs cells slots lsA _ _ h5.has (by rw [← h5.1]; exact hl.2) hst
    next => cases hx
  next => cases hx
theorem sn_stL {k : Nat} (hr : ∀ (H : Heap) (locs : List Loc) (cells slots : Nat) (lsA : Array Slot) (rest : List Value) (x : Int64) (lv : List (Nat × Value)), lv_has lsA (am_nL m) lv → k + 1 < am_nL m → (∀ ls' : Array Slot, lv_has ls' (am_nL m) ((k, Value.long x) :: lv.filter (fun q => !(q.1 == k) && (!(q.1 == k + 1) && !(q.1 + 1 == k && q.2.category == 2)))) → W p l e R s mm args below meth c H locs cells slots Q (F0 mm (pc + n) ls' rest)) → W p l e R s mm args below meth c H locs cells slots Q (F0 mm pc lsA (.long x :: rest)))
    (hx : am_stL (pc + n) k ls st M = some (.inl (pc', ls', st', M'))) (hk : sn_K G adV D X m k0 z0 p l e R s mm args below meth c Q pc' ls' st' M') : sn_K G adV D X m k0 z0 p l e R s mm args below meth c Q pc ls st M := by
  unfold am_stL at hx
  split at hx
  next x r =>
    split at hx
    next hl =>
      obtain ⟨rfl, rfl, rfl, rfl⟩ := am_nx_inj hx
      intro H locs cells slots lsA h1 h2 h3 h4 h5
      exact hr H locs cells slots lsA _ x _ h5.has (by rw [← h5.1]; exact hl) (fun ls' h' => hk H locs cells slots ls' h1 h2 h3 h4 (h5.st2 (v := .long x) hl h'))
    next => cases hx
  next => cases hx
theorem sn_i2 {f : Int32 → Int32 → Int32} (hr : ∀ (H : Heap) (locs : List Loc) (cells slots : Nat) (lsA : Array Slot) (rest : List Value) (x y : Int32), W p l e R s mm args below meth c H locs cells slots Q (F0 mm (pc + n) lsA (.int (f x y) :: rest)) → W p l e R s mm args below meth c H locs cells slots Q (F0 mm pc lsA (.int y :: .int x :: rest)))
    (hx : am_i2 (pc + n) ls st M f = some (.inl (pc', ls', st', M'))) (hk : sn_K G adV D X m k0 z0 p l e R s mm args below meth c Q pc' ls' st' M') : sn_K G adV D X m k0 z0 p l e R s mm args below meth c Q pc ls st M := by
  unfold am_i2 at hx
  split at hx
  next y x r =>
    obtain ⟨rfl, rfl, rfl, rfl⟩ := am_nx_inj hx
    intro H locs cells slots lsA h1 h2 h3 h4 h5
    exact hr H locs cells slots lsA _ x y (hk H locs cells slots lsA h1 h2 h3 h4 h5)
  next => cases hx
theorem sn_d2 {f : Int32 → Int32 → Int32} (hr : ∀ (H : Heap) (locs : List Loc) (cells slots : Nat) (lsA : Array Slot) (rest : List Value) (x y : Int32), ¬ y = 0 → W p l e R s mm args below meth c H locs cells slots Q (F0 mm (pc + n) lsA (.int (f x y) :: rest)) → W p l e R s mm args below meth c H locs cells slots Q (F0 mm pc lsA (.int y :: .int x :: rest)))
    (hx : am_d2 (pc + n) ls st M f = some (.inl (pc', ls', st', M'))) (hk : sn_K G adV D X m k0 z0 p l e R s mm args below meth c Q pc' ls' st' M') : sn_K G adV D X m k0 z0 p l e R s mm args below meth c Q pc ls st M := by
  unfold am_d2 at hx
  split at hx
  next y x r =>
    split at hx
    next => cases hx
    next hy =>
      obtain ⟨rfl, rfl, rfl, rfl⟩ := am_nx_inj hx
      intro H locs cells slots lsA h1 h2 h3 h4 h5
      exact hr H locs cells slots lsA _ x y hy (hk H locs cells slots lsA h1 h2 h3 h4 h5)
  next => cases hx
theorem sn_i1 {f : Int32 → Value} (hr : ∀ (H : Heap) (locs : List Loc) (cells slots : Nat) (lsA : Array Slot) (rest : List Value) (x : Int32), W p l e R s mm args below meth c H locs cells slots Q (F0 mm (pc + n) lsA (sn_cv G (f x) :: rest)) → W p l e R s mm args below meth c H locs cells slots Q (F0 mm pc lsA (.int x :: rest)))
    (hx : am_i1 (pc + n) ls st M f = some (.inl (pc', ls', st', M'))) (hk : sn_K G adV D X m k0 z0 p l e R s mm args below meth c Q pc' ls' st' M') : sn_K G adV D X m k0 z0 p l e R s mm args below meth c Q pc ls st M := by
  unfold am_i1 at hx
  split at hx
  next x r =>
    obtain ⟨rfl, rfl, rfl, rfl⟩ := am_nx_inj hx
    intro H locs cells slots lsA h1 h2 h3 h4 h5
    exact hr H locs cells slots lsA _ x (hk H locs cells slots lsA h1 h2 h3 h4 h5)
  next => cases hx
theorem sn_l2 {f : Int64 → Int64 → Value} (hr : ∀ (H : Heap) (locs : List Loc) (cells slots : Nat) (lsA : Array Slot) (rest : List Value) (x y : Int64), W p l e R s mm args below meth c H locs cells slots Q (F0 mm (pc + n) lsA (sn_cv G (f x y) :: rest)) → W p l e R s mm args below meth c H locs cells slots Q (F0 mm pc lsA (.long y :: .long x :: rest)))
    (hx : am_l2 (pc + n) ls st M f = some (.inl (pc', ls', st', M'))) (hk : sn_K G adV D X m k0 z0 p l e R s mm args below meth c Q pc' ls' st' M') : sn_K G adV D X m k0 z0 p l e R s mm args below meth c Q pc ls st M := by
  unfold am_l2 at hx
  split at hx
  next y x r =>
    obtain ⟨rfl, rfl, rfl, rfl⟩ := am_nx_inj hx
    intro H locs cells slots lsA h1 h2 h3 h4 h5
    exact hr H locs cells slots lsA _ x y (hk H locs cells slots lsA h1 h2 h3 h4 h5)
  next => cases hx
theorem sn_dl2 {f : Int64 → Int64 → Int64} (hr : ∀ (H : Heap) (locs : List Loc) (cells slots : Nat) (lsA : Array Slot) (rest : List Value) (x y : Int64), ¬ y = 0 → W p l e R s mm args below meth c H locs cells slots Q (F0 mm (pc + n) lsA (.long (f x y) :: rest)) → W p l e R s mm args below meth c H locs cells slots Q (F0 mm pc lsA (.long y :: .long x :: rest)))
    (hx : am_dl2 (pc + n) ls st M f = some (.inl (pc', ls', st', M'))) (hk : sn_K G adV D X m k0 z0 p l e R s mm args below meth c Q pc' ls' st' M') : sn_K G adV D X m k0 z0 p l e R s mm args below meth c Q pc ls st M := by
  unfold am_dl2 at hx
  split at hx
  next y x r =>
    split at hx
    next => cases hx
    next hy =>
      obtain ⟨rfl, rfl, rfl, rfl⟩ := am_nx_inj hx
      intro H locs cells slots lsA h1 h2 h3 h4 h5
      exact hr H locs cells slots lsA _ x y hy (hk H locs cells slots lsA h1 h2 h3 h4 h5)
  next => cases hx
end SNS
