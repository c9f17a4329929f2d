/-! ===== the abstract machine by equations: a row a sort of instruction ===== -/
theorem ag_lookup_in : ∀ {l : List (Nat × Nat)} {c ty : Nat}, l.lookup c = some ty → (c, ty) ∈ l
  | [], c, ty, h => by simp at h
  | (a, b) :: l, c, ty, h => by
    by_cases hk : c = a
    · subst hk
      simp at h
      subst h
      exact List.mem_cons_self
    · have hb : (c == a) = false := by simpa using hk
      rw [List.lookup_cons, hb] at h
      exact List.mem_cons_of_mem _ (ag_lookup_in h)
section AG
variable {X : List Int32} {m pc n : Nat} {ls : am_Lc} {st : List Value} {M : am_Mem} {d : am_Dt} {off : Int}
theorem ag_if {P : Prop} [Decidable P] {a b : Nat} : am_go X m (if P then a else b) ls st M = if P then am_go X m a ls st M else am_go X m b ls st M := by
  by_cases h : P
  · rw [if_pos h, if_pos h]
  · rw [if_neg h, if_neg h]
theorem ag_cmp_eq {x y : Int32} : (am_cmp .eq x y = true) ↔ x = y := by simp [am_cmp]
theorem ag_cmp_ne {x y : Int32} : (am_cmp .ne x y = true) ↔ ¬ x = y := by simp [am_cmp]
theorem ag_cmp_lt {x y : Int32} : (am_cmp .lt x y = true) ↔ x < y := by simp [am_cmp]
theorem ag_cmp_ge {x y : Int32} : (am_cmp .ge x y = true) ↔ ¬ x < y := by simp [am_cmp, Int32.not_lt]
theorem ag_cmp_gt {x y : Int32} : (am_cmp .gt x y = true) ↔ y < x := by simp [am_cmp]
theorem ag_cmp_le {x y : Int32} : (am_cmp .le x y = true) ↔ ¬ y < x := by simp [am_cmp, Int32.not_lt]
theorem ag_eq {x y : Int32} (hq : am_at m pc = some (.if_icmp .eq off, 3, d)) : am_go X m pc ls (.int y :: .int x :: st) M = if x = y then am_go X m (am_to pc off) ls st M else am_go X m (pc + 3) ls st M := by
  rw [am_step hq (show am_ex X pc (.if_icmp .eq off) 3 d ls (.int y :: .int x :: st) M = some (.inl (if am_cmp .eq x y = true then am_to pc off else pc + 3, ls, st, M)) from rfl), ag_if]
  by_cases h : x = y
  · rw [if_pos h, if_pos (ag_cmp_eq.mpr h)]
  · rw [if_neg h, if_neg (fun q => h (ag_cmp_eq.mp q))]
theorem ag_ne {x y : Int32} (hq : am_at m pc = some (.if_icmp .ne off, 3, d)) : am_go X m pc ls (.int y :: .int x :: st) M = if x = y then am_go X m (pc + 3) ls st M else am_go X m (am_to pc off) ls st M := by
  rw [am_step hq (show am_ex X pc (.if_icmp .ne off) 3 d ls (.int y :: .int x :: st) M = some (.inl (if am_cmp .ne x y = true then am_to pc off else pc + 3, ls, st, M)) from rfl), ag_if]
  by_cases h : x = y
  · rw [if_pos h, if_neg (fun q => ag_cmp_ne.mp q h)]
  · rw [if_neg h, if_pos (ag_cmp_ne.mpr h)]
theorem ag_lt {x y : Int32} (hq : am_at m pc = some (.if_icmp .lt off, 3, d)) : am_go X m pc ls (.int y :: .int x :: st) M = if x < y then am_go X m (am_to pc off) ls st M else am_go X m (pc + 3) ls st M := by
  rw [am_step hq (show am_ex X pc (.if_icmp .lt off) 3 d ls (.int y :: .int x :: st) M = some (.inl (if am_cmp .lt x y = true then am_to pc off else pc + 3, ls, st, M)) from rfl), ag_if]
  by_cases h : x < y
  · rw [if_pos h, if_pos (ag_cmp_lt.mpr h)]
  · rw [if_neg h, if_neg (fun q => h (ag_cmp_lt.mp q))]
theorem ag_ge {x y : Int32} (hq : am_at m pc = some (.if_icmp .ge off, 3, d)) : am_go X m pc ls (.int y :: .int x :: st) M = if x < y then am_go X m (pc + 3) ls st M else am_go X m (am_to pc off) ls st M := by
  rw [am_step hq (show am_ex X pc (.if_icmp .ge off) 3 d ls (.int y :: .int x :: st) M = some (.inl (if am_cmp .ge x y = true then am_to pc off else pc + 3, ls, st, M)) from rfl), ag_if]
  by_cases h : x < y
  · rw [if_pos h, if_neg (fun q => ag_cmp_ge.mp q h)]
  · rw [if_neg h, if_pos (ag_cmp_ge.mpr h)]
theorem ag_gt {x y : Int32} (hq : am_at m pc = some (.if_icmp .gt off, 3, d)) : am_go X m pc ls (.int y :: .int x :: st) M = if y < x then am_go X m (am_to pc off) ls st M else am_go X m (pc + 3) ls st M := by
  rw [am_step hq (show am_ex X pc (.if_icmp .gt off) 3 d ls (.int y :: .int x :: st) M = some (.inl (if am_cmp .gt x y = true then am_to pc off else pc + 3, ls, st, M)) from rfl), ag_if]
  by_cases h : y < x
  · rw [if_pos h, if_pos (ag_cmp_gt.mpr h)]
  · rw [if_neg h, if_neg (fun q => h (ag_cmp_gt.mp q))]
theorem ag_le {x y : Int32} (hq : am_at m pc = some (.if_icmp .le off, 3, d)) : am_go X m pc ls (.int y :: .int x :: st) M = if y < x then am_go X m (pc + 3) ls st M else am_go X m (am_to pc off) ls st M := by
  rw [am_step hq (show am_ex X pc (.if_icmp .le off) 3 d ls (.int y :: .int x :: st) M = some (.inl (if am_cmp .le x y = true then am_to pc off else pc + 3, ls, st, M)) from rfl), ag_if]
  by_cases h : y < x
  · rw [if_pos h, if_neg (fun q => ag_cmp_le.mp q h)]
  · rw [if_neg h, if_pos (ag_cmp_le.mpr h)]
theorem ag_eq0 {x : Int32} (hq : am_at m pc = some (.ifCond .eq off, 3, d)) : am_go X m pc ls (.int x :: st) M = if x = 0 then am_go X m (am_to pc off) ls st M else am_go X m (pc + 3) ls st M := by
  rw [am_step hq (show am_ex X pc (.ifCond .eq off) 3 d ls (.int x :: st) M = some (.inl (if am_cmp .eq x 0 = true then am_to pc off else pc + 3, ls, st, M)) from rfl), ag_if]
  by_cases h : x = 0
  · rw [if_pos h, if_pos (ag_cmp_eq.mpr h)]
  · rw [if_neg h, if_neg (fun q => h (ag_cmp_eq.mp q))]
theorem ag_ne0 {x : Int32} (hq : am_at m pc = some (.ifCond .ne off, 3, d)) : am_go X m pc ls (.int x :: st) M = if x = 0 then am_go X m (pc + 3) ls st M else am_go X m (am_to pc off) ls st M := by
  rw [am_step hq (show am_ex X pc (.ifCond .ne off) 3 d ls (.int x :: st) M = some (.inl (if am_cmp .ne x 0 = true then am_to pc off else pc + 3, ls, st, M)) from rfl), ag_if]
  by_cases h : x = 0
  · rw [if_pos h, if_neg (fun q => ag_cmp_ne.mp q h)]
  · rw [if_neg h, if_pos (ag_cmp_ne.mpr h)]
theorem ag_lt0 {x : Int32} (hq : am_at m pc = some (.ifCond .lt off, 3, d)) : am_go X m pc ls (.int x :: st) M = if x < 0 then am_go X m (am_to pc off) ls st M else am_go X m (pc + 3) ls st M := by
  rw [am_step hq (show am_ex X pc (.ifCond .lt off) 3 d ls (.int x :: st) M = some (.inl (if am_cmp .lt x 0 = true then am_to pc off else pc + 3, ls, st, M)) from rfl), ag_if]
  by_cases h : x < 0
  · rw [if_pos h, if_pos (ag_cmp_lt.mpr h)]
  · rw [if_neg h, if_neg (fun q => h (ag_cmp_lt.mp q))]
theorem ag_ge0 {x : Int32} (hq : am_at m pc = some (.ifCond .ge off, 3, d)) : am_go X m pc ls (.int x :: st) M = if x < 0 then am_go X m (pc + 3) ls st M else am_go X m (am_to pc off) ls st M := by
  rw [am_step hq (show am_ex X pc (.ifCond .ge off) 3 d ls (.int x :: st) M = some (.inl (if am_cmp .ge x 0 = true then am_to pc off else pc + 3, ls, st, M)) from rfl), ag_if]
  by_cases h : x < 0
  · rw [if_pos h, if_neg (fun q => ag_cmp_ge.mp q h)]
  · rw [if_neg h, if_pos (ag_cmp_ge.mpr h)]
theorem ag_gt0 {x : Int32} (hq : am_at m pc = some (.ifCond .gt off, 3, d)) : am_go X m pc ls (.int x :: st) M = if 0 < x then am_go X m (am_to pc off) ls st M else am_go X m (pc + 3) ls st M := by
  rw [am_step hq (show am_ex X pc (.ifCond .gt off) 3 d ls (.int x :: st) M = some (.inl (if am_cmp .gt x 0 = true then am_to pc off else pc + 3, ls, st, M)) from rfl), ag_if]
  by_cases h : 0 < x
  · rw [if_pos h, if_pos (ag_cmp_gt.mpr h)]
  · rw [if_neg h, if_neg (fun q => h (ag_cmp_gt.mp q))]
theorem ag_le0 {x : Int32} (hq : am_at m pc = some (.ifCond .le off, 3, d)) : am_go X m pc ls (.int x :: st) M = if 0 < x then am_go X m (pc + 3) ls st M else am_go X m (am_to pc off) ls st M := by
  rw [am_step hq (show am_ex X pc (.ifCond .le off) 3 d ls (.int x :: st) M = some (.inl (if am_cmp .le x 0 = true then am_to pc off else pc + 3, ls, st, M)) from rfl), ag_if]
  by_cases h : 0 < x
  · rw [if_pos h, if_neg (fun q => ag_cmp_le.mp q h)]
  · rw [if_neg h, if_pos (ag_cmp_le.mpr h)]
theorem ag_div {x y : Int32} (hq : am_at m pc = some (.idiv, 1, d)) : am_go X m pc ls (.int y :: .int x :: st) M = if y = 0 then none else am_go X m (pc + 1) ls (.int (x / y) :: st) M := by
  by_cases h : y = 0
  · rw [if_pos h]
    exact am_stuck hq (by show (if y = 0 then none else _) = none; rw [if_pos h])
  · rw [if_neg h]
    exact am_step hq (by show (if y = 0 then none else _) = _; rw [if_neg h]; rfl)
theorem ag_rem {x y : Int32} (hq : am_at m pc = some (.irem, 1, d)) : am_go X m pc ls (.int y :: .int x :: st) M = if y = 0 then none else am_go X m (pc + 1) ls (.int (x - x / y * y) :: st) M := by
  by_cases h : y = 0
  · rw [if_pos h]
    exact am_stuck hq (by show (if y = 0 then none else _) = none; rw [if_pos h])
  · rw [if_neg h]
    exact am_step hq (by show (if y = 0 then none else _) = _; rw [if_neg h]; rfl)
theorem ag_ldiv {x y : Int64} (hq : am_at m pc = some (.ldiv, 1, d)) : am_go X m pc ls (.long y :: .long x :: st) M = if y = 0 then none else am_go X m (pc + 1) ls (.long (x / y) :: st) M := by
  by_cases h : y = 0
  · rw [if_pos h]
    exact am_stuck hq (by show (if y = 0 then none else _) = none; rw [if_pos h])
  · rw [if_neg h]
    exact am_step hq (by show (if y = 0 then none else _) = _; rw [if_neg h]; rfl)
theorem ag_getf {k t : Nat} (hq : am_at m pc = some (.getfield k, 3, d)) : am_go X m pc ls (.ref t :: st) M = (am_gf M t d.2 d.1).bind fun v => am_go X m (pc + 3) ls (v :: st) M := by
  cases h : am_gf M t d.2 d.1 with
  | none => exact am_stuck hq (by show (match am_gf M t d.2 d.1 with | some v => _ | none => none) = none; rw [h])
  | some v => exact am_step hq (by show (match am_gf M t d.2 d.1 with | some v => am_nx (pc + 3) ls (v :: st) M | none => none) = _; rw [h]; rfl)
theorem ag_putf {k t : Nat} {v : Value} (hq : am_at m pc = some (.putfield k, 3, d)) : am_go X m pc ls (v :: .ref t :: st) M = (am_pf M t d.2 d.1 v).bind fun M' => am_go X m (pc + 3) ls st M' := by
  cases h : am_pf M t d.2 d.1 v with
  | none => exact am_stuck hq (by show (match am_pf M t d.2 d.1 v with | some M' => _ | none => none) = none; rw [h])
  | some M' => exact am_step hq (by show (match am_pf M t d.2 d.1 v with | some M' => am_nx (pc + 3) ls st M' | none => none) = _; rw [h]; rfl)
theorem ag_ia {a : Nat} {i : Int32} (hq : am_at m pc = some (.iaload, 1, d)) : am_go X m pc ls (.int i :: .ref a :: st) M = (am_ia M a i).bind fun x => am_go X m (pc + 1) ls (.int x :: st) M := by
  cases h : am_ia M a i with
  | none => exact am_stuck hq (by show (match am_ia M a i with | some x => _ | none => none) = none; rw [h])
  | some v => exact am_step hq (by show (match am_ia M a i with | some x => am_nx (pc + 1) ls (.int x :: st) M | none => none) = _; rw [h]; rfl)
theorem ag_iaX {i : Int32} (hq : am_at m pc = some (.iaload, 1, d)) : am_go X m pc ls (.int i :: .retAddr 0 :: st) M = if i < 0 then none else (X[i.toNatClampNeg]?).bind fun x => am_go X m (pc + 1) ls (.int x :: st) M := by
  by_cases h0 : i < 0
  · rw [if_pos h0]
    exact am_stuck hq (by show (if i < 0 then none else _) = none; rw [if_pos h0])
  · rw [if_neg h0]
    cases h : X[i.toNatClampNeg]? with
    | none => exact am_stuck hq (by show (if i < 0 then none else match X[i.toNatClampNeg]? with | some x => _ | none => none) = none; rw [if_neg h0, h])
    | some v => exact am_step hq (by show (if i < 0 then none else match X[i.toNatClampNeg]? with | some x => am_nx (pc + 1) ls (.int x :: st) M | none => none) = _; rw [if_neg h0, h]; rfl)
theorem ag_iast {a : Nat} {i x : Int32} (hq : am_at m pc = some (.iastore, 1, d)) : am_go X m pc ls (.int x :: .int i :: .ref a :: st) M = (am_iset M a i x).bind fun M' => am_go X m (pc + 1) ls st M' := by
  cases h : am_iset M a i x with
  | none => exact am_stuck hq (by show (match am_iset M a i x with | some M' => _ | none => none) = none; rw [h])
  | some M' => exact am_step hq (by show (match am_iset M a i x with | some M' => am_nx (pc + 1) ls st M' | none => none) = _; rw [h]; rfl)
theorem ag_la {a : Nat} {i : Int32} (hq : am_at m pc = some (.laload, 1, d)) : am_go X m pc ls (.int i :: .ref a :: st) M = (am_la M a i).bind fun x => am_go X m (pc + 1) ls (.long x :: st) M := by
  cases h : am_la M a i with
  | none => exact am_stuck hq (by show (match am_la M a i with | some x => _ | none => none) = none; rw [h])
  | some v => exact am_step hq (by show (match am_la M a i with | some x => am_nx (pc + 1) ls (.long x :: st) M | none => none) = _; rw [h]; rfl)
theorem ag_last {a : Nat} {i : Int32} {x : Int64} (hq : am_at m pc = some (.lastore, 1, d)) : am_go X m pc ls (.long x :: .int i :: .ref a :: st) M = (am_lset M a i x).bind fun M' => am_go X m (pc + 1) ls st M' := by
  cases h : am_lset M a i x with
  | none => exact am_stuck hq (by show (match am_lset M a i x with | some M' => _ | none => none) = none; rw [h])
  | some M' => exact am_step hq (by show (match am_lset M a i x with | some M' => am_nx (pc + 1) ls st M' | none => none) = _; rw [h]; rfl)
theorem ag_aa {a : Nat} {i : Int32} (hq : am_at m pc = some (.aaload, 1, d)) : am_go X m pc ls (.int i :: .ref a :: st) M = (am_aa M a i).bind fun v => am_go X m (pc + 1) ls (v :: st) M := by
  cases h : am_aa M a i with
  | none => exact am_stuck hq (by show (match am_aa M a i with | some x => _ | none => none) = none; rw [h])
  | some v => exact am_step hq (by show (match am_aa M a i with | some v => am_nx (pc + 1) ls (v :: st) M | none => none) = _; rw [h]; rfl)
theorem ag_aast {a : Nat} {i : Int32} {v : Value} (hq : am_at m pc = some (.aastore, 1, d)) : am_go X m pc ls (v :: .int i :: .ref a :: st) M = (am_aset M a i v).bind fun M' => am_go X m (pc + 1) ls st M' := by
  cases h : am_aset M a i v with
  | none => exact am_stuck hq (by show (match am_aset M a i v with | some M' => _ | none => none) = none; rw [h])
  | some M' => exact am_step hq (by show (match am_aset M a i v with | some M' => am_nx (pc + 1) ls st M' | none => none) = _; rw [h]; rfl)
theorem ag_len {a : Nat} (hq : am_at m pc = some (.arraylength, 1, d)) : am_go X m pc ls (.ref a :: st) M = (am_len M a).bind fun x => am_go X m (pc + 1) ls (.int x :: st) M := by
  cases h : am_len M a with
  | none => exact am_stuck hq (by show (match am_len M a with | some x => _ | none => none) = none; rw [h])
  | some v => exact am_step hq (by show (match am_len M a with | some x => am_nx (pc + 1) ls (.int x :: st) M | none => none) = _; rw [h]; rfl)
theorem ag_newI {x : Int32} (hq : am_at m pc = some (.newarray .int, 2, d)) : am_go X m pc ls (.int x :: st) M = if x < 0 ∨ 100000 < x.toNatClampNeg then none else am_go X m (pc + 2) ls (.ref M.length :: st) (M ++ [.inl (List.replicate x.toNatClampNeg 0)]) := by
  by_cases h : x < 0 ∨ 100000 < x.toNatClampNeg
  · rw [if_pos h]; exact am_stuck hq (by show (if x < 0 ∨ 100000 < x.toNatClampNeg then none else _) = none; rw [if_pos h])
  · rw [if_neg h]; exact am_step hq (by show (if x < 0 ∨ 100000 < x.toNatClampNeg then none else _) = _; rw [if_neg h]; rfl)
theorem ag_newL {x : Int32} (hq : am_at m pc = some (.newarray .long, 2, d)) : am_go X m pc ls (.int x :: st) M = if x < 0 ∨ 100000 < x.toNatClampNeg then none else am_go X m (pc + 2) ls (.ref M.length :: st) (M ++ [.inr (.inl (List.replicate x.toNatClampNeg 0))]) := by
  by_cases h : x < 0 ∨ 100000 < x.toNatClampNeg
  · rw [if_pos h]; exact am_stuck hq (by show (if x < 0 ∨ 100000 < x.toNatClampNeg then none else _) = none; rw [if_pos h])
  · rw [if_neg h]; exact am_step hq (by show (if x < 0 ∨ 100000 < x.toNatClampNeg then none else _) = _; rw [if_neg h]; rfl)
theorem ag_anew {k : Nat} {x : Int32} (hq : am_at m pc = some (.anewarray k, 3, d)) : am_go X m pc ls (.int x :: st) M = if x < 0 ∨ 100000 < x.toNatClampNeg then none else am_go X m (pc + 3) ls (.ref M.length :: st) (M ++ [.inr (.inr (.inl (d.1, List.replicate x.toNatClampNeg .null)))]) := by
  by_cases h : x < 0 ∨ 100000 < x.toNatClampNeg
  · rw [if_pos h]; exact am_stuck hq (by show (if x < 0 ∨ 100000 < x.toNatClampNeg then none else _) = none; rw [if_pos h])
  · rw [if_neg h]; exact am_step hq (by show (if x < 0 ∨ 100000 < x.toNatClampNeg then none else _) = _; rw [if_neg h]; rfl)
theorem ag_inst {k t : Nat} (hq : am_at m pc = some (.instanceof k, 3, d)) : am_go X m pc ls (.ref t :: st) M = (am_cls M t).bind fun c => (d.2.lookup c).bind fun b => am_go X m (pc + 3) ls (.int (Int32.ofNat b) :: st) M := by
  cases h : am_cls M t with
  | none => exact am_stuck hq (by show (match am_cls M t with | some c => _ | none => none) = none; rw [h])
  | some c =>
    show _ = (d.2.lookup c).bind _
    cases h2 : d.2.lookup c with
    | none => exact am_stuck hq (by show (match am_cls M t with | some c => (match d.2.lookup c with | some b => am_nx (pc + 3) ls (.int (Int32.ofNat b) :: st) M | none => none) | none => none) = none; rw [h]; dsimp only; rw [h2])
    | some b => exact am_step hq (by show (match am_cls M t with | some c => (match d.2.lookup c with | some b => am_nx (pc + 3) ls (.int (Int32.ofNat b) :: st) M | none => none) | none => none) = _; rw [h]; dsimp only; rw [h2]; rfl)
/-- a call of a static method -/
theorem ag_static {k f c0 : Nat} {As r : List Value} (hq : am_at m pc = some (.invokestatic k, 3, (n, [(c0, f)]))) (ha : am_args n st = some (As, r)) (hr : ¬ 4 < r.length) (hf : ¬ 1000 ≤ f) (hs : (As.flatMap am_sl).length ≤ am_nL f) : am_go X m pc ls st M = (am_mt X f As M).bind (fun r1 => am_go X m (pc + 3) ls (r1.1.toList ++ r) r1.2) := by
  refine am_cal (pc' := pc + 3) hq ?_ hs
  show (match am_args n st with | some (As, r) => am_call f (pc + 3) ls As r M | none => none) = _
  rw [ha]
  show am_call f (pc + 3) ls As r M = _
  unfold am_call
  rw [if_neg hr, if_neg hf]
/-- of one of the JDK's -/
theorem ag_snat {k f c0 : Nat} {As r : List Value} (hq : am_at m pc = some (.invokestatic k, 3, (n, [(c0, f)]))) (ha : am_args n st = some (As, r)) (hr : ¬ 4 < r.length) (hf : 1000 ≤ f) {ls' : am_Lc} {st' : List Value} {M' : am_Mem} (hx : am_nat f (pc + 3) ls As r M = some (.inl (pc + 3, ls', st', M'))) : am_go X m pc ls st M = am_go X m (pc + 3) ls' st' M' := by
  refine am_step hq ?_
  show (match am_args n st with | some (As, r) => am_call f (pc + 3) ls As r M | none => none) = _
  rw [ha]
  show am_call f (pc + 3) ls As r M = _
  unfold am_call
  rw [if_neg hr, if_pos hf]
  exact hx
theorem ag_copy {k c0 : Nat} {a0 a1 : Nat} {sp dp w : Int32} {r : List Value} (hq : am_at m pc = some (.invokestatic k, 3, (5, [(c0, 1003)]))) (hr : ¬ 4 < r.length) : am_go X m pc ls (.int w :: .int dp :: .ref a1 :: .int sp :: .ref a0 :: r) M = (am_copyl M a0 a1 sp dp w).bind fun M' => am_go X m (pc + 3) ls r M' := by
  have ha : am_args 5 (.int w :: .int dp :: .ref a1 :: .int sp :: .ref a0 :: r) = some ([.ref a0, .int sp, .ref a1, .int dp, .int w], r) := by
    unfold am_args
    rw [if_pos (by simp only [List.length_cons]; omega)]
    rfl
  cases h : am_copyl M a0 a1 sp dp w with
  | none =>
    refine am_stuck hq ?_
    show (match am_args 5 (.int w :: .int dp :: .ref a1 :: .int sp :: .ref a0 :: r) with | some (As, r) => am_call 1003 (pc + 3) ls As r M | none => none) = _
    rw [ha]
    show am_call 1003 (pc + 3) ls _ r M = _
    unfold am_call
    rw [if_neg hr, if_pos (by decide)]
    show (match am_copyl M a0 a1 sp dp w with | some M' => am_nx (pc + 3) ls r M' | none => none) = _
    rw [h]
  | some M' =>
    refine ag_snat hq ha hr (by decide) ?_
    show (match am_copyl M a0 a1 sp dp w with | some M' => am_nx (pc + 3) ls r M' | none => none) = _
    rw [h]
    rfl
theorem ag_special {k f c0 t : Nat} {As r : List Value} (hq : am_at m pc = some (.invokespecial k, 3, (n, [(c0, f)]))) (ha : am_args n st = some (As, .ref t :: r)) (hr : ¬ 4 < r.length) (hf : ¬ 1000 ≤ f) (hs : ((Value.ref t :: As).flatMap am_sl).length ≤ am_nL f) : am_go X m pc ls st M = if (am_cls M t).isSome = true then (am_mt X f (.ref t :: As) M).bind (fun r1 => am_go X m (pc + 3) ls (r1.1.toList ++ r) r1.2) else none := by
  by_cases hc : (am_cls M t).isSome = true
  · rw [if_pos hc]
    refine am_cal (pc' := pc + 3) hq ?_ hs
    show (match am_args n st with | some (As, .ref t :: r) => (if (am_cls M t).isSome = true then am_call f (pc + 3) ls (.ref t :: As) r M else none) | _ => none) = _
    rw [ha]
    show (if (am_cls M t).isSome = true then am_call f (pc + 3) ls (.ref t :: As) r M else none) = _
    rw [if_pos hc]
    unfold am_call
    rw [if_neg hr, if_neg hf]
  · rw [if_neg hc]
    refine am_stuck hq ?_
    show (match am_args n st with | some (As, .ref t :: r) => (if (am_cls M t).isSome = true then am_call f (pc + 3) ls (.ref t :: As) r M else none) | _ => none) = _
    rw [ha]
    show (if (am_cls M t).isSome = true then am_call f (pc + 3) ls (.ref t :: As) r M else none) = _
    rw [if_neg hc]
theorem ag_init {k c0 t : Nat} {r : List Value} (hq : am_at m pc = some (.invokespecial k, 3, (0, [(c0, 1000)]))) (hr : ¬ 4 < r.length) : am_go X m pc ls (.ref t :: r) M = if (am_cls M t).isSome = true then am_go X m (pc + 3) ls r M else none := by
  have ha : am_args 0 (.ref t :: r) = some ([], .ref t :: r) := rfl
  by_cases hc : (am_cls M t).isSome = true
  · rw [if_pos hc]
    refine am_step hq ?_
    show (if (am_cls M t).isSome = true then am_call 1000 (pc + 3) ls [.ref t] r M else none) = _
    rw [if_pos hc]
    unfold am_call
    rw [if_neg hr, if_pos (by decide)]
    rfl
  · rw [if_neg hc]
    refine am_stuck hq ?_
    show (if (am_cls M t).isSome = true then am_call 1000 (pc + 3) ls [.ref t] r M else none) = _
    rw [if_neg hc]
theorem ag_virtual {k t : Nat} {As r : List Value} (hq : am_at m pc = some (.invokevirtual k, 3, d)) (ha : am_args d.1 st = some (As, .ref t :: r)) (hr : ¬ 4 < r.length) (hf : d.2.all (fun q => decide (¬ 1000 ≤ q.2) && decide (((Value.ref t :: As).flatMap am_sl).length ≤ am_nL q.2)) = true) : am_go X m pc ls st M = (am_cls M t).bind fun c => (d.2.lookup c).bind fun f => (am_mt X f (.ref t :: As) M).bind (fun r1 => am_go X m (pc + 3) ls (r1.1.toList ++ r) r1.2) := by
  have key : am_ex X pc (.invokevirtual k) 3 d ls st M = (match am_cls M t with
      | some c => match d.2.lookup c with
        | some f => if 1000 ≤ f then none else am_call f (pc + 3) ls (.ref t :: As) r M
        | none => none
      | none => none) := by
    show (match am_args d.1 st with
      | some (As, .ref t :: r) => match am_cls M t with
        | some c => match d.2.lookup c with
          | some f => if 1000 ≤ f then none else am_call f (pc + 3) ls (.ref t :: As) r M
          | none => none
        | none => none
      | some (As, .retAddr k :: r) => match d.2 with
        | (_, f) :: _ => if 1000 ≤ f then am_call f (pc + 3) ls (.retAddr k :: As) r M else none
        | [] => none
      | _ => none) = _
    rw [ha]
  cases h : am_cls M t with
  | none => exact am_stuck hq (by show am_ex X pc (.invokevirtual k) 3 d ls st M = _; rw [key, h])
  | some c =>
    show _ = (d.2.lookup c).bind _
    cases h2 : d.2.lookup c with
    | none => exact am_stuck hq (by show am_ex X pc (.invokevirtual k) 3 d ls st M = _; rw [key, h]; dsimp only; rw [h2])
    | some f =>
      have h3 := List.all_eq_true.mp hf _ (ag_lookup_in h2)
      rw [Bool.and_eq_true, decide_eq_true_eq, decide_eq_true_eq] at h3
      refine am_cal (pc' := pc + 3) hq ?_ h3.2
      show am_ex X pc (.invokevirtual k) 3 d ls st M = _
      rw [key, h]
      dsimp only
      rw [h2]
      dsimp only
      rw [if_neg h3.1]
      unfold am_call
      rw [if_neg hr, if_neg h3.1]
/-- length and letters of a word -/
theorem ag_slen {k i c0 : Nat} {r : List Value} {tl : List (Nat × Nat)} {t : List Nat} (hq : am_at m pc = some (.invokevirtual k, 3, (0, (c0, 1004) :: tl))) (hr : ¬ 4 < r.length) (ht : am_texts[i]? = some t) : am_go X m pc ls (.retAddr (i + 1) :: r) M = am_go X m (pc + 3) ls (.int (Int32.ofNat t.length) :: r) M := by
  refine am_step hq ?_
  show (if 1000 ≤ 1004 then am_call 1004 (pc + 3) ls [.retAddr (i + 1)] r M else none) = _
  rw [if_pos (by decide)]
  unfold am_call
  rw [if_neg hr, if_pos (by decide)]
  show (match am_texts[i]? with | some t => am_nx (pc + 3) ls (.int (Int32.ofNat t.length) :: r) M | none => none) = _
  rw [ht]
  rfl
theorem ag_schar {k i c0 : Nat} {x : Int32} {r : List Value} {tl : List (Nat × Nat)} {t : List Nat} {ch : Nat} (hq : am_at m pc = some (.invokevirtual k, 3, (1, (c0, 1005) :: tl))) (hr : ¬ 4 < r.length) (ht : am_texts[i]? = some t) (h0 : ¬ x < 0) (hc : t[x.toNatClampNeg]? = some ch) : am_go X m pc ls (.int x :: .retAddr (i + 1) :: r) M = am_go X m (pc + 3) ls (.int (Int32.ofNat ch) :: r) M := by
  refine am_step hq ?_
  show (if 1000 ≤ 1005 then am_call 1005 (pc + 3) ls [.retAddr (i + 1), .int x] r M else none) = _
  rw [if_pos (by decide)]
  unfold am_call
  rw [if_neg hr, if_pos (by decide)]
  show (match am_texts[i]? with
    | some t => if x < 0 then none else match t[x.toNatClampNeg]? with
      | some c => am_nx (pc + 3) ls (.int (Int32.ofNat c) :: r) M
      | none => none
    | none => none) = _
  rw [ht]
  dsimp only
  rw [if_neg h0, hc]
  rfl
theorem ag_bret {x : Int32} (hq : am_at m pc = some (.ireturn, 1, (1, []))) : am_go X m pc ls [.int x] M = if x = 0 ∨ x = 1 then some (some (.int x), M) else none := by
  by_cases h : x = 0 ∨ x = 1
  · rw [if_pos h]
    exact am_ret hq (by show (if 1 = 1 ∧ ¬ (x = 0 ∨ x = 1) then none else _) = _; rw [if_neg (fun q => q.2 h)])
  · rw [if_neg h]
    exact am_stuck hq (by show (if 1 = 1 ∧ ¬ (x = 0 ∨ x = 1) then none else _) = _; rw [if_pos ⟨rfl, h⟩])
theorem ag_iret {x : Int32} (hq : am_at m pc = some (.ireturn, 1, (0, []))) : am_go X m pc ls [.int x] M = some (some (.int x), M) :=
  am_ret hq (show (if (0 : Nat) = 1 ∧ ¬ (x = 0 ∨ x = 1) then none else some (.inr (.inl (some (.int x))))) = (some (.inr (.inl (some (.int x)))) : am_R) from if_neg (fun q => absurd q.1 (by decide)))
/-- a switch, as a chain -/
def am_swc (pc : Nat) (dflt : Int) : Int → List Int → Int → Nat
  | _, [], _ => am_to pc dflt
  | lo, o :: os, x => if x = lo then am_to pc o else am_swc pc dflt (lo + 1) os x
theorem am_swc_lt {pc : Nat} {dflt : Int} : ∀ (os : List Int) (lo x : Int), x < lo → am_swc pc dflt lo os x = am_to pc dflt
  | [], lo, x, h => rfl
  | o :: os, lo, x, h => by
    rw [am_swc, if_neg (by omega)]
    exact am_swc_lt os (lo + 1) x (by omega)
theorem am_swc_eq {pc : Nat} {dflt : Int} : ∀ (os : List Int) (lo x : Int), am_swc pc dflt lo os x = if x < lo ∨ lo + os.length ≤ x then am_to pc dflt else match os[(x - lo).toNat]? with
    | some o => am_to pc o
    | none => 0
  | [], lo, x => by
    rw [am_swc, if_pos (by simp; omega)]
  | o :: os, lo, x => by
    rw [am_swc]
    by_cases h : x = lo
    · subst h
      rw [if_pos rfl, if_neg (by simp only [List.length_cons]; omega)]
      simp
    · rw [if_neg h, am_swc_eq os (lo + 1) x]
      by_cases h2 : x < lo
      · rw [if_pos (by omega), if_pos (by omega)]
      · by_cases h3 : lo + 1 + os.length ≤ x
        · rw [if_pos (by omega), if_pos (by simp only [List.length_cons]; omega)]
        · rw [if_neg (by omega), if_neg (by simp only [List.length_cons]; omega)]
          have e : (x - lo).toNat = (x - (lo + 1)).toNat + 1 := by omega
          rw [e, List.getElem?_cons_succ]
theorem ag_switch {dflt lo hi : Int} {offs : Array Int} {x : Int32} (hq : am_at m pc = some (.tableswitch dflt lo hi offs, n, d)) (hl : hi = lo + offs.toList.length - 1) : am_go X m pc ls (.int x :: st) M = am_go X m (am_swc pc dflt lo offs.toList x.toInt) ls st M := by
  refine am_step hq ?_
  show am_nx (am_sw pc dflt lo hi offs x) ls st M = _
  rw [am_swc_eq]
  unfold am_sw
  have hc : (x.toInt < lo ∨ hi < x.toInt) ↔ (x.toInt < lo ∨ lo + offs.toList.length ≤ x.toInt) := by omega
  by_cases h : x.toInt < lo ∨ hi < x.toInt
  · rw [if_pos h, if_pos (hc.mp h)]; rfl
  · rw [if_neg h, if_neg (fun q => h (hc.mpr q)), Array.getElem?_toList]; rfl
end AG
theorem as_w0 {w : Int32} : (w.toInt = 0) ↔ w = 0 := ⟨fun h => Int32.toInt_inj.mp (h.trans (by decide)), fun h => by rw [h]; decide⟩
theorem as_w1 {w : Int32} : (w.toInt = 1) ↔ w = 1 := ⟨fun h => Int32.toInt_inj.mp (h.trans (by decide)), fun h => by rw [h]; decide⟩
theorem as_w2 {w : Int32} : (w.toInt = 2) ↔ w = 2 := ⟨fun h => Int32.toInt_inj.mp (h.trans (by decide)), fun h => by rw [h]; decide⟩
theorem as_w3 {w : Int32} : (w.toInt = 3) ↔ w = 3 := ⟨fun h => Int32.toInt_inj.mp (h.trans (by decide)), fun h => by rw [h]; decide⟩
theorem as_w4 {w : Int32} : (w.toInt = 4) ↔ w = 4 := ⟨fun h => Int32.toInt_inj.mp (h.trans (by decide)), fun h => by rw [h]; decide⟩
theorem as_w5 {w : Int32} : (w.toInt = 5) ↔ w = 5 := ⟨fun h => Int32.toInt_inj.mp (h.trans (by decide)), fun h => by rw [h]; decide⟩
theorem as_w6 {w : Int32} : (w.toInt = 6) ↔ w = 6 := ⟨fun h => Int32.toInt_inj.mp (h.trans (by decide)), fun h => by rw [h]; decide⟩
theorem as_w7 {w : Int32} : (w.toInt = 7) ↔ w = 7 := ⟨fun h => Int32.toInt_inj.mp (h.trans (by decide)), fun h => by rw [h]; decide⟩
theorem as_w8 {w : Int32} : (w.toInt = 8) ↔ w = 8 := ⟨fun h => Int32.toInt_inj.mp (h.trans (by decide)), fun h => by rw [h]; decide⟩
theorem as_w9 {w : Int32} : (w.toInt = 9) ↔ w = 9 := ⟨fun h => Int32.toInt_inj.mp (h.trans (by decide)), fun h => by rw [h]; decide⟩
theorem as_w10 {w : Int32} : (w.toInt = 10) ↔ w = 10 := ⟨fun h => Int32.toInt_inj.mp (h.trans (by decide)), fun h => by rw [h]; decide⟩
theorem as_w11 {w : Int32} : (w.toInt = 11) ↔ w = 11 := ⟨fun h => Int32.toInt_inj.mp (h.trans (by decide)), fun h => by rw [h]; decide⟩
theorem as_w12 {w : Int32} : (w.toInt = 12) ↔ w = 12 := ⟨fun h => Int32.toInt_inj.mp (h.trans (by decide)), fun h => by rw [h]; decide⟩
theorem as_w13 {w : Int32} : (w.toInt = 13) ↔ w = 13 := ⟨fun h => Int32.toInt_inj.mp (h.trans (by decide)), fun h => by rw [h]; decide⟩
theorem as_w14 {w : Int32} : (w.toInt = 14) ↔ w = 14 := ⟨fun h => Int32.toInt_inj.mp (h.trans (by decide)), fun h => by rw [h]; decide⟩
theorem as_w15 {w : Int32} : (w.toInt = 15) ↔ w = 15 := ⟨fun h => Int32.toInt_inj.mp (h.trans (by decide)), fun h => by rw [h]; decide⟩
theorem as_w16 {w : Int32} : (w.toInt = 16) ↔ w = 16 := ⟨fun h => Int32.toInt_inj.mp (h.trans (by decide)), fun h => by rw [h]; decide⟩
theorem as_w17 {w : Int32} : (w.toInt = 17) ↔ w = 17 := ⟨fun h => Int32.toInt_inj.mp (h.trans (by decide)), fun h => by rw [h]; decide⟩
theorem as_w18 {w : Int32} : (w.toInt = 18) ↔ w = 18 := ⟨fun h => Int32.toInt_inj.mp (h.trans (by decide)), fun h => by rw [h]; decide⟩
theorem as_w19 {w : Int32} : (w.toInt = 19) ↔ w = 19 := ⟨fun h => Int32.toInt_inj.mp (h.trans (by decide)), fun h => by rw [h]; decide⟩
theorem as_w20 {w : Int32} : (w.toInt = 20) ↔ w = 20 := ⟨fun h => Int32.toInt_inj.mp (h.trans (by decide)), fun h => by rw [h]; decide⟩
theorem as_w21 {w : Int32} : (w.toInt = 21) ↔ w = 21 := ⟨fun h => Int32.toInt_inj.mp (h.trans (by decide)), fun h => by rw [h]; decide⟩
theorem as_w22 {w : Int32} : (w.toInt = 22) ↔ w = 22 := ⟨fun h => Int32.toInt_inj.mp (h.trans (by decide)), fun h => by rw [h]; decide⟩
theorem as_w23 {w : Int32} : (w.toInt = 23) ↔ w = 23 := ⟨fun h => Int32.toInt_inj.mp (h.trans (by decide)), fun h => by rw [h]; decide⟩
theorem as_w24 {w : Int32} : (w.toInt = 24) ↔ w = 24 := ⟨fun h => Int32.toInt_inj.mp (h.trans (by decide)), fun h => by rw [h]; decide⟩
theorem as_w25 {w : Int32} : (w.toInt = 25) ↔ w = 25 := ⟨fun h => Int32.toInt_inj.mp (h.trans (by decide)), fun h => by rw [h]; decide⟩
theorem as_w26 {w : Int32} : (w.toInt = 26) ↔ w = 26 := ⟨fun h => Int32.toInt_inj.mp (h.trans (by decide)), fun h => by rw [h]; decide⟩
theorem as_w27 {w : Int32} : (w.toInt = 27) ↔ w = 27 := ⟨fun h => Int32.toInt_inj.mp (h.trans (by decide)), fun h => by rw [h]; decide⟩
theorem as_w28 {w : Int32} : (w.toInt = 28) ↔ w = 28 := ⟨fun h => Int32.toInt_inj.mp (h.trans (by decide)), fun h => by rw [h]; decide⟩
theorem as_w29 {w : Int32} : (w.toInt = 29) ↔ w = 29 := ⟨fun h => Int32.toInt_inj.mp (h.trans (by decide)), fun h => by rw [h]; decide⟩
theorem as_w30 {w : Int32} : (w.toInt = 30) ↔ w = 30 := ⟨fun h => Int32.toInt_inj.mp (h.trans (by decide)), fun h => by rw [h]; decide⟩
theorem as_w31 {w : Int32} : (w.toInt = 31) ↔ w = 31 := ⟨fun h => Int32.toInt_inj.mp (h.trans (by decide)), fun h => by rw [h]; decide⟩
theorem as_w32 {w : Int32} : (w.toInt = 32) ↔ w = 32 := ⟨fun h => Int32.toInt_inj.mp (h.trans (by decide)), fun h => by rw [h]; decide⟩
theorem as_w33 {w : Int32} : (w.toInt = 33) ↔ w = 33 := ⟨fun h => Int32.toInt_inj.mp (h.trans (by decide)), fun h => by rw [h]; decide⟩
theorem as_w34 {w : Int32} : (w.toInt = 34) ↔ w = 34 := ⟨fun h => Int32.toInt_inj.mp (h.trans (by decide)), fun h => by rw [h]; decide⟩
theorem as_w35 {w : Int32} : (w.toInt = 35) ↔ w = 35 := ⟨fun h => Int32.toInt_inj.mp (h.trans (by decide)), fun h => by rw [h]; decide⟩
theorem as_w36 {w : Int32} : (w.toInt = 36) ↔ w = 36 := ⟨fun h => Int32.toInt_inj.mp (h.trans (by decide)), fun h => by rw [h]; decide⟩
theorem as_w37 {w : Int32} : (w.toInt = 37) ↔ w = 37 := ⟨fun h => Int32.toInt_inj.mp (h.trans (by decide)), fun h => by rw [h]; decide⟩
theorem as_w38 {w : Int32} : (w.toInt = 38) ↔ w = 38 := ⟨fun h => Int32.toInt_inj.mp (h.trans (by decide)), fun h => by rw [h]; decide⟩
theorem as_w39 {w : Int32} : (w.toInt = 39) ↔ w = 39 := ⟨fun h => Int32.toInt_inj.mp (h.trans (by decide)), fun h => by rw [h]; decide⟩
theorem as_w40 {w : Int32} : (w.toInt = 40) ↔ w = 40 := ⟨fun h => Int32.toInt_inj.mp (h.trans (by decide)), fun h => by rw [h]; decide⟩
theorem as_w41 {w : Int32} : (w.toInt = 41) ↔ w = 41 := ⟨fun h => Int32.toInt_inj.mp (h.trans (by decide)), fun h => by rw [h]; decide⟩
theorem as_w42 {w : Int32} : (w.toInt = 42) ↔ w = 42 := ⟨fun h => Int32.toInt_inj.mp (h.trans (by decide)), fun h => by rw [h]; decide⟩
theorem as_w43 {w : Int32} : (w.toInt = 43) ↔ w = 43 := ⟨fun h => Int32.toInt_inj.mp (h.trans (by decide)), fun h => by rw [h]; decide⟩
theorem as_w44 {w : Int32} : (w.toInt = 44) ↔ w = 44 := ⟨fun h => Int32.toInt_inj.mp (h.trans (by decide)), fun h => by rw [h]; decide⟩
/-- what comes of a part that may fail, without a bound name -/
theorem ag_bd {α β : Type} (o : Option α) (d : α) (f : α → Option β) : o.bind f = if o.isSome = true then f (o.getD d) else none := by cases o <;> simp
theorem ag_bd2 {β : Type} (o : Option Nat) (l : List (Nat × Nat)) (f : Nat → Option β) : (o.bind fun c => (List.lookup c l).bind f) = if o.isSome = true then (if (List.lookup (o.getD 0) l).isSome = true then f ((List.lookup (o.getD 0) l).getD 0) else none) else none := by
  rw [ag_bd o 0, ag_bd _ 0]
theorem ag_bd3 {α β : Type} (o : Option Nat) (l : List (Nat × Nat)) (d : α) (g : Nat → Option α) (h : α → Option β) : (o.bind fun c => (List.lookup c l).bind fun f => (g f).bind h) = if o.isSome = true then (if (List.lookup (o.getD 0) l).isSome = true then (if (g ((List.lookup (o.getD 0) l).getD 0)).isSome = true then h ((g ((List.lookup (o.getD 0) l).getD 0)).getD d) else none) else none) else none := by
  rw [ag_bd2, ag_bd _ d]
