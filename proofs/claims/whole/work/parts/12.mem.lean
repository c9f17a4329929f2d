/-! ===== the instructions that read and write the cells ===== -/
theorem sn_get0 (G : sn_G) {M : am_Mem} {i : Nat} {o : am_Ob} (h : M[i]? = some o) : (sn_ws G 0 M)[i]? = some (G.1 + i, sn_E G o) := by
  rw [sn_get, h, Option.map_some, Nat.zero_add]
theorem sn_set0 (G : sn_G) (M : am_Mem) (i : Nat) (o : am_Ob) : (sn_ws G 0 M).set i (G.1 + i, sn_E G o) = sn_ws G 0 (M.set i o) := by
  have h := sn_set G o M 0 i
  rwa [Nat.zero_add] at h
theorem sn_app0 (G : sn_G) (M : am_Mem) (o : am_Ob) : sn_ws G 0 (M ++ [o]) = sn_ws G 0 M ++ [(G.1 + M.length, sn_E G o)] := by
  rw [sn_app, Nat.zero_add]
theorem sn_F.word {G : sn_G} {adV : Nat → Nat} {X : List Int32} {s : State} {H : Heap} {args : Array Value} (h : sn_F G adV X s H) {w : Cond} (hw : w ∈ lw_tbl) (hg : sn_gw w = true) : w.before args s = true := (h.1 w hw hg).use (sn_gw_on hg)
/-- what is known of each class -/
theorem sn_cls : ∀ (k : Nat) (q : vw_C), vwCl[k]? = some q → (∀ w ∈ u_ws q.1 q.2.1 q.2.2, w ∈ lw_tbl) ∧ (∀ a, a < q.2.2 → ∀ b, b < q.2.2 → a ≠ b → (q.2.1 a).2.1 ≠ (q.2.1 b).2.1) ∧ ∃ ty : Nat → FieldType, ∀ a, a < q.2.2 → parseFieldDescriptor (q.2.1 a).2.2.1 = some (ty a) := by
  intro k q h
  match k, h with
  | 0, h => cases h; exact ⟨cn_in0, nmX0, tyX0, tyX0_ok⟩
  | 1, h => cases h; exact ⟨cn_in1, nmX1, tyX1, tyX1_ok⟩
  | 2, h => cases h; exact ⟨cn_in2, nmX2, tyX2, tyX2_ok⟩
  | 3, h => cases h; exact ⟨cn_in3, nmX3, tyX3, tyX3_ok⟩
  | 4, h => cases h; exact ⟨cn_in4, nmX4, tyX4, tyX4_ok⟩
  | 5, h => cases h; exact ⟨cn_in5, nmX5, tyX5, tyX5_ok⟩
  | 6, h => cases h; exact ⟨cn_in6, nmX6, tyX6, tyX6_ok⟩
  | 7, h => cases h; exact ⟨cn_in7, nmX7, tyX7, tyX7_ok⟩
  | 8, h => cases h; exact ⟨cn_in8, nmX8, tyX8, tyX8_ok⟩
  | 9, h => cases h; exact ⟨cn_in9, nmX9, tyX9, tyX9_ok⟩
  | 10, h => cases h; exact ⟨cn_in10, nmX10, tyX10, tyX10_ok⟩
  | 11, h => cases h; exact ⟨cn_in11, nmX11, tyX11, tyX11_ok⟩
  | 12, h => cases h; exact ⟨cn_in12, nmX12, tyX12, tyX12_ok⟩
  | k + 13, h => simp [vwCl] at h
theorem sn_lay_good (C : String) (T : u_T) (k : Nat) : sn_gw (u_lay C T k) = true := by
  unfold u_lay
  split <;> rfl
/-- the layout words of a class, at s -/
theorem sn_lays {G : sn_G} {adV : Nat → Nat} {X : List Int32} {s : State} {H : Heap} (args : Array Value) (hF : sn_F G adV X s H) {k : Nat} {q : vw_C} (h : vwCl[k]? = some q) : ∀ w ∈ u_ws q.1 q.2.1 q.2.2, w.before args s = true := by
  intro w hw
  obtain ⟨j, -, rfl⟩ := List.mem_map.mp hw
  exact hF.word ((sn_cls k q h).1 _ hw) (sn_lay_good _ _ _)
theorem sn_dv0 (G : sn_G) : ∀ j, j < 3 → defaultValue (tyX0 j) = vp_V ((am_dfs.getD 0 []).map (sn_cv G)) j := by
  intro j hj
  match j, hj with
  | 0, _ => rfl
  | 1, _ => rfl
  | 2, _ => rfl
  | j + 3, hj => exact absurd hj (by omega)
theorem sn_dv1 (G : sn_G) : ∀ j, j < 2 → defaultValue (tyX1 j) = vp_V ((am_dfs.getD 1 []).map (sn_cv G)) j := by
  intro j hj
  match j, hj with
  | 0, _ => rfl
  | 1, _ => rfl
  | j + 2, hj => exact absurd hj (by omega)
theorem sn_dv2 (G : sn_G) : ∀ j, j < 2 → defaultValue (tyX2 j) = vp_V ((am_dfs.getD 2 []).map (sn_cv G)) j := by
  intro j hj
  match j, hj with
  | 0, _ => rfl
  | 1, _ => rfl
  | j + 2, hj => exact absurd hj (by omega)
theorem sn_dv3 (G : sn_G) : ∀ j, j < 2 → defaultValue (tyX3 j) = vp_V ((am_dfs.getD 3 []).map (sn_cv G)) j := by
  intro j hj
  match j, hj with
  | 0, _ => rfl
  | 1, _ => rfl
  | j + 2, hj => exact absurd hj (by omega)
theorem sn_dv4 (G : sn_G) : ∀ j, j < 2 → defaultValue (tyX4 j) = vp_V ((am_dfs.getD 4 []).map (sn_cv G)) j := by
  intro j hj
  match j, hj with
  | 0, _ => rfl
  | 1, _ => rfl
  | j + 2, hj => exact absurd hj (by omega)
theorem sn_dv5 (G : sn_G) : ∀ j, j < 3 → defaultValue (tyX5 j) = vp_V ((am_dfs.getD 5 []).map (sn_cv G)) j := by
  intro j hj
  match j, hj with
  | 0, _ => rfl
  | 1, _ => rfl
  | 2, _ => rfl
  | j + 3, hj => exact absurd hj (by omega)
theorem sn_dv6 (G : sn_G) : ∀ j, j < 2 → defaultValue (tyX6 j) = vp_V ((am_dfs.getD 6 []).map (sn_cv G)) j := by
  intro j hj
  match j, hj with
  | 0, _ => rfl
  | 1, _ => rfl
  | j + 2, hj => exact absurd hj (by omega)
theorem sn_dv7 (G : sn_G) : ∀ j, j < 2 → defaultValue (tyX7 j) = vp_V ((am_dfs.getD 7 []).map (sn_cv G)) j := by
  intro j hj
  match j, hj with
  | 0, _ => rfl
  | 1, _ => rfl
  | j + 2, hj => exact absurd hj (by omega)
theorem sn_dv8 (G : sn_G) : ∀ j, j < 2 → defaultValue (tyX8 j) = vp_V ((am_dfs.getD 8 []).map (sn_cv G)) j := by
  intro j hj
  match j, hj with
  | 0, _ => rfl
  | 1, _ => rfl
  | j + 2, hj => exact absurd hj (by omega)
theorem sn_dv9 (G : sn_G) : ∀ j, j < 15 → defaultValue (tyX9 j) = vp_V ((am_dfs.getD 9 []).map (sn_cv G)) j := by
  intro j hj
  match j, hj with
  | 0, _ => rfl
  | 1, _ => rfl
  | 2, _ => rfl
  | 3, _ => rfl
  | 4, _ => rfl
  | 5, _ => rfl
  | 6, _ => rfl
  | 7, _ => rfl
  | 8, _ => rfl
  | 9, _ => rfl
  | 10, _ => rfl
  | 11, _ => rfl
  | 12, _ => rfl
  | 13, _ => rfl
  | 14, _ => rfl
  | j + 15, hj => exact absurd hj (by omega)
theorem sn_dv10 (G : sn_G) : ∀ j, j < 7 → defaultValue (tyX10 j) = vp_V ((am_dfs.getD 10 []).map (sn_cv G)) j := by
  intro j hj
  match j, hj with
  | 0, _ => rfl
  | 1, _ => rfl
  | 2, _ => rfl
  | 3, _ => rfl
  | 4, _ => rfl
  | 5, _ => rfl
  | 6, _ => rfl
  | j + 7, hj => exact absurd hj (by omega)
theorem sn_dv11 (G : sn_G) : ∀ j, j < 11 → defaultValue (tyX11 j) = vp_V ((am_dfs.getD 11 []).map (sn_cv G)) j := by
  intro j hj
  match j, hj with
  | 0, _ => rfl
  | 1, _ => rfl
  | 2, _ => rfl
  | 3, _ => rfl
  | 4, _ => rfl
  | 5, _ => rfl
  | 6, _ => rfl
  | 7, _ => rfl
  | 8, _ => rfl
  | 9, _ => rfl
  | 10, _ => rfl
  | j + 11, hj => exact absurd hj (by omega)
theorem sn_dv12 (G : sn_G) : ∀ j, j < 42 → defaultValue (tyX12 j) = vp_V ((am_dfs.getD 12 []).map (sn_cv G)) j := by
  intro j hj
  match j, hj with
  | 0, _ => rfl
  | 1, _ => rfl
  | 2, _ => rfl
  | 3, _ => rfl
  | 4, _ => rfl
  | 5, _ => rfl
  | 6, _ => rfl
  | 7, _ => rfl
  | 8, _ => rfl
  | 9, _ => rfl
  | 10, _ => rfl
  | 11, _ => rfl
  | 12, _ => rfl
  | 13, _ => rfl
  | 14, _ => rfl
  | 15, _ => rfl
  | 16, _ => rfl
  | 17, _ => rfl
  | 18, _ => rfl
  | 19, _ => rfl
  | 20, _ => rfl
  | 21, _ => rfl
  | 22, _ => rfl
  | 23, _ => rfl
  | 24, _ => rfl
  | 25, _ => rfl
  | 26, _ => rfl
  | 27, _ => rfl
  | 28, _ => rfl
  | 29, _ => rfl
  | 30, _ => rfl
  | 31, _ => rfl
  | 32, _ => rfl
  | 33, _ => rfl
  | 34, _ => rfl
  | 35, _ => rfl
  | 36, _ => rfl
  | 37, _ => rfl
  | 38, _ => rfl
  | 39, _ => rfl
  | 40, _ => rfl
  | 41, _ => rfl
  | j + 42, hj => exact absurd hj (by omega)
theorem sn_tkl : ∀ k ∈ ([1, 2, 4, 6, 7, 8] : List Nat), Cond.castable (sn_cnm k) "ToLiftToStrike$Player" ∈ lw_tbl := by
  have h := sn_wd_in (ps := [(7, 41), (7, 37), (7, 40), (7, 39), (7, 36), (7, 38)]) (ws := ([1, 2, 4, 6, 7, 8] : List Nat).map (fun k => Cond.castable (sn_cnm k) "ToLiftToStrike$Player")) (by decide +kernel)
  exact fun k hk => h _ (List.mem_map.mpr ⟨k, hk, rfl⟩)
theorem sn_tkin (k : Nat) (h : k ∈ ([1, 2, 4, 6, 7, 8] : List Nat)) : Cond.castable (sn_cnm k) "ToLiftToStrike$Player" ∈ lw_tbl := sn_tkl k h
theorem sn_cnmq : ∀ k : Nat, k < 13 → ∃ q : vw_C, vwCl[k]? = some q ∧ sn_cnm k = q.1 := by
  intro k h
  match k, h with
  | 0, _ => exact ⟨_, rfl, rfl⟩
  | 1, _ => exact ⟨_, rfl, rfl⟩
  | 2, _ => exact ⟨_, rfl, rfl⟩
  | 3, _ => exact ⟨_, rfl, rfl⟩
  | 4, _ => exact ⟨_, rfl, rfl⟩
  | 5, _ => exact ⟨_, rfl, rfl⟩
  | 6, _ => exact ⟨_, rfl, rfl⟩
  | 7, _ => exact ⟨_, rfl, rfl⟩
  | 8, _ => exact ⟨_, rfl, rfl⟩
  | 9, _ => exact ⟨_, rfl, rfl⟩
  | 10, _ => exact ⟨_, rfl, rfl⟩
  | 11, _ => exact ⟨_, rfl, rfl⟩
  | 12, _ => exact ⟨_, rfl, rfl⟩
  | k + 13, h => exact absurd h (by omega)
theorem sn_NC_in : ∀ q ∈ sn_NC, (sn_cnm q.1, sn_cnm q.2) ∈ sn_ncs := by decide +kernel
theorem sn_newC (G : sn_G) : ∀ k : Nat, k < 13 → ∃ (C : String) (T : u_T) (N : Nat), vwCl[k]? = some (C, T, N) ∧ sn_cnm k = C ∧ sn_csz k = N ∧ (am_dfs.getD k []).length = N ∧ ∀ ty : Nat → FieldType, (∀ a, a < N → parseFieldDescriptor (T a).2.2.1 = some (ty a)) → ∀ j, j < N → defaultValue (ty j) = vp_V ((am_dfs.getD k []).map (sn_cv G)) j := by
  intro k h
  match k, h with
  | 0, _ =>
    refine ⟨RX0, TX0, 3, rfl, rfl, rfl, rfl, fun ty hty j hj => ?_⟩
    have e : ty j = tyX0 j := Option.some.inj ((hty j hj).symm.trans (tyX0_ok j hj))
    rw [e]
    exact (sn_dv0 G) j hj
  | 1, _ =>
    refine ⟨RX1, TX1, 2, rfl, rfl, rfl, rfl, fun ty hty j hj => ?_⟩
    have e : ty j = tyX1 j := Option.some.inj ((hty j hj).symm.trans (tyX1_ok j hj))
    rw [e]
    exact (sn_dv1 G) j hj
  | 2, _ =>
    refine ⟨RX2, TX2, 2, rfl, rfl, rfl, rfl, fun ty hty j hj => ?_⟩
    have e : ty j = tyX2 j := Option.some.inj ((hty j hj).symm.trans (tyX2_ok j hj))
    rw [e]
    exact (sn_dv2 G) j hj
  | 3, _ =>
    refine ⟨RX3, TX3, 2, rfl, rfl, rfl, rfl, fun ty hty j hj => ?_⟩
    have e : ty j = tyX3 j := Option.some.inj ((hty j hj).symm.trans (tyX3_ok j hj))
    rw [e]
    exact (sn_dv3 G) j hj
  | 4, _ =>
    refine ⟨RX4, TX4, 2, rfl, rfl, rfl, rfl, fun ty hty j hj => ?_⟩
    have e : ty j = tyX4 j := Option.some.inj ((hty j hj).symm.trans (tyX4_ok j hj))
    rw [e]
    exact (sn_dv4 G) j hj
  | 5, _ =>
    refine ⟨RX5, TX5, 3, rfl, rfl, rfl, rfl, fun ty hty j hj => ?_⟩
    have e : ty j = tyX5 j := Option.some.inj ((hty j hj).symm.trans (tyX5_ok j hj))
    rw [e]
    exact (sn_dv5 G) j hj
  | 6, _ =>
    refine ⟨RX6, TX6, 2, rfl, rfl, rfl, rfl, fun ty hty j hj => ?_⟩
    have e : ty j = tyX6 j := Option.some.inj ((hty j hj).symm.trans (tyX6_ok j hj))
    rw [e]
    exact (sn_dv6 G) j hj
  | 7, _ =>
    refine ⟨RX7, TX7, 2, rfl, rfl, rfl, rfl, fun ty hty j hj => ?_⟩
    have e : ty j = tyX7 j := Option.some.inj ((hty j hj).symm.trans (tyX7_ok j hj))
    rw [e]
    exact (sn_dv7 G) j hj
  | 8, _ =>
    refine ⟨RX8, TX8, 2, rfl, rfl, rfl, rfl, fun ty hty j hj => ?_⟩
    have e : ty j = tyX8 j := Option.some.inj ((hty j hj).symm.trans (tyX8_ok j hj))
    rw [e]
    exact (sn_dv8 G) j hj
  | 9, _ =>
    refine ⟨RX9, TX9, 15, rfl, rfl, rfl, rfl, fun ty hty j hj => ?_⟩
    have e : ty j = tyX9 j := Option.some.inj ((hty j hj).symm.trans (tyX9_ok j hj))
    rw [e]
    exact (sn_dv9 G) j hj
  | 10, _ =>
    refine ⟨RX10, TX10, 7, rfl, rfl, rfl, rfl, fun ty hty j hj => ?_⟩
    have e : ty j = tyX10 j := Option.some.inj ((hty j hj).symm.trans (tyX10_ok j hj))
    rw [e]
    exact (sn_dv10 G) j hj
  | 11, _ =>
    refine ⟨RX11, TX11, 11, rfl, rfl, rfl, rfl, fun ty hty j hj => ?_⟩
    have e : ty j = tyX11 j := Option.some.inj ((hty j hj).symm.trans (tyX11_ok j hj))
    rw [e]
    exact (sn_dv11 G) j hj
  | 12, _ =>
    refine ⟨RX12, TX12, 42, rfl, rfl, rfl, rfl, fun ty hty j hj => ?_⟩
    have e : ty j = tyX12 j := Option.some.inj ((hty j hj).symm.trans (tyX12_ok j hj))
    rw [e]
    exact (sn_dv12 G) j hj
  | k + 13, h => exact absurd h (by omega)
theorem sn_any {α : Type} {l : List α} {p : α → Bool} (h : l.any p = true) : ∃ a ∈ l, p a = true := List.any_eq_true.mp h
theorem sn_FL_nest : ∀ e ∈ sn_FL, e.2.2.2.1 = true → e.2.1.2.all (fun q => match vwCl[q.1]? with
  | some (_, T', _) => decide ((T' e.2.1.1).1 ≠ sn_cnm e.1.1)
  | none => false) = true := by decide +kernel
/-- a link to a field, and what it says of the classes of its data -/
theorem sn_fld {m k : Nat} {d : am_Dt} (h : sn_FL.any (fun e => e.1.1 == sn_own m && e.1.2 == k && decide (e.2.1 = d)) = true) : ∃ (C : String) (T : u_T), ((Cond.fieldLink (sn_cnm (sn_own m)) k C (T d.1).2.1 (T d.1).2.2.1 ∈ lw_tbl) ∨ ((Cond.fieldLinkNest (sn_cnm (sn_own m)) k C (T d.1).2.1 (T d.1).2.2.1 "ToLiftToStrike" ∈ lw_tbl) ∧ d.2.all (fun q => match vwCl[q.1]? with
      | some (_, T', _) => decide ((T' d.1).1 ≠ sn_cnm (sn_own m))
      | none => false) = true)) ∧
    ∀ q ∈ d.2, ∃ (C' : String) (T' : u_T) (N' : Nat), vwCl[q.1]? = some (C', T', N') ∧ d.1 < N' ∧ T' d.1 = T d.1 ∧ (C = (T d.1).1 ∨ Cond.sameField C (T d.1).1 (T d.1).2.1 (T d.1).2.2.1 ∈ lw_tbl) ∧ sn_tyc q.2 (T d.1).2.2.1 = true := by
  obtain ⟨e, he, h1⟩ := sn_any h
  have hok := sn_FL_ok e he
  simp only [Bool.and_eq_true, beq_iff_eq, decide_eq_true_eq] at h1
  obtain ⟨⟨ho, hk⟩, hd⟩ := h1
  subst hd
  unfold sn_fok at hok
  split at hok
  next C T N hC =>
    rw [Bool.and_eq_true] at hok
    refine ⟨C, T, ?_, fun q hq => ?_⟩
    · have hw := sn_wd_in hok.1 _ List.mem_cons_self
      unfold sn_fw at hw
      rw [ho, hk] at hw
      split at hw
      next hn =>
        have hne := sn_FL_nest e he hn
        rw [ho] at hne
        exact Or.inr ⟨hw, hne⟩
      next => exact Or.inl hw
    · have h2 := List.all_eq_true.mp hok.2 q hq
      split at h2
      next C' T' N' hC' =>
        simp only [Bool.and_eq_true, Bool.or_eq_true, decide_eq_true_eq] at h2
        obtain ⟨⟨⟨a1, a2⟩, a3⟩, a4⟩ := h2
        exact ⟨C', T', N', hC', a1, a2, a3.imp_right (fun z => sn_SF_in _ z), a4⟩
      next => cases h2
  next => cases hok
theorem sn_lookup_in : ∀ {l : List (Nat × Nat)} {c ty : Nat}, l.lookup c = some ty → (c, ty) ∈ l
  | [], c, ty, h => by simp at h
  | (a, b) :: l, c, ty, h => by
    by_cases hk : c = a
    · subst hk
      simp at h
      subst h
      exact List.mem_cons_self
    · have hb : (c == a) = false := by simpa using hk
      rw [List.lookup_cons, hb] at h
      exact List.mem_cons_of_mem _ (sn_lookup_in h)
section SNM
variable {G : sn_G} {adV : Nat → Nat} {D : va_G} {X : List Int32} {m k0 z0 : Nat} {p : Program} {l : Launch} {e : Env} {R : Room} {s : State} {mm : MethodId} {args : Array Value} {below : List Frame} {meth : Method} {c : Code} {Q : State → Prop}
variable {pc : Nat} {M : am_Mem} {H : Heap} {locs : List Loc} {cells slots : Nat} {lsA : Array Slot} {rest : List Value}
theorem sn_Wsize {g : JFrame} (k : H.size ≤ s.heap.size + cells → W p l e R s mm args below meth c H locs cells slots Q g) : W p l e R s mm args below meth c H locs cells slots Q g :=
  fun T hT X => k (by rw [← hT]; exact X.heapSize) T hT X
/-- a new heap holds the new cells: a world -/
theorem sn_mk {M' : am_Mem} {H1 : Heap} {locs1 : List Loc} (hW : sn_W G adV D X M s H) (hS : va_S (sn_A G) s.heap H locs) (hP : va_P D vwCl (sn_ws G 0 M') H1) (hS1 : va_S (sn_A G) s.heap H1 locs1) (hl : M.length ≤ M'.length) (hz : H1.size ≤ G.1 + M'.length) (hz0 : s.heap.size = G.1 + k0) : sn_W G adV D X M' s H1 := by
  have hge : G.1 + M'.length ≤ H1.size := by
    cases hM : M'.length with
    | zero => have := hS1.1; omega
    | succ n =>
      have hn : n < M'.length := by omega
      have h1 := (hP n _ (sn_get0 G (List.getElem?_eq_getElem hn))).lt
      dsimp only at h1
      omega
  have hs := hW.2.2.2
  refine ⟨hW.1.kept (fun q hq => ?_) (by omega), hW.2.1, hP, by omega⟩
  rw [hS1.2.1 q (by omega) (Nat.not_le.mpr hq), hS.2.1 q (by omega) (Nat.not_le.mpr hq)]
theorem sn_getf (C0 : sn_C m p R s mm meth c) (hW : sn_W G adV D X M s H) {k t : Nat} {d : am_Dt} {v : Value} (hlk : sn_FL.any (fun e => e.1.1 == sn_own m && e.1.2 == k && decide (e.2.1 = d)) = true) (hg : am_gf M t d.2 d.1 = some v) (hd : decode (sn_bs m) pc = .ok (.getfield k, 3))
    (kk : W p l e R s mm args below meth c H locs cells slots Q (F0 mm (pc + 3) lsA (sn_cv G v :: rest))) : W p l e R s mm args below meth c H locs cells slots Q (F0 mm pc lsA (.ref (G.1 + t) :: rest)) := by
  obtain ⟨hx, hb, -, -, hown, -⟩ := C0
  obtain ⟨hF, hK, hP, -⟩ := hW
  obtain ⟨C, T, hlink, hcs⟩ := sn_fld hlk
  unfold am_gf at hg
  split at hg
  next ci fs hM =>
    split at hg
    next hsm =>
      obtain ⟨ty, hty⟩ := Option.isSome_iff_exists.mp hsm
      obtain ⟨C', T', N', hC', hlt, hT, hsame, -⟩ := hcs _ (sn_lookup_in hty)
      have hv : (fs.map (sn_cv G))[d.1]? = some (sn_cv G v) := by rw [List.getElem?_map, hg]; rfl
      have hs : ∀ x, s.fieldFound? (T' d.1).1 (T' d.1).2.1 (T' d.1).2.2.1 = some x → s.fieldFound? C (T' d.1).2.1 (T' d.1).2.2.1 = some x := by
        intro x hx
        rw [hT] at hx ⊢
        rcases hsame with h | h
        · rw [h]; exact hx
        · exact u_same (hF.word (args := args) h rfl) x hx
      rcases hlink with h | ⟨h, -⟩
      · exact va_get (own := sn_cnm (sn_own m)) (Ts := u_ws C' T' N') (C := C') (T := T') (N := N') (ci := ci) (ref := C) (index := k) hx hb (sn_lays args hF hC') (fun w h => h) hown hK hP t (sn_get0 G hM) hC' d.1 hlt (by rw [hT]; exact hF.word h rfl) hs hv hd kk
      · exact va_getN (own := sn_cnm (sn_own m)) (Ts := u_ws C' T' N') (C := C') (T := T') (N := N') (ci := ci) (ref := C) (index := k) hx hb (sn_lays args hF hC') (fun w h => h) hown hK hP t (sn_get0 G hM) hC' d.1 hlt (by rw [hT]; exact hF.word h rfl) hs hv hd kk
    next => cases hg
  next => cases hg
theorem sn_okT {q : Nat} {v : Value} {ds : String} (h : am_okT q v = true) (ht : sn_tyc q ds = true) : ∃ ty, parseFieldDescriptor ds = some ty ∧ narrow ty (sn_cv G v) = sn_cv G v ∧ fits ty (sn_cv G v) = true := by
  unfold sn_tyc at ht
  split at ht
  next hp =>
    rw [beq_iff_eq] at ht
    subst ht
    cases v <;> first | (cases h; done) | exact ⟨_, hp, rfl, rfl⟩
  next hp =>
    rw [beq_iff_eq] at ht
    subst ht
    cases v with
    | int x =>
      simp only [am_okT, Bool.or_eq_true, decide_eq_true_eq] at h
      rcases h with rfl | rfl <;> exact ⟨_, hp, rfl, rfl⟩
    | _ => cases h
  next hp =>
    rw [beq_iff_eq] at ht
    subst ht
    cases v <;> first | (cases h; done) | exact ⟨_, hp, rfl, rfl⟩
  next hp =>
    rw [beq_iff_eq] at ht
    subst ht
    cases v <;> first | (cases h; done) | exact ⟨_, hp, rfl, rfl⟩
  next => cases ht
theorem sn_putf (C0 : sn_C m p R s mm meth c) (hW : sn_W G adV D X M s H) (hS : va_S (sn_A G) s.heap H locs) (hz0 : s.heap.size = G.1 + k0) (hc0 : k0 + cells = M.length) {k t : Nat} {d : am_Dt} {v : Value} {M' : am_Mem} (hlk : sn_FL.any (fun e => e.1.1 == sn_own m && e.1.2 == k && decide (e.2.1 = d)) = true) (hfin : sn_fin m d = true) (hg : am_pf M t d.2 d.1 v = some M') (hd : decode (sn_bs m) pc = .ok (.putfield k, 3))
    (kk : ∀ (H1 : Heap) (locs1 : List Loc), sn_W G adV D X M' s H1 → va_S (sn_A G) s.heap H1 locs1 → W p l e R s mm args below meth c H1 locs1 cells slots Q (F0 mm (pc + 3) lsA rest)) : W p l e R s mm args below meth c H locs cells slots Q (F0 mm pc lsA (sn_cv G v :: .ref (G.1 + t) :: rest)) := by
  obtain ⟨hx, hb, -, -, hown, -, hin2, -⟩ := C0
  have hWW := hW
  obtain ⟨hF, hK, hP, -⟩ := hW
  obtain ⟨C, T, hlink, hcs⟩ := sn_fld hlk
  unfold am_pf at hg
  split at hg
  next ci fs hM =>
    split at hg
    next ty hty =>
      split at hg
      next hok =>
        have hM' := Option.some.inj hg
        obtain ⟨C', T', N', hC', hlt, hT, hsame, htc⟩ := hcs _ (sn_lookup_in hty)
        obtain ⟨-, hnm, tys, htys⟩ := sn_cls ci _ hC'
        have hs : ∀ x, s.fieldFound? (T' d.1).1 (T' d.1).2.1 (T' d.1).2.2.1 = some x → s.fieldFound? C (T' d.1).2.1 (T' d.1).2.2.1 = some x := by
          intro x hx
          rw [hT] at hx ⊢
          rcases hsame with h | h
          · rw [h]; exact hx
          · exact u_same (hF.word (args := args) h rfl) x hx
        obtain ⟨fty, hp, hn, hf⟩ := sn_okT (G := G) hok.1 htc
        rw [← hT] at hp
        have hlen : d.1 < (fs.map (sn_cv G)).length := by rw [List.length_map]; exact hok.2
        have hfi := List.all_eq_true.mp hfin _ (sn_lookup_in hty)
        rw [show vwCl[(ci, ty).1]? = some (C', T', N') from hC'] at hfi
        have key : ∀ (H1 : Heap) (locs1 : List Loc), va_P D vwCl ((sn_ws G 0 M).set t (G.1 + t, .inr (ci, (fs.map (sn_cv G)).set d.1 (sn_cv G v)))) H1 → va_D (sn_A G) ((sn_ws G 0 M).set t (G.1 + t, .inr (ci, (fs.map (sn_cv G)).set d.1 (sn_cv G v)))) → va_S (sn_A G) s.heap H1 locs1 → W p l e R s mm args below meth c H1 locs1 cells slots Q (F0 mm (pc + 3) lsA rest) := by
          intro H1 locs1 hP1 _ hS1
          have e1 : (sn_ws G 0 M).set t (G.1 + t, .inr (ci, (fs.map (sn_cv G)).set d.1 (sn_cv G v))) = sn_ws G 0 M' := by
            rw [← hM', ← sn_set0]
            show _ = (sn_ws G 0 M).set t (G.1 + t, .inr (ci, (fs.set d.1 v).map (sn_cv G)))
            rw [List.map_set]
          rw [e1] at hP1
          have hl : M'.length = M.length := by rw [← hM', List.length_set]
          exact sn_Wsize (fun hz => kk H1 locs1 (sn_mk hWW hS hP1 hS1 (by omega) (by omega) hz0) hS1)
        rcases hlink with h | ⟨h, hne⟩
        · by_cases hfl : (T' d.1).2.2.2 = true
          · simp only [hfl, Bool.not_true, Bool.false_or, Bool.and_eq_true, decide_eq_true_eq] at hfi
            exact va_putF (own := sn_cnm (sn_own m)) (Ts := u_ws C' T' N') (C := C') (T := T') (N := N') (ci := ci) (ref := C) (index := k) hx hb (sn_lays args hF hC') (fun w h => h) tys htys hnm hown hK hP (sn_D G M) hS t (sn_get0 G hM) hC' d.1 hlt (by rw [hT]; exact hF.word h rfl) hs hfl (hin2 hfi.1) hfi.2 hp hn hf hlen hd key
          · exact va_put (own := sn_cnm (sn_own m)) (Ts := u_ws C' T' N') (C := C') (T := T') (N := N') (ci := ci) (ref := C) (index := k) hx hb (sn_lays args hF hC') (fun w h => h) tys htys hnm hown hK hP (sn_D G M) hS t (sn_get0 G hM) hC' d.1 hlt (by rw [hT]; exact hF.word h rfl) hs (by simpa using hfl) hp hn hf hlen hd key
        · by_cases hfl : (T' d.1).2.2.2 = true
          · exfalso
            simp only [hfl, Bool.not_true, Bool.false_or, Bool.and_eq_true, decide_eq_true_eq] at hfi
            have h3 := List.all_eq_true.mp hne _ (sn_lookup_in hty)
            rw [show vwCl[(ci, ty).1]? = some (C', T', N') from hC'] at h3
            exact of_decide_eq_true h3 hfi.2
          · exact va_putN (own := sn_cnm (sn_own m)) (Ts := u_ws C' T' N') (C := C') (T := T') (N := N') (ci := ci) (ref := C) (index := k) hx hb (sn_lays args hF hC') (fun w h => h) tys htys hnm hown hK hP (sn_D G M) hS t (sn_get0 G hM) hC' d.1 hlt (by rw [hT]; exact hF.word h rfl) hs (by simpa using hfl) hp hn hf hlen hd key
      next => cases hg
    next => cases hg
  next => cases hg
theorem sn_stored (hW : sn_W G adV D X M s H) (hS : va_S (sn_A G) s.heap H locs) (hz0 : s.heap.size = G.1 + k0) (hc0 : k0 + cells = M.length) {t : Nat} {E' : va_E} {o' : am_Ob} {H1 : Heap} {locs1 : List Loc} {g : JFrame} (hP1 : va_P D vwCl ((sn_ws G 0 M).set t (G.1 + t, E')) H1) (hE : E' = sn_E G o') (hS1 : va_S (sn_A G) s.heap H1 locs1)
    (kk : sn_W G adV D X (M.set t o') s H1 → W p l e R s mm args below meth c H1 locs1 cells slots Q g) : W p l e R s mm args below meth c H1 locs1 cells slots Q g := by
  rw [hE, sn_set0] at hP1
  exact sn_Wsize (fun hz => kk (sn_mk hW hS hP1 hS1 (by rw [List.length_set]; exact Nat.le_refl _) (by rw [List.length_set]; omega) hz0))
theorem sn_getD {α : Type} {xs : List α} {j : Nat} {x d : α} (h : xs[j]? = some x) : xs.getD j d = x := by
  rw [List.getD_eq_getElem?_getD, h]; rfl
theorem sn_vin {α : Type} {xs : List α} {i : Int32} {x : α} (h0 : ¬ i < 0) (h : xs[i.toNatClampNeg]? = some x) : vp_in i xs.length := by
  have h1 := (List.getElem?_eq_some_iff.mp h).1
  exact fun q => q.elim h0 (fun h2 => by omega)
theorem sn_ialoadR (C0 : sn_C m p R s mm meth c) (hW : sn_W G adV D X M s H) {a : Nat} {i x : Int32} (hg : am_ia M a i = some x) (hd : decode (sn_bs m) pc = .ok (.iaload, 1))
    (kk : W p l e R s mm args below meth c H locs cells slots Q (F0 mm (pc + 1) lsA (.int x :: rest))) : W p l e R s mm args below meth c H locs cells slots Q (F0 mm pc lsA (.int i :: .ref (G.1 + a) :: rest)) := by
  unfold am_ia at hg
  split at hg
  next xs hM =>
    split at hg
    next => cases hg
    next h0 =>
      refine va_iald C0.1 C0.2.1 hW.2.1 hW.2.2.1 a 0 (sn_get0 G hM) rfl (sn_vin h0 hg) hd ?_
      rw [sn_getD hg]
      exact kk
  next => cases hg
theorem sn_ialoadX (C0 : sn_C m p R s mm meth c) (hW : sn_W G adV D X M s H) (hS : va_S (sn_A G) s.heap H locs) {i x : Int32} (h0 : ¬ i < 0) (hg : X[i.toNatClampNeg]? = some x) (hd : decode (sn_bs m) pc = .ok (.iaload, 1))
    (kk : W p l e R s mm args below meth c H locs cells slots Q (F0 mm (pc + 1) lsA (.int x :: rest))) : W p l e R s mm args below meth c H locs cells slots Q (F0 mm pc lsA (.int i :: .ref G.2.1 :: rest)) := by
  obtain ⟨-, -, ⟨hX, hlt, hge⟩, -⟩ := hW.1
  refine va_sld (A := sn_A G) (H0 := H) (locs := locs) C0.1 C0.2.1 hX (by omega) (Nat.not_le.mpr hlt) ⟨Nat.le_refl _, fun _ _ _ => rfl, hS.2.2⟩ (sn_vin h0 hg) hd ?_
  rw [sn_getD hg]
  exact kk
theorem sn_alenX (C0 : sn_C m p R s mm meth c) (hW : sn_W G adV D X M s H) (hS : va_S (sn_A G) s.heap H locs) (hd : decode (sn_bs m) pc = .ok (.arraylength, 1))
    (kk : W p l e R s mm args below meth c H locs cells slots Q (F0 mm (pc + 1) lsA (.int (Int32.ofNat X.length) :: rest))) : W p l e R s mm args below meth c H locs cells slots Q (F0 mm pc lsA (.ref G.2.1 :: rest)) := by
  obtain ⟨-, -, ⟨hX, hlt, hge⟩, -⟩ := hW.1
  exact va_slen (A := sn_A G) (H0 := H) (locs := locs) C0.1 C0.2.1 hX (by omega) (Nat.not_le.mpr hlt) ⟨Nat.le_refl _, fun _ _ _ => rfl, hS.2.2⟩ hd kk
theorem sn_setI {xs : List Int32} {k : Nat} {x : Int32} (h : k < xs.length) : upd (fun j => xs.getD j 0) k x = fun j => (xs.set k x).getD j 0 := by
  funext j
  unfold upd
  simp only [List.getD_eq_getElem?_getD]
  by_cases hj : j = k
  · subst hj; rw [if_pos rfl, List.getElem?_set_self h]; rfl
  · rw [if_neg hj, List.getElem?_set_ne (Ne.symm hj)]
theorem sn_setL {xs : List Int64} {k : Nat} {x : Int64} (h : k < xs.length) : vp_updL (fun j => xs.getD j 0) k x = fun j => (xs.set k x).getD j 0 := by
  funext j
  unfold vp_updL
  simp only [List.getD_eq_getElem?_getD]
  by_cases hj : j = k
  · subst hj; rw [if_pos rfl, List.getElem?_set_self h]; rfl
  · rw [if_neg hj, List.getElem?_set_ne (Ne.symm hj)]
theorem sn_setQ (G : sn_G) {xs : List Value} {k : Nat} {v : Value} (h : k < xs.length) : va_up (fun j => sn_rf G (xs.getD j .null)) k (sn_rf G v) = fun j => sn_rf G ((xs.set k v).getD j .null) := by
  funext j
  unfold va_up
  simp only [List.getD_eq_getElem?_getD]
  by_cases hj : j = k
  · subst hj; rw [if_pos rfl, List.getElem?_set_self h]; rfl
  · rw [if_neg hj, List.getElem?_set_ne (Ne.symm hj)]
theorem sn_vin2 {i : Int32} {n : Nat} (h : ¬ (i < 0 ∨ n ≤ i.toNatClampNeg)) : vp_in i n ∧ i.toNatClampNeg < n := ⟨h, Nat.not_le.mp fun q => h (Or.inr q)⟩
theorem sn_iastoreR (C0 : sn_C m p R s mm meth c) (hW : sn_W G adV D X M s H) (hS : va_S (sn_A G) s.heap H locs) (hz0 : s.heap.size = G.1 + k0) (hc0 : k0 + cells = M.length) {a : Nat} {i x : Int32} {M' : am_Mem} (hg : am_iset M a i x = some M') (hd : decode (sn_bs m) pc = .ok (.iastore, 1))
    (kk : ∀ (H1 : Heap) (locs1 : List Loc), sn_W G adV D X M' s H1 → va_S (sn_A G) s.heap H1 locs1 → W p l e R s mm args below meth c H1 locs1 cells slots Q (F0 mm (pc + 1) lsA rest)) : W p l e R s mm args below meth c H locs cells slots Q (F0 mm pc lsA (.int x :: .int i :: .ref (G.1 + a) :: rest)) := by
  unfold am_iset at hg
  split at hg
  next xs hM =>
    split at hg
    next => cases hg
    next h0 =>
      have hM' := Option.some.inj hg
      subst hM'
      obtain ⟨hin, hlt⟩ := sn_vin2 h0
      refine va_iast C0.1 C0.2.1 hW.2.1 hW.2.2.1 (sn_D G M) hS a 0 (sn_get0 G hM) rfl hin hd (fun H1 locs1 hP1 _ hS1 => ?_)
      exact sn_stored hW hS hz0 hc0 hP1 (o' := .inl (xs.set i.toNatClampNeg x)) (by rw [sn_setI hlt]; simp only [sn_E, List.length_set]) hS1 (fun hw => kk H1 locs1 hw hS1)
  next => cases hg
theorem sn_laloadR (C0 : sn_C m p R s mm meth c) (hW : sn_W G adV D X M s H) {a : Nat} {i : Int32} {x : Int64} (hg : am_la M a i = some x) (hd : decode (sn_bs m) pc = .ok (.laload, 1))
    (kk : W p l e R s mm args below meth c H locs cells slots Q (F0 mm (pc + 1) lsA (.long x :: rest))) : W p l e R s mm args below meth c H locs cells slots Q (F0 mm pc lsA (.int i :: .ref (G.1 + a) :: rest)) := by
  unfold am_la at hg
  split at hg
  next xs hM =>
    split at hg
    next => cases hg
    next h0 =>
      refine va_lald C0.1 C0.2.1 hW.2.1 hW.2.2.1 a 1 (sn_get0 G hM) rfl (sn_vin h0 hg) hd ?_
      rw [sn_getD hg]
      exact kk
  next => cases hg
theorem sn_lastoreR (C0 : sn_C m p R s mm meth c) (hW : sn_W G adV D X M s H) (hS : va_S (sn_A G) s.heap H locs) (hz0 : s.heap.size = G.1 + k0) (hc0 : k0 + cells = M.length) {a : Nat} {i : Int32} {x : Int64} {M' : am_Mem} (hg : am_lset M a i x = some M') (hd : decode (sn_bs m) pc = .ok (.lastore, 1))
    (kk : ∀ (H1 : Heap) (locs1 : List Loc), sn_W G adV D X M' s H1 → va_S (sn_A G) s.heap H1 locs1 → W p l e R s mm args below meth c H1 locs1 cells slots Q (F0 mm (pc + 1) lsA rest)) : W p l e R s mm args below meth c H locs cells slots Q (F0 mm pc lsA (.long x :: .int i :: .ref (G.1 + a) :: rest)) := by
  unfold am_lset at hg
  split at hg
  next xs hM =>
    split at hg
    next => cases hg
    next h0 =>
      have hM' := Option.some.inj hg
      subst hM'
      obtain ⟨hin, hlt⟩ := sn_vin2 h0
      refine va_last C0.1 C0.2.1 hW.2.1 hW.2.2.1 (sn_D G M) hS a 1 (sn_get0 G hM) rfl hin hd (fun H1 locs1 hP1 _ hS1 => ?_)
      exact sn_stored hW hS hz0 hc0 hP1 (o' := .inr (.inl (xs.set i.toNatClampNeg x))) (by rw [sn_setL hlt]; simp only [sn_E, List.length_set]) hS1 (fun hw => kk H1 locs1 hw hS1)
  next => cases hg
theorem sn_isO {v : Value} (h : am_isO v = true) : va_rf (sn_rf G v) = sn_cv G v := by
  cases v <;> first | rfl | cases h
theorem sn_tyk {t : Nat} (h : t = 2 ∨ t = 3) : ∃ C : String, (sn_tys G)[t]? = some (G.2.2.2 t, .object C) := by
  rcases h with rfl | rfl <;> exact ⟨_, rfl⟩
theorem sn_aaloadR (C0 : sn_C m p R s mm meth c) (hW : sn_W G adV D X M s H) {a : Nat} {i : Int32} {v : Value} (hg : am_aa M a i = some v) (hd : decode (sn_bs m) pc = .ok (.aaload, 1))
    (kk : W p l e R s mm args below meth c H locs cells slots Q (F0 mm (pc + 1) lsA (sn_cv G v :: rest))) : W p l e R s mm args below meth c H locs cells slots Q (F0 mm pc lsA (.int i :: .ref (G.1 + a) :: rest)) := by
  unfold am_aa at hg
  split at hg
  next t xs hM =>
    split at hg
    next => cases hg
    next h0 =>
      split at hg
      next w hw =>
        split at hg
        next hv =>
          cases hg
          obtain ⟨C, hC⟩ := sn_tyk (G := G) hv.2
          refine va_aldq C0.1 C0.2.1 hW.2.1 hW.2.2.1 a t (sn_get0 G hM) hC (sn_vin h0 hw) hd ?_
          rw [sn_getD hw, sn_isO hv.1]
          exact kk
        next => cases hg
      next => cases hg
  next => cases hg
theorem sn_clsOf {r ci : Nat} (h : am_cls M r = some ci) : ∃ fs, M[r]? = some (.inr (.inr (.inr (ci, fs)))) := by
  unfold am_cls at h
  split at h
  next c0 fs hM => cases h; exact ⟨fs, hM⟩
  next => cases h
theorem sn_aastoreR (C0 : sn_C m p R s mm meth c) (hW : sn_W G adV D X M s H) (hS : va_S (sn_A G) s.heap H locs) (hz0 : s.heap.size = G.1 + k0) (hc0 : k0 + cells = M.length) {a : Nat} {i : Int32} {v : Value} {M' : am_Mem} (hg : am_aset M a i v = some M') (hd : decode (sn_bs m) pc = .ok (.aastore, 1))
    (kk : ∀ (H1 : Heap) (locs1 : List Loc), sn_W G adV D X M' s H1 → va_S (sn_A G) s.heap H1 locs1 → W p l e R s mm args below meth c H1 locs1 cells slots Q (F0 mm (pc + 1) lsA rest)) : W p l e R s mm args below meth c H locs cells slots Q (F0 mm pc lsA (sn_cv G v :: .int i :: .ref (G.1 + a) :: rest)) := by
  unfold am_aset at hg
  split at hg
  next t xs hM =>
    split at hg
    next => cases hg
    next h0 =>
      obtain ⟨hin, hlt⟩ := sn_vin2 h0
      split at hg
      next =>
        split at hg
        next ht =>
          have hM' := Option.some.inj hg
          subst hM'
          obtain ⟨C, hC⟩ := sn_tyk (G := G) ht
          refine va_astqN C0.1 C0.2.1 hW.2.1 hW.2.2.1 (sn_D G M) hS a t (sn_get0 G hM) hC hin hd (fun H1 locs1 hP1 _ hS1 => ?_)
          exact sn_stored hW hS hz0 hc0 hP1 (o' := .inr (.inr (.inl (t, xs.set i.toNatClampNeg .null)))) (by rw [show (none : Option Nat) = sn_rf G .null from rfl, sn_setQ G hlt]; simp only [sn_E, List.length_set]) hS1 (fun hw => kk H1 locs1 hw hS1)
        next => cases hg
      next r =>
        split at hg
        next ht =>
          have hM' := Option.some.inj hg
          subst hM'
          cases hcr : am_cls M r with
          | none => rw [hcr] at ht; cases ht
          | some ci =>
            rw [hcr] at ht
            obtain ⟨fs, hfs⟩ := sn_clsOf hcr
            have hE : ∀ (H1 : Heap) (locs1 : List Loc), va_P D vwCl ((sn_ws G 0 M).set a (G.1 + a, .inl (G.2.2.2 t, xs.length, .inr (.inr (.inr (.inr (va_up (fun j => sn_rf G (xs.getD j .null)) i.toNatClampNeg (some (G.1 + r))))))))) H1 → va_D (sn_A G) ((sn_ws G 0 M).set a (G.1 + a, .inl (G.2.2.2 t, xs.length, .inr (.inr (.inr (.inr (va_up (fun j => sn_rf G (xs.getD j .null)) i.toNatClampNeg (some (G.1 + r))))))))) → va_S (sn_A G) s.heap H1 locs1 → W p l e R s mm args below meth c H1 locs1 cells slots Q (F0 mm (pc + 1) lsA rest) := by
              intro H1 locs1 hP1 _ hS1
              exact sn_stored hW hS hz0 hc0 hP1 (o' := .inr (.inr (.inl (t, xs.set i.toNatClampNeg (.ref r))))) (by rw [show some (G.1 + r) = sn_rf G (.ref r) from rfl, sn_setQ G hlt]; simp only [sn_E, List.length_set]) hS1 (fun hw => kk H1 locs1 hw hS1)
            have hti : (t = 2 ∧ ci = 5) ∨ (t = 3 ∧ ci = 3) ∨ (t = 3 ∧ (ci = 1 ∨ ci = 2 ∨ ci = 4 ∨ ci = 6 ∨ ci = 7 ∨ ci = 8)) := by
              have h1 : am_takes t ci = true := ht
              unfold am_takes at h1
              split at h1
              · exact Or.inl ⟨rfl, rfl⟩
              · have := of_decide_eq_true h1; omega
              · cases h1
            rcases hti with ⟨rfl, rfl⟩ | ⟨rfl, rfl⟩ | ⟨rfl, hci⟩
            · exact va_astq (r := (RX5, TX5, 3)) C0.1 C0.2.1 hW.2.1 hW.2.2.1 (sn_D G M) hS a 2 r 5 (sn_get0 G hM) rfl (sn_get0 G hfs) rfl hin hd hE
            · exact va_astq (r := (RX3, TX3, 2)) C0.1 C0.2.1 hW.2.1 hW.2.2.1 (sn_D G M) hS a 3 r 3 (sn_get0 G hM) rfl (sn_get0 G hfs) rfl hin hd hE
            · have hw : ∃ q : vw_C, vwCl[ci]? = some q ∧ Cond.castable q.1 "ToLiftToStrike$Player" ∈ lw_tbl := by
                rcases hci with rfl | rfl | rfl | rfl | rfl | rfl
                · exact ⟨_, rfl, sn_tkin 1 (by decide)⟩
                · exact ⟨_, rfl, sn_tkin 2 (by decide)⟩
                · exact ⟨_, rfl, sn_tkin 4 (by decide)⟩
                · exact ⟨_, rfl, sn_tkin 6 (by decide)⟩
                · exact ⟨_, rfl, sn_tkin 7 (by decide)⟩
                · exact ⟨_, rfl, sn_tkin 8 (by decide)⟩
              obtain ⟨q, hq, hqw⟩ := hw
              exact va_astqO (E := "ToLiftToStrike$Player") (r := q) C0.1 C0.2.1 hW.2.1 hW.2.2.1 (sn_D G M) hS a 3 r ci (sn_get0 G hM) rfl (hW.1.1 _ hqw rfl) (sn_get0 G hfs) hq hin hd hE
        next => cases hg
      next => cases hg
  next => cases hg
theorem sn_alenR (C0 : sn_C m p R s mm meth c) (hW : sn_W G adV D X M s H) {a : Nat} {x : Int32} (hg : am_len M a = some x) (hd : decode (sn_bs m) pc = .ok (.arraylength, 1))
    (kk : W p l e R s mm args below meth c H locs cells slots Q (F0 mm (pc + 1) lsA (.int x :: rest))) : W p l e R s mm args below meth c H locs cells slots Q (F0 mm pc lsA (.ref (G.1 + a) :: rest)) := by
  unfold am_len at hg
  split at hg
  next xs hM =>
    cases hg
    exact va_alen C0.1 C0.2.1 hW.2.1 hW.2.2.1 a 0 (sn_get0 G hM) rfl rfl hd kk
  next xs hM =>
    cases hg
    exact va_alen C0.1 C0.2.1 hW.2.1 hW.2.2.1 a 1 (sn_get0 G hM) rfl rfl hd kk
  next t xs hM =>
    split at hg
    next ht =>
      cases hg
      obtain ⟨C, hC⟩ := sn_tyk (G := G) ht
      exact va_alen C0.1 C0.2.1 hW.2.1 hW.2.2.1 a t (sn_get0 G hM) hC rfl hd kk
    next => cases hg
  next => cases hg
/-- a new cell comes behind the others -/
theorem sn_born (hW : sn_W G adV D X M s H) (hS : va_S (sn_A G) s.heap H locs) (hz0 : s.heap.size = G.1 + k0) (hc0 : k0 + cells = M.length) {q : Nat} {E' : va_E} {o' : am_Ob} {H1 : Heap} {slots' : Nat} {pc' : Nat} (hP1 : va_P D vwCl (sn_ws G 0 M ++ [(q, E')]) H1) (hD1 : va_D (sn_A G) (sn_ws G 0 M ++ [(q, E')])) (hE : E' = sn_E G o') (hS1 : va_S (sn_A G) s.heap H1 locs)
    (kk : sn_W G adV D X (M ++ [o']) s H1 → W p l e R s mm args below meth c H1 locs (cells + 1) slots' Q (F0 mm pc' lsA (.ref (G.1 + M.length) :: rest))) : W p l e R s mm args below meth c H1 locs (cells + 1) slots' Q (F0 mm pc' lsA (.ref q :: rest)) := by
  have hlen : (sn_ws G 0 M).length = M.length := by
    have : ∀ (M : am_Mem) (k : Nat), (sn_ws G k M).length = M.length := by
      intro M
      induction M with
      | nil => intro k; rfl
      | cons o M ih => intro k; rw [sn_ws, List.length_cons, List.length_cons, ih]
    exact this M 0
  have hlast : (sn_ws G 0 M ++ [(q, E')])[M.length]? = some (q, E') := by
    rw [List.getElem?_append_right (by omega), hlen, Nat.sub_self]; rfl
  refine sn_Wsize (fun hz => ?_)
  have h1 : q < H1.size := (hP1 _ _ hlast).lt
  have h2 : G.1 ≤ q := hD1.2 _ _ hlast
  have hq : q = G.1 + M.length := by
    by_cases hlt : q < G.1 + M.length
    · exfalso
      obtain ⟨j, hj⟩ : ∃ j, q = G.1 + j := ⟨q - G.1, by omega⟩
      have hjl : j < M.length := by omega
      have h3 : (sn_ws G 0 M ++ [(q, E')])[j]? = some (G.1 + j, sn_E G M[j]) := by
        rw [List.getElem?_append_left (by omega)]
        exact sn_get0 G (List.getElem?_eq_getElem hjl)
      have := hD1.1 _ _ _ _ h3 hlast hj.symm
      omega
    · omega
  subst hq
  rw [hE, ← sn_app0] at hP1
  exact kk (sn_mk hW hS hP1 hS1 (by simp) (by simp only [List.length_append, List.length_singleton]; omega) hz0)
theorem sn_newR (C0 : sn_C m p R s mm meth c) (hW : sn_W G adV D X M s H) (hS : va_S (sn_A G) s.heap H locs) (hz0 : s.heap.size = G.1 + k0) (hc0 : k0 + cells = M.length) {k : Nat} {d : am_Dt} (hlk : sn_NL.any (fun e => e.1.1 == sn_own m && e.1.2 == k && e.2 == d.1) = true) (hd : decode (sn_bs m) pc = .ok (.new k, 3)) (hcells : cells + 1 ≤ R.cells) (hslots : slots + sn_sz1 (.inr (.inr (.inr (d.1, am_dfs.getD d.1 [])))) ≤ R.slots)
    (kk : ∀ H1 : Heap, sn_W G adV D X (M ++ [.inr (.inr (.inr (d.1, am_dfs.getD d.1 [])))]) s H1 → va_S (sn_A G) s.heap H1 locs → W p l e R s mm args below meth c H1 locs (cells + 1) (slots + sn_sz1 (.inr (.inr (.inr (d.1, am_dfs.getD d.1 []))))) Q (F0 mm (pc + 3) lsA (.ref (G.1 + M.length) :: rest))) : W p l e R s mm args below meth c H locs cells slots Q (F0 mm pc lsA rest) := by
  obtain ⟨e0, he, h1⟩ := sn_any hlk
  simp only [Bool.and_eq_true, beq_iff_eq] at h1
  obtain ⟨⟨ho, hk⟩, hdd⟩ := h1
  have w1 := sn_NL_classLink e0 he
  have w2 := sn_NL_instantiable e0 he
  have w3 := sn_NL_initialized e0 he
  rw [ho, hk, hdd] at w1
  rw [hdd] at w2 w3
  obtain ⟨C, T, N, hC, hnm, hsz, hdf⟩ : ∃ (C : String) (T : u_T) (N : Nat), vwCl[d.1]? = some (C, T, N) ∧ sn_cnm d.1 = C ∧ sn_csz d.1 = N ∧ (am_dfs.getD d.1 []).length = N ∧ ∀ ty : Nat → FieldType, (∀ a, a < N → parseFieldDescriptor (T a).2.2.1 = some (ty a)) → ∀ j, j < N → defaultValue (ty j) = vp_V ((am_dfs.getD d.1 []).map (sn_cv G)) j := by
    have h13 : d.1 < 13 := by
      have h0 : ∀ e ∈ sn_NL, e.2 < 13 := by decide +kernel
      rw [← hdd]; exact h0 e0 he
    exact sn_newC G d.1 h13
  obtain ⟨-, -, ty, hty⟩ := sn_cls d.1 _ hC
  have hl : sn_sz1 (.inr (.inr (.inr (d.1, am_dfs.getD d.1 [])))) = N := hdf.1
  rw [hl] at hslots kk
  rw [hnm] at w1 w2 w3
  rw [hsz] at w2
  refine va_new (own := sn_cnm (sn_own m)) (Ts := u_ws C T N) (C := C) (T := T) (N := N) (ci := d.1) (index := k) (fs := (am_dfs.getD d.1 []).map (sn_cv G)) C0.1 C0.2.1 (sn_lays args hW.1 hC) (fun w h => h) ty hty C0.2.2.2.2.1 (hW.1.word w1 rfl) (hW.1.word w2 rfl) (hW.1.word w3 rfl) hW.2.1 hW.2.2.1 (sn_D G M) hS (fun q hq => by show G.1 ≤ q; omega) hC (hdf.2 ty hty) hcells hslots hd (fun q H1 hP1 hD1 hS1 => ?_)
  exact sn_born hW hS hz0 hc0 hP1 hD1 rfl hS1 (fun hw => kk H1 hw hS1)
theorem sn_newaR (C0 : sn_C m p R s mm meth c) (hW : sn_W G adV D X M s H) (hS : va_S (sn_A G) s.heap H locs) (hz0 : s.heap.size = G.1 + k0) (hc0 : k0 + cells = M.length) {x : Int32} (h0 : ¬ (x < 0 ∨ 100000 < x.toNatClampNeg)) (hd : decode (sn_bs m) pc = .ok (.newarray .int, 2)) (hcells : cells + 1 ≤ R.cells) (hslots : slots + x.toNatClampNeg ≤ R.slots)
    (kk : ∀ H1 : Heap, sn_W G adV D X (M ++ [.inl (List.replicate x.toNatClampNeg 0)]) s H1 → va_S (sn_A G) s.heap H1 locs → W p l e R s mm args below meth c H1 locs (cells + 1) (slots + x.toNatClampNeg) Q (F0 mm (pc + 2) lsA (.ref (G.1 + M.length) :: rest))) : W p l e R s mm args below meth c H locs cells slots Q (F0 mm pc lsA (.int x :: rest)) := by
  obtain ⟨-, ⟨-, -, ha, -⟩, -⟩ := hW.1
  have ha' : (Cond.arrayClass .int).before args s = true := by simpa only [Cond.before, Cond.holds, Cond.value] using ha
  refine va_newa (atype := .int) (ty := .int) (N' := x.toNatClampNeg) (a0 := (x.toNatClampNeg, .inl (fun j => (List.replicate x.toNatClampNeg (0 : Int32)).getD j 0))) C0.1 C0.2.1 ha' rfl hW.2.1 hW.2.2.1 (sn_D G M) hS (fun q hq => by show G.1 ≤ q; omega) (fun cA => ?_) (fun q => h0 (Or.inl q)) rfl (by have := fun q => h0 (Or.inr q); show x.toNatClampNeg * 4 ≤ _; omega) hcells hslots hd (fun q cA H1 hK1 hP1 hD1 hS1 => ?_)
  · rw [vp_cell_i]
    congr 1
    funext j
    simp only [List.getD_eq_getElem?_getD, List.getElem?_replicate]
    split <;> rfl
  · have hcA : cA = G.2.2.2 0 := by
      have h1 := (hK1.2 4 (cA, .int) (by simp [sn_tys])).2
      have h2 := (hK1.2 0 (G.2.2.2 0, .int) (by simp [sn_tys])).2
      exact Option.some.inj (h1.symm.trans h2)
    subst hcA
    exact sn_born hW hS hz0 hc0 hP1 hD1 (by simp only [sn_E, List.length_replicate]) hS1 (fun hw => kk H1 hw hS1)
theorem sn_newaLR (C0 : sn_C m p R s mm meth c) (hW : sn_W G adV D X M s H) (hS : va_S (sn_A G) s.heap H locs) (hz0 : s.heap.size = G.1 + k0) (hc0 : k0 + cells = M.length) {x : Int32} (h0 : ¬ (x < 0 ∨ 100000 < x.toNatClampNeg)) (hd : decode (sn_bs m) pc = .ok (.newarray .long, 2)) (hcells : cells + 1 ≤ R.cells) (hslots : slots + x.toNatClampNeg ≤ R.slots)
    (kk : ∀ H1 : Heap, sn_W G adV D X (M ++ [.inr (.inl (List.replicate x.toNatClampNeg 0))]) s H1 → va_S (sn_A G) s.heap H1 locs → W p l e R s mm args below meth c H1 locs (cells + 1) (slots + x.toNatClampNeg) Q (F0 mm (pc + 2) lsA (.ref (G.1 + M.length) :: rest))) : W p l e R s mm args below meth c H locs cells slots Q (F0 mm pc lsA (.int x :: rest)) := by
  obtain ⟨-, ⟨-, -, -, ha⟩, -⟩ := hW.1
  have ha' : (Cond.arrayClass .long).before args s = true := by simpa only [Cond.before, Cond.holds, Cond.value] using ha
  refine va_newa (atype := .long) (ty := .long) (N' := x.toNatClampNeg) (a0 := (x.toNatClampNeg, .inr (.inl (fun j => (List.replicate x.toNatClampNeg (0 : Int64)).getD j 0)))) C0.1 C0.2.1 ha' rfl hW.2.1 hW.2.2.1 (sn_D G M) hS (fun q hq => by show G.1 ≤ q; omega) (fun cA => ?_) (fun q => h0 (Or.inl q)) rfl (by have := fun q => h0 (Or.inr q); show x.toNatClampNeg * 8 ≤ _; omega) hcells hslots hd (fun q cA H1 hK1 hP1 hD1 hS1 => ?_)
  · rw [vp_cell_l]
    congr 1
    funext j
    simp only [List.getD_eq_getElem?_getD, List.getElem?_replicate]
    split <;> rfl
  · have hcA : cA = G.2.2.2 1 := by
      have h1 := (hK1.2 4 (cA, .long) (by simp [sn_tys])).2
      have h2 := (hK1.2 1 (G.2.2.2 1, .long) (by simp [sn_tys])).2
      exact Option.some.inj (h1.symm.trans h2)
    subst hcA
    exact sn_born hW hS hz0 hc0 hP1 hD1 (by simp only [sn_E, List.length_replicate]) hS1 (fun hw => kk H1 hw hS1)
theorem sn_anewR (C0 : sn_C m p R s mm meth c) (hW : sn_W G adV D X M s H) (hS : va_S (sn_A G) s.heap H locs) (hz0 : s.heap.size = G.1 + k0) (hc0 : k0 + cells = M.length) {k : Nat} {d : am_Dt} (hlk : sn_AL.any (fun e => e.1.1 == sn_own m && e.1.2 == k && e.2 == d.1) = true) {x : Int32} (h0 : ¬ (x < 0 ∨ 100000 < x.toNatClampNeg)) (hd : decode (sn_bs m) pc = .ok (.anewarray k, 3)) (hcells : cells + 1 ≤ R.cells) (hslots : slots + x.toNatClampNeg ≤ R.slots)
    (kk : ∀ H1 : Heap, sn_W G adV D X (M ++ [.inr (.inr (.inl (d.1, List.replicate x.toNatClampNeg .null)))]) s H1 → va_S (sn_A G) s.heap H1 locs → W p l e R s mm args below meth c H1 locs (cells + 1) (slots + x.toNatClampNeg) Q (F0 mm (pc + 3) lsA (.ref (G.1 + M.length) :: rest))) : W p l e R s mm args below meth c H locs cells slots Q (F0 mm pc lsA (.int x :: rest)) := by
  obtain ⟨e0, he, h1⟩ := sn_any hlk
  simp only [Bool.and_eq_true, beq_iff_eq] at h1
  obtain ⟨⟨ho, hk⟩, hdd⟩ := h1
  obtain ⟨w1, hv⟩ := sn_AL_ok e0 he
  rw [ho, hk, hdd] at w1
  rw [hdd] at hv
  obtain ⟨-, ⟨hA2, hA3, -, -⟩, -⟩ := hW.1
  obtain ⟨hao, hty⟩ : va_AO (sn_ael d.1) s ∧ (sn_tys G)[d.1]? = some (G.2.2.2 d.1, .object (sn_ael d.1)) := by
    rcases hv with h | h <;> rw [h]
    · exact ⟨hA2, rfl⟩
    · exact ⟨hA3, rfl⟩
  refine va_newq (own := sn_cnm (sn_own m)) (C := sn_ael d.1) (index := k) (N' := x.toNatClampNeg) C0.1 C0.2.1 C0.2.2.2.2.1 (hW.1.word w1 rfl) hao hW.2.1 hW.2.2.1 (sn_D G M) hS (fun q hq => by show G.1 ≤ q; omega) (fun q => h0 (Or.inl q)) rfl (by have := fun q => h0 (Or.inr q); omega) hcells hslots hd (fun q cA H1 hK1 hP1 hD1 hS1 => ?_)
  have hcA : cA = G.2.2.2 d.1 := by
    obtain ⟨_, _, -, -, -, h1⟩ := (hK1.2 4 (cA, .object (sn_ael d.1)) (by simp [sn_tys])).2
    obtain ⟨_, _, -, -, -, h2⟩ := (hW.2.1.2 d.1 _ hty).2
    exact Option.some.inj (h1.symm.trans h2)
  subst hcA
  refine sn_born hW hS hz0 hc0 hP1 hD1 (o' := .inr (.inr (.inl (d.1, List.replicate x.toNatClampNeg .null)))) ?_ hS1 (fun hw => kk H1 hw hS1)
  have hf : (fun j => sn_rf G ((List.replicate x.toNatClampNeg Value.null).getD j .null)) = (fun _ : Nat => (none : Option Nat)) := by
    funext j
    simp only [List.getD_eq_getElem?_getD, List.getElem?_replicate]
    split <;> rfl
  simp only [sn_E, List.length_replicate, hf]
theorem sn_instR (C0 : sn_C m p R s mm meth c) (hW : sn_W G adV D X M s H) {k t ci b : Nat} {d : am_Dt} (hlk : sn_IL.any (fun e => e.1.1 == sn_own m && e.1.2 == k && decide (e.2.1 = d.2)) = true) (hc : am_cls M t = some ci) (hb : d.2.lookup ci = some b) (hd : decode (sn_bs m) pc = .ok (.instanceof k, 3))
    (kk : W p l e R s mm args below meth c H locs cells slots Q (F0 mm (pc + 3) lsA (.int (Int32.ofNat b) :: rest))) : W p l e R s mm args below meth c H locs cells slots Q (F0 mm pc lsA (.ref (G.1 + t) :: rest)) := by
  obtain ⟨e0, he, h1⟩ := sn_any hlk
  simp only [Bool.and_eq_true, beq_iff_eq, decide_eq_true_eq] at h1
  obtain ⟨⟨ho, hk⟩, hdd⟩ := h1
  have w1 := sn_IL_cl e0 he
  rw [ho, hk] at w1
  obtain ⟨h13, hv⟩ := sn_IL_ok e0 he (ci, b) (by rw [hdd]; exact sn_lookup_in hb)
  obtain ⟨fs, hfs⟩ := sn_clsOf hc
  obtain ⟨q, hq, hqn⟩ := sn_cnmq ci h13
  have hr := va_recv hW.2.1 hW.2.2.1 hq (sn_get0 G hfs)
  rw [← hqn] at hr
  dsimp only at hv
  rcases hv with ⟨rfl, hy | hy⟩ | ⟨rfl, hn⟩
  · rw [← hy] at w1
    have hat := (hW.2.1.1 ci q hq).2
    rw [← hqn] at hat
    exact va_instS C0.1 C0.2.1 C0.2.2.2.2.1 (hW.1.word w1 rfl) hat hr hd kk
  · exact va_instY (C := sn_cnm ci) C0.1 C0.2.1 C0.2.2.2.2.1 (hW.1.word w1 rfl) (hW.1.1 _ (sn_YC_ok _ hy) rfl) hr hd kk
  · obtain ⟨-, -, -, -, -, -, -, hN⟩ := hW.1
    exact va_instNo (C := sn_cnm ci) C0.1 C0.2.1 C0.2.2.2.2.1 (hW.1.word w1 rfl) (hN (sn_cnm ci, sn_cnm e0.2.2) (sn_NC_in _ hn)) hr hd kk
end SNM
