/-! ===== the worlds of the abstract machine on the heap ===== -/
/-- where the list of cells begins, the script's address, the words' addresses, the arrays' classes -/
abbrev sn_G : Type := Nat × Nat × (Nat → Nat) × (Nat → ClassId)
def sn_cv (G : sn_G) : Value → Value
  | .ref k => .ref (G.1 + k)
  | .retAddr 0 => .ref G.2.1
  | .retAddr (k + 1) => .ref (G.2.2.1 k)
  | v => v
def sn_rf (G : sn_G) : Value → Option Nat
  | .ref k => some (G.1 + k)
  | _ => none
def sn_E (G : sn_G) : am_Ob → va_E
  | .inl xs => .inl (G.2.2.2 0, xs.length, .inl (fun j => xs.getD j 0))
  | .inr (.inl xs) => .inl (G.2.2.2 1, xs.length, .inr (.inl (fun j => xs.getD j 0)))
  | .inr (.inr (.inl (t, xs))) => .inl (G.2.2.2 t, xs.length, .inr (.inr (.inr (.inr (fun j => sn_rf G (xs.getD j .null))))))
  | .inr (.inr (.inr (c, fs))) => .inr (c, fs.map (sn_cv G))
def sn_ws (G : sn_G) : Nat → am_Mem → va_W
  | _, [] => []
  | k, o :: M => (G.1 + k, sn_E G o) :: sn_ws G (k + 1) M
theorem sn_get (G : sn_G) : ∀ (M : am_Mem) (k i : Nat), (sn_ws G k M)[i]? = M[i]?.map (fun o => (G.1 + (k + i), sn_E G o))
  | [], k, i => by simp [sn_ws]
  | o :: M, k, 0 => by simp [sn_ws]
  | o :: M, k, i + 1 => by
    rw [sn_ws, List.getElem?_cons_succ, List.getElem?_cons_succ, sn_get G M (k + 1) i]
    rw [show k + 1 + i = k + (i + 1) by omega]
theorem sn_set (G : sn_G) (o' : am_Ob) : ∀ (M : am_Mem) (k i : Nat), (sn_ws G k M).set i (G.1 + (k + i), sn_E G o') = sn_ws G k (M.set i o')
  | [], k, i => by simp [sn_ws]
  | o :: M, k, 0 => by simp [sn_ws]
  | o :: M, k, i + 1 => by
    rw [sn_ws, List.set_cons_succ, List.set_cons_succ, sn_ws, show k + (i + 1) = k + 1 + i by omega, sn_set G o' M (k + 1) i]
theorem sn_app (G : sn_G) (o' : am_Ob) : ∀ (M : am_Mem) (k : Nat), sn_ws G k (M ++ [o']) = sn_ws G k M ++ [(G.1 + (k + M.length), sn_E G o')]
  | [], k => by simp [sn_ws]
  | o :: M, k => by
    rw [List.cons_append, sn_ws, sn_app G o' M (k + 1), sn_ws, List.cons_append, List.length_cons, show k + 1 + M.length = k + (M.length + 1) by omega]
def sn_A (G : sn_G) : Nat → Prop := fun q => G.1 ≤ q
theorem sn_D (G : sn_G) (M : am_Mem) : va_D (sn_A G) (sn_ws G 0 M) := by
  refine ⟨fun i j p q hi hj hpq => ?_, fun k q hk => ?_⟩
  · rw [sn_get] at hi hj
    obtain ⟨o1, -, rfl⟩ := Option.map_eq_some_iff.mp hi
    obtain ⟨o2, -, rfl⟩ := Option.map_eq_some_iff.mp hj
    dsimp only at hpq
    omega
  · rw [sn_get] at hk
    obtain ⟨o1, -, rfl⟩ := Option.map_eq_some_iff.mp hk
    show G.1 ≤ _
    dsimp only
    omega
def sn_tys (G : sn_G) : List (ClassId × FieldType) := [(G.2.2.2 0, .int), (G.2.2.2 1, .long), (G.2.2.2 2, .object "ToLiftToStrike$Row"), (G.2.2.2 3, .object "ToLiftToStrike$Player")]
/-- the words of the tables that stay, whatever is resolved -/
def sn_gw : Cond → Bool
  | .fieldLinkNest .. => true
  | .methodLinkNest .. => true
  | .castable .. => true
  | .declares _ => true
  | w => w.onTables && w.keeps
theorem sn_gw_on {w : Cond} (h : sn_gw w = true) : w.onTables = true := by
  cases w <;> first | rfl | (simp only [sn_gw, Bool.and_eq_true] at h; exact h.1)
theorem sn_gw_warm {w : Cond} (h : sn_gw w = true) {s U : State} (hW : s.WarmedH U.vm) (hZ : va_Nw w s) : va_Nw w U := by
  by_cases hk : (w.onTables && w.keeps) = true
  · rw [Bool.and_eq_true] at hk
    have := Cond.onTables_warm (args' := #[]) (T := U) hW hk.1 hk.2 hZ
    rwa [State.setVm_self] at this
  · cases w <;> first
      | exact absurd h hk
      | exact va_Nw.warmF hW hZ
      | exact va_Nw.warmM hW hZ
      | exact va_Nw.warmC hW hZ
      | exact va_Nw.warmD hW hZ
def sn_texts : List String := ["player", "on", "turn", "block", "serve", "break", "goal", "rally"]
def sn_lens : List Nat := am_texts.map List.length
def sn_byts : List (List Int32) := am_texts.map (fun l => l.map Int32.ofNat)
/-- classes whose objects are no objects of another -/
def sn_ncs : List (String × String) := [("ToLiftToStrike$Player", "ToLiftToStrike$Striker"), ("ToLiftToStrike$Lifter", "ToLiftToStrike$Striker"), ("ToLiftToStrike$Small", "ToLiftToStrike$Striker"), ("ToLiftToStrike$Libero", "ToLiftToStrike$Striker"), ("ToLiftToStrike$Player", "ToLiftToStrike$Lifter"), ("ToLiftToStrike$Striker", "ToLiftToStrike$Lifter"), ("ToLiftToStrike$Tall", "ToLiftToStrike$Lifter"), ("ToLiftToStrike$Small", "ToLiftToStrike$Lifter"), ("ToLiftToStrike$Quick", "ToLiftToStrike$Lifter"), ("ToLiftToStrike$Libero", "ToLiftToStrike$Lifter"), ("ToLiftToStrike$Player", "ToLiftToStrike$Tall"), ("ToLiftToStrike$Striker", "ToLiftToStrike$Tall"), ("ToLiftToStrike$Lifter", "ToLiftToStrike$Tall"), ("ToLiftToStrike$Small", "ToLiftToStrike$Tall"), ("ToLiftToStrike$Quick", "ToLiftToStrike$Tall"), ("ToLiftToStrike$Libero", "ToLiftToStrike$Tall"), ("ToLiftToStrike$Player", "ToLiftToStrike$Small"), ("ToLiftToStrike$Striker", "ToLiftToStrike$Small"), ("ToLiftToStrike$Lifter", "ToLiftToStrike$Small"), ("ToLiftToStrike$Tall", "ToLiftToStrike$Small"), ("ToLiftToStrike$Quick", "ToLiftToStrike$Small"), ("ToLiftToStrike$Player", "ToLiftToStrike$Quick"), ("ToLiftToStrike$Striker", "ToLiftToStrike$Quick"), ("ToLiftToStrike$Lifter", "ToLiftToStrike$Quick"), ("ToLiftToStrike$Tall", "ToLiftToStrike$Quick"), ("ToLiftToStrike$Small", "ToLiftToStrike$Quick"), ("ToLiftToStrike$Libero", "ToLiftToStrike$Quick"), ("ToLiftToStrike$Player", "ToLiftToStrike$Libero"), ("ToLiftToStrike$Striker", "ToLiftToStrike$Libero"), ("ToLiftToStrike$Lifter", "ToLiftToStrike$Libero"), ("ToLiftToStrike$Tall", "ToLiftToStrike$Libero"), ("ToLiftToStrike$Small", "ToLiftToStrike$Libero"), ("ToLiftToStrike$Quick", "ToLiftToStrike$Libero")]
/-- what was there before the first call and stays: the tables, the script, the words -/
def sn_F (G : sn_G) (adV : Nat → Nat) (X : List Int32) (U : State) (H : Heap) : Prop :=
  (∀ w ∈ lw_tbl, sn_gw w = true → va_Nw w U) ∧ (va_AO "ToLiftToStrike$Row" U ∧ va_AO "ToLiftToStrike$Player" U ∧ (Cond.arrayClass .int).before #[] U = true ∧ (Cond.arrayClass .long).before #[] U = true) ∧
  (va_X G.2.1 X.length (fun j => X.getD j 0) U H ∧ G.2.1 < G.1 ∧ G.1 ≤ H.size) ∧ (∀ i, i < 8 → vk_R "ToLiftToStrike$Text" (86 + 2 * i) (sn_texts.getD i "") (G.2.2.1 i) U) ∧
  vk_S 8 sn_lens sn_byts G.2.2.1 adV (sn_A G) U H ∧ va_Z "java/lang/String" "COMPACT_STRINGS" "Z" (.int 1) (sn_A G) U H ∧ va_Zq "jdk/internal/util/Preconditions" "SIOOBE_FORMATTER" "Ljava/util/function/BiFunction;" (sn_A G) U H ∧ ∀ q ∈ sn_ncs, va_Nc q.1 q.2 U
/-- a world: the cells of M stand on the heap H, as the tables of U have it -/
def sn_W (G : sn_G) (adV : Nat → Nat) (D : va_G) (X : List Int32) (M : am_Mem) (U : State) (H : Heap) : Prop :=
  sn_F G adV X U H ∧ va_K D vwCl (sn_tys G) U ∧ va_P D vwCl (sn_ws G 0 M) H ∧ H.size = G.1 + M.length
theorem sn_F.warm {G : sn_G} {adV : Nat → Nat} {X : List Int32} {s U : State} {H : Heap} (hW : s.WarmedH U.vm) (h : sn_F G adV X s H) : sn_F G adV X U H := by
  obtain ⟨h1, ⟨h2, h3, h4, h5⟩, ⟨h6, h7, h7b⟩, h8, h9, h10, h11, h12⟩ := h
  refine ⟨fun w hw hg => sn_gw_warm hg hW (h1 w hw hg), ⟨h2.moved hW.alike, h3.moved hW.alike, word_at hW (Or.inr ⟨_, rfl⟩) h4, word_at hW (Or.inr ⟨_, rfl⟩) h5⟩, ⟨h6.moved hW.alike, h7, h7b⟩, fun i hi => (h8 i hi).warm hW, h9.moved hW.alike, h10.moved hW.alike, ?_, fun q hq => (h12 q hq).moved hW.alike⟩
  rcases h11 with h | ⟨t, h⟩
  · exact Or.inl (h.moved hW.alike)
  · exact Or.inr ⟨t, h.moved hW.alike⟩
theorem sn_W.warm {G : sn_G} {adV : Nat → Nat} {D : va_G} {X : List Int32} {M : am_Mem} {s U : State} {H : Heap} (hW : s.WarmedH U.vm) (h : sn_W G adV D X M s H) : sn_W G adV D X M U H :=
  ⟨h.1.warm hW, va_K.moved hW.alike h.2.1, h.2.2⟩
theorem sn_F.same {G : sn_G} {adV : Nat → Nat} {X : List Int32} {u U : State} {H : Heap} (hv : U.vm = u.vm) (h : sn_F G adV X u H) : sn_F G adV X U H := by
  have ha : u.vm.Alike U.vm := by rw [hv]; exact Vm.Alike.refl _
  obtain ⟨h1, ⟨h2, h3, h4, h5⟩, ⟨h6, h7, h7b⟩, h8, h9, h10, h11, h12⟩ := h
  refine ⟨fun w hw hg => (h1 w hw hg).same (sn_gw_on hg) hv.symm, ⟨h2.moved ha, h3.moved ha, ?_, ?_⟩, ⟨h6.moved ha, h7, h7b⟩, fun i hi => (h8 i hi).same hv, h9.moved ha, h10.moved ha, ?_, fun q hq => (h12 q hq).moved ha⟩
  · simpa only [Cond.before, Cond.holds, Cond.value, hv] using h4
  · simpa only [Cond.before, Cond.holds, Cond.value, hv] using h5
  · rcases h11 with h | ⟨t, h⟩
    · exact Or.inl (h.moved ha)
    · exact Or.inr ⟨t, h.moved ha⟩
theorem sn_W.same {G : sn_G} {adV : Nat → Nat} {D : va_G} {X : List Int32} {M : am_Mem} {u U : State} {H : Heap} (hv : U.vm = u.vm) (h : sn_W G adV D X M u H) : sn_W G adV D X M U H :=
  ⟨h.1.same hv, va_K.moved (by rw [hv]; exact Vm.Alike.refl _) h.2.1, h.2.2⟩
/-- the old cells stay: so does all that was there before -/
theorem sn_F.kept {G : sn_G} {adV : Nat → Nat} {X : List Int32} {U : State} {H H1 : Heap} (hq : ∀ q : Nat, q < G.1 → H1[q]? = H[q]?) (hz : H.size ≤ H1.size) (h : sn_F G adV X U H) : sn_F G adV X U H1 := by
  obtain ⟨h1, h2, ⟨h6, h7, h7b⟩, h8, h9, h10, h11, h12⟩ := h
  have hk : ∀ a : Nat, a < H.size → ¬ sn_A G a → H1[a]? = H[a]? := fun a _ ha => hq a (Nat.lt_of_not_le ha)
  refine ⟨h1, h2, ⟨h6.kept (hq _ h7), h7, Nat.le_trans h7b hz⟩, h8, h9.kept hk, h10.kept hk, ?_, h12⟩
  rcases h11 with h | ⟨t, h⟩
  · exact Or.inl (h.kept hk)
  · exact Or.inr ⟨t, h.kept hk⟩
