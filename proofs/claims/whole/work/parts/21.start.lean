/-! THE CLAIM OUT OF ONE WALK OF THE LAW'S BODY. Your part is whole_start (and what it stands on); all else here is the same for every law, but numbers. -/
def R_law : String := "ToLiftToStrikeLaw"
def lw_P (b : Addr) (xs : List Int32) (args : Array Value) (s : State) : Prop := args = #[.ref b] ∧ s.IntsAt b xs ∧ xs.length ≤ 3072 ∧ (Jvm.Cond.and given_1 narrow_1).before args s = true
def lw_Q (_ : Array Value) (s : State) (o : Outcome) (t : State) : Prop := o = .returned (some (.int 1)) ∧ Framed s o t [] 600000 7302250
def lw_Z (below : List Frame) (a : Array Value) (s : State) : State → Prop := fun t => ∃ o, t.status = .running ∧ Ended t below o ∧ lw_Q a s o t
/-- the law's own end, with 1 on the stack, nothing written that was there before, its room as the claim has it -/
theorem lw_ret {p : Program} {l : Launch} {e : Env} {s : State} {m : MethodId} {below : List Frame} {meth : Method} {c : Code} {b : Nat} (hx : p.tables.exec = Jvm.exec) (hb : c.code = code) (hr : meth.sig.returnType = ret) (hlocks : meth.locks = false) {pc : Nat} {H : Heap} {ls : Array Slot} (hdg : decode code pc = .ok (.ireturn, 1)) : W p l e room_1 s m #[Value.ref b] below meth c H [] 600000 7302250 (lw_Z below #[Value.ref b] s) (F0 m pc ls [.int 1]) := by
  intro T hT X
  obtain ⟨fs, hret, hrun, hended, hW, hframe⟩ := X.leave (v := some (.int 1)) (hlocks := hlocks) (fun h => by rw [hr] at h; cases h)
  have hmeth' : T.vm.method? m = some meth := X.method'
  refine ⟨T.setFrames fs, ?_, .returned (some (.int 1)), hrun, hended, rfl, ⟨_, rfl⟩, hW, hframe⟩
  jvm_step X.here [X.here.top, hx, hb, hdg, hmeth', hr, ret, narrow_b1]
  (try refine ⟨rfl, ?_⟩); (try refine ⟨rfl, ?_⟩)
  first | (intro acts; rw [hret _ acts rfl rfl rfl]) | rw [hret _ _ rfl rfl rfl]
  exact Steps.refl _
/-- what holds at the law's entry: the machine, the code, the tables' words (any of lw_tbl by 'hts w (by decide +kernel)'), the script of L ints xs at the cell b, what the Statement gives of the start (any of its parts by flat_of_before) -/
def lw_At (p : Program) (s : State) (m : MethodId) (meth : Method) (c : Code) (b L : Nat) (xs : Nat → Int32) : Prop :=
  p.tables.exec = Jvm.exec ∧ c.code = code ∧ meth.sig.returnType = ret ∧ c.maxLocals = 4 ∧ s.vm.findClass R_law = some m.cls ∧ (∀ w ∈ lw_tbl, w.before #[Value.ref b] s = true) ∧ va_X b L xs s s.heap ∧ b < s.heap.size ∧ meth.locks = false ∧ (Jvm.Cond.and given_1 narrow_1).before #[Value.ref b] s = true
/-! ===== the law's entry is a world of the abstract machine; the claim out of one run of it ===== -/
def st_s (i : Nat) : Term := .string "ToLiftToStrike$Text" (86 + 2 * i)
def st_v (i : Nat) : Term := .field (st_s i) "java/lang/String" "value" "[B"
def st_p8 : List Nat := [0, 1, 2, 3, 4, 5, 6, 7]
def st_pe : List (Nat × Nat) := [(0, 0), (0, 1), (0, 2), (0, 3), (0, 4), (0, 5), (1, 0), (1, 1), (2, 0), (2, 1), (2, 2), (2, 3), (3, 0), (3, 1), (3, 2), (3, 3), (3, 4), (4, 0), (4, 1), (4, 2), (4, 3), (4, 4), (5, 0), (5, 1), (5, 2), (5, 3), (5, 4), (6, 0), (6, 1), (6, 2), (6, 3), (7, 0), (7, 1), (7, 2), (7, 3), (7, 4)]
def st_pn : List (Nat × Nat) := [(0, 1), (0, 2), (0, 3), (0, 4), (0, 5), (0, 6), (0, 7), (1, 2), (1, 3), (1, 4), (1, 5), (1, 6), (1, 7), (2, 3), (2, 4), (2, 5), (2, 6), (2, 7), (3, 4), (3, 5), (3, 6), (3, 7), (4, 5), (4, 6), (4, 7), (5, 6), (5, 7), (6, 7)]
theorem st_in {ps : List Nat} {ws : List Cond} (h : ps.map (fun i => (flatC narrow_1)[i]?) = ws.map some) : ∀ w ∈ ws, w ∈ flatC narrow_1 := by
  intro w hw
  have h2 : some w ∈ ws.map some := List.mem_map.mpr ⟨w, hw, rfl⟩
  rw [← h] at h2
  obtain ⟨q, -, hq⟩ := List.mem_map.mp h2
  exact List.mem_of_getElem? hq
theorem st_ex : ∀ i ∈ st_p8, Cond.exactly (st_s i) "java/lang/String" ∈ flatC narrow_1 := by
  have h := st_in (ps := [132, 142, 149, 159, 171, 184, 198, 212]) (ws := st_p8.map (fun i => Cond.exactly (st_s i) "java/lang/String")) (by decide +kernel)
  exact fun i hi => h _ (List.mem_map.mpr ⟨i, hi, rfl⟩)
theorem st_co : ∀ i ∈ st_p8, Cond.eq (.field (st_s i) "java/lang/String" "coder" "B") (.int 0) ∈ flatC narrow_1 := by
  have h := st_in (ps := [133, 143, 150, 160, 172, 185, 199, 213]) (ws := st_p8.map (fun i => Cond.eq (.field (st_s i) "java/lang/String" "coder" "B") (.int 0))) (by decide +kernel)
  exact fun i hi => h _ (List.mem_map.mpr ⟨i, hi, rfl⟩)
theorem st_ar : ∀ i ∈ st_p8, Cond.arrayOf (st_v i) .byte ∈ flatC narrow_1 := by
  have h := st_in (ps := [134, 144, 151, 161, 173, 186, 200, 214]) (ws := st_p8.map (fun i => Cond.arrayOf (st_v i) .byte)) (by decide +kernel)
  exact fun i hi => h _ (List.mem_map.mpr ⟨i, hi, rfl⟩)
theorem st_le : ∀ i ∈ st_p8, Cond.eq (.length (st_v i)) (.int (Int32.ofNat (sn_lens.getD i 0))) ∈ flatC narrow_1 := by
  have h := st_in (ps := [135, 145, 152, 162, 174, 187, 201, 215]) (ws := st_p8.map (fun i => Cond.eq (.length (st_v i)) (.int (Int32.ofNat (sn_lens.getD i 0))))) (by decide +kernel)
  exact fun i hi => h _ (List.mem_map.mpr ⟨i, hi, rfl⟩)
theorem st_el : ∀ q ∈ st_pe, Cond.eq (.elem (st_v q.1) (.int (Int32.ofNat q.2))) (.int ((sn_byts.getD q.1 []).getD q.2 0)) ∈ flatC narrow_1 := by
  have h := st_in (ps := [136, 137, 138, 139, 140, 141, 146, 147, 153, 154, 155, 156, 163, 164, 165, 166, 167, 175, 176, 177, 178, 179, 188, 189, 190, 191, 192, 202, 203, 204, 205, 216, 217, 218, 219, 220]) (ws := st_pe.map (fun q => Cond.eq (.elem (st_v q.1) (.int (Int32.ofNat q.2))) (.int ((sn_byts.getD q.1 []).getD q.2 0)))) (by decide +kernel)
  exact fun i hi => h _ (List.mem_map.mpr ⟨i, hi, rfl⟩)
theorem st_ne : ∀ q ∈ st_pn, Cond.not (Cond.eq (st_s q.1) (st_s q.2)) ∈ flatC narrow_1 := by
  have h := st_in (ps := [148, 157, 168, 180, 193, 206, 221, 158, 169, 181, 194, 207, 222, 170, 182, 195, 208, 223, 183, 196, 209, 224, 197, 210, 225, 211, 226, 227]) (ws := st_pn.map (fun q => Cond.not (Cond.eq (st_s q.1) (st_s q.2)))) (by decide +kernel)
  exact fun i hi => h _ (List.mem_map.mpr ⟨i, hi, rfl⟩)
theorem st_nc : ∀ q ∈ sn_ncs, Cond.not (.castable q.1 q.2) ∈ flatC narrow_1 := by
  have h := st_in (ps := [16, 13, 14, 15, 28, 23, 24, 25, 26, 27, 40, 35, 36, 37, 38, 39, 51, 47, 48, 49, 50, 63, 58, 59, 60, 61, 62, 75, 70, 71, 72, 73, 74]) (ws := sn_ncs.map (fun q => Cond.not (.castable q.1 q.2))) (by decide +kernel)
  exact fun i hi => h _ (List.mem_map.mpr ⟨i, hi, rfl⟩)
theorem st_st : Cond.eq (.static "java/lang/String" "COMPACT_STRINGS" "Z") (.int 1) ∈ flatC narrow_1 ∧ Cond.isRef (.static "jdk/internal/util/Preconditions" "SIOOBE_FORMATTER" "Ljava/util/function/BiFunction;") ∈ flatC narrow_1 := by
  have h := st_in (ps := [2, 3]) (ws := [Cond.eq (.static "java/lang/String" "COMPACT_STRINGS" "Z") (.int 1), Cond.isRef (.static "jdk/internal/util/Preconditions" "SIOOBE_FORMATTER" "Ljava/util/function/BiFunction;")]) (by decide +kernel)
  exact ⟨h _ (by simp), h _ (by simp)⟩
theorem st_sr : ∀ i ∈ st_p8, Cond.stringRef "ToLiftToStrike$Text" (86 + 2 * i) (sn_texts.getD i "") ∈ lw_tbl := by
  have h := sn_wd_in (ps := [(3, 84), (3, 85), (3, 86), (3, 87), (3, 88), (3, 89), (3, 90), (3, 91)]) (ws := st_p8.map (fun i => Cond.stringRef "ToLiftToStrike$Text" (86 + 2 * i) (sn_texts.getD i ""))) (by decide +kernel)
  exact fun i hi => h _ (List.mem_map.mpr ⟨i, hi, rfl⟩)
theorem st_w : ∀ w ∈ ([.arrayClass .int, .arrayClass .long, .arrayOver (.object "ToLiftToStrike$Row"), .arrayOver (.object "ToLiftToStrike$Player"), .laysStatic "java/lang/String" "COMPACT_STRINGS" "Z", .laysStatic "jdk/internal/util/Preconditions" "SIOOBE_FORMATTER" "Ljava/util/function/BiFunction;", .initialized "java/lang/String", .initialized "jdk/internal/util/Preconditions"] : List Cond), w ∈ lw_tbl :=
  sn_wd_in (ps := [(1, 49), (1, 50), (1, 29), (1, 58), (3, 105), (3, 130), (1, 16), (1, 18)]) (by decide +kernel)
theorem st_i8 {i : Nat} (h : i < 8) : i ∈ st_p8 := by
  unfold st_p8
  simp only [List.mem_cons, List.not_mem_nil, or_false]
  omega
theorem st_e8 : ∀ i, i < 8 → ∀ j, j < sn_lens.getD i 0 → (i, j) ∈ st_pe := by decide +kernel
theorem st_n8a : ∀ i, i < 8 → ∀ j, j < 8 → (i = j ∨ (i, j) ∈ st_pn ∨ (j, i) ∈ st_pn) := by decide +kernel
theorem st_n8 : ∀ i, i < 8 → ∀ j, j < 8 → i ≠ j → (i, j) ∈ st_pn ∨ (j, i) ∈ st_pn := fun i hi j hj hn => (st_n8a i hi j hj).resolve_left hn
theorem st_inst : ∀ k : Nat, k < 13 → Cond.instantiable (sn_cnm k) (sn_csz k) ∈ lw_tbl := by
  have h := sn_wd_in (ps := [(1, 121), (2, 199), (2, 169), (2, 208), (2, 192), (1, 30), (2, 184), (2, 140), (2, 177), (1, 52), (1, 137), (1, 21), (5, 19)]) (ws := (List.range 13).map (fun k => Cond.instantiable (sn_cnm k) (sn_csz k))) (by decide +kernel)
  exact fun k hk => h _ (List.mem_map.mpr ⟨k, List.mem_range.mpr hk, rfl⟩)
/-- WHAT IS LEFT: a run of the abstract machine, for every script -/
def st_run (X : List Int32) : Prop := ∃ (n : Nat) (M' : am_Mem), am_run X n 0 0 (am_ent 4 [.retAddr 0]) [] [] = some (some (.int 1), M') ∧ M'.length ≤ 600000 ∧ sn_sz M' ≤ 7302250
set_option maxHeartbeats 4000000 in
theorem st_start {p : Program} {e : Env} {s : State} {m : MethodId} {below : List Frame} {meth : Method} {c : Code} (l : Launch) {b L : Nat} {xs : Nat → Int32} (hL : L ≤ 3072) (C0 : lw_At p s m meth c b L xs) (hrun : ∀ X : List Int32, X.length ≤ 3072 → st_run X) : W p l e room_1 s m #[Value.ref b] below meth c s.heap [] 0 0 (lw_Z below #[Value.ref b] s) (entryFrame m ([Value.ref b] : List Value).toArray 4) := by
  obtain ⟨hx, hb, hr, hml, hown, hts, hX, hbl, hlocks, hgv⟩ := C0
  have hfl : ∀ w ∈ flatC narrow_1, w.before #[Value.ref b] s = true := fun w hw => flat_of_before _ hgv w (List.mem_append_right _ hw)
  obtain ⟨n, M', hn, hc1, hc2⟩ := hrun ((List.range L).map xs) (by rw [List.length_map, List.length_range]; exact hL)
  have hXl : ((List.range L).map xs).length = L := by rw [List.length_map, List.length_range]
  have hA : ∀ a : Nat, a < s.heap.size → ¬ (s.heap.size ≤ a) := fun a h => by omega
  obtain ⟨adK, adV, hS, hK⟩ := vk_Sof (args := #[Value.ref b]) (s := s) (N := 8) (tm := st_s) (len := sn_lens) (byt := sn_byts) (A := fun q => s.heap.size ≤ q)
    (by decide +kernel) (fun i hi => hfl _ (st_ex i (st_i8 hi))) (fun i hi => hfl _ (st_co i (st_i8 hi))) (fun i hi => hfl _ (st_ar i (st_i8 hi))) (fun i hi => hfl _ (st_le i (st_i8 hi)))
    (fun i hi j hj => hfl _ (st_el (i, j) (st_e8 i hi j hj))) (fun i j hi hj hij => (st_n8 i hi j hj hij).imp (fun h => hfl _ (st_ne _ h)) (fun h => hfl _ (st_ne _ h))) hA
  have hw : ∀ w ∈ ([.arrayClass .int, .arrayClass .long, .arrayOver (.object "ToLiftToStrike$Row"), .arrayOver (.object "ToLiftToStrike$Player"), .laysStatic "java/lang/String" "COMPACT_STRINGS" "Z", .laysStatic "jdk/internal/util/Preconditions" "SIOOBE_FORMATTER" "Ljava/util/function/BiFunction;", .initialized "java/lang/String", .initialized "jdk/internal/util/Preconditions"] : List Cond), w.before #[Value.ref b] s = true := fun w h => hts w (st_w w h)
  obtain ⟨cI, kI, mI, fI1, fI2, fI3⟩ := Cond.arrayClass_spec (hw (.arrayClass .int) (by simp))
  obtain ⟨cJ, kJ, mJ, fJ1, fJ2, fJ3⟩ := Cond.arrayClass_spec (hw (.arrayClass .long) (by simp))
  obtain ⟨mR, cR, kR, fR1, -, fR2, fR3, fR4⟩ := Cond.arrayOver_spec (hw (.arrayOver (.object "ToLiftToStrike$Row")) (by simp))
  obtain ⟨mP, cP, kP, fP1, -, fP2, fP3, fP4⟩ := Cond.arrayOver_spec (hw (.arrayOver (.object "ToLiftToStrike$Player")) (by simp))
  have hcl : ∀ k : Nat, ∃ q : ClassId × (Nat → Nat), ∀ r : vw_C, vwCl[k]? = some r → u_Kn s r.1 r.2.1 r.2.2 q.1 q.2 := by
    intro k
    cases hk : vwCl[k]? with
    | none => exact ⟨(0, fun _ => 0), fun r hr => by cases hr⟩
    | some r =>
      have h13 : k < 13 := (List.getElem?_eq_some_iff.mp hk).1
      obtain ⟨q, hq, hqn⟩ := sn_cnmq k h13
      have hqr : q = r := Option.some.inj (hq.symm.trans hk)
      subst hqr
      have hin := st_inst k h13
      rw [hqn] at hin
      obtain ⟨c0, iS0, hKn⟩ := u_known (C := q.1) (T := q.2.1) (N := q.2.2) (n := sn_csz k) hts (sn_cls k q hq).1 (hts _ hin)
      exact ⟨(c0, iS0), fun r hr => by cases hr; exact hKn⟩
  obtain ⟨fD, hfD⟩ := Classical.axiomOfChoice hcl
  let G : sn_G := (s.heap.size, b, adK, fun k => if k = 0 then cI else if k = 1 then cJ else if k = 2 then cR else cP)
  let D : va_G := (fun k => (fD k).1, fun k => (fD k).2)
  have hF : sn_F G adV ((List.range L).map xs) s s.heap := by
    refine ⟨fun w hw2 hg => va_Nw.of (sn_gw_on hg) (hts w hw2), ⟨?_, ?_, ?_, ?_⟩, ⟨?_, hbl, Nat.le_refl _⟩, fun i hi => vk_R.of (hts _ (st_sr i (st_i8 hi))) (hK i hi), hS, ?_, ?_, fun q hq => va_Nc.of (hfl _ (st_nc q hq))⟩
    · exact va_AO.of (hw (.arrayOver (.object "ToLiftToStrike$Row")) (by simp))
    · exact va_AO.of (hw (.arrayOver (.object "ToLiftToStrike$Player")) (by simp))
    · simpa only [Cond.before, Cond.holds, Cond.value] using hw (.arrayClass .int) (by simp)
    · simpa only [Cond.before, Cond.holds, Cond.value] using hw (.arrayClass .long) (by simp)
    · obtain ⟨scr, g1, g2, g3, g4, g5⟩ := hX
      refine ⟨scr, g1, g2, g3, by rw [hXl]; exact g4, fun j hj => ?_⟩
      rw [hXl] at hj
      rw [g5 j hj]
      show some (Value.int (xs j)) = some (Value.int (((List.range L).map xs).getD j 0))
      rw [List.getD_eq_getElem?_getD, List.getElem?_map, List.getElem?_range hj]
      rfl
    · exact va_Zof (hw (.laysStatic "java/lang/String" "COMPACT_STRINGS" "Z") (by simp)) (hw (.initialized "java/lang/String") (by simp)) (va_eqi (hfl _ st_st.1)) hA
    · exact va_Zqof (hw (.laysStatic "jdk/internal/util/Preconditions" "SIOOBE_FORMATTER" "Ljava/util/function/BiFunction;") (by simp)) (hw (.initialized "jdk/internal/util/Preconditions") (by simp)) (hfl _ st_st.2) hA
  have hKK : va_K D vwCl (sn_tys G) s := by
    refine ⟨fun k q hq => hfD k q hq, fun k q hq => ?_⟩
    match k, hq with
    | 0, hq => cases hq; exact ⟨fun n z => ⟨fun k h => (by cases h), kI, fI2, mI, fI3⟩, fI1⟩
    | 1, hq => cases hq; exact ⟨fun n z => ⟨fun k h => (by cases h), kJ, fJ2, mJ, fJ3⟩, fJ1⟩
    | 2, hq => cases hq; exact ⟨fun n z => ⟨fun k h => (by cases h), kR, fR2, mR, fR3⟩, kR, mR, fR2, fR3, fR1, fR4⟩
    | 3, hq => cases hq; exact ⟨fun n z => ⟨fun k h => (by cases h), kP, fP2, mP, fP3⟩, kP, mP, fP2, fP3, fP1, fP4⟩
    | k + 4, hq => simp [sn_tys] at hq
  have hW : sn_W G adV D ((List.range L).map xs) [] s s.heap := ⟨hF, hKK, fun k q h => by simp [sn_ws] at h, rfl⟩
  have hC : sn_C 0 p room_1 s m meth c := ⟨hx, hb, hml, hr, hown, hlocks, fun h => absurd h (by decide +kernel), by decide +kernel, by decide +kernel⟩
  have hl := lv_entry ([.ref b]) (n := 4) (Nat.le_of_ble_eq_true rfl)
  rw [lg_entry_eq]
  refine sn_all (G := G) (adV := adV) (D := D) (l := l) n 0 0 _ [] [] (some (.int 1)) M' hn 0 0 p e room_1 s m #[Value.ref b] below meth c (lw_Z below #[Value.ref b] s) hC rfl (by show M'.length ≤ 0 + 600000; omega) (by show sn_sz M' ≤ 0 + 7302250; omega) (fun pcE lsE stE q hq hx2 => ?_) s.heap [] 0 0 _ hW va_S.rf rfl rfl (sn_ent G (As := [.retAddr 0]) hl (Nat.le_of_ble_eq_true rfl))
  -- the law's own end
  intro H locs cells slots lsA h1 h2 h3 h4 h5
  obtain ⟨-, hok⟩ := sn_ok hq
  obtain ⟨i, ln, d⟩ := q
  unfold sn_okI at hok
  rw [Bool.and_eq_true] at hok
  have hd := of_decide_eq_true hok.1
  have hlk := hok.2
  dsimp only at hd hlk hx2
  have hret := am_ex_ret hx2
  cases i with
  | ireturn =>
    have hn1 : ln = 1 := by
      simp only [sn_lk, Bool.and_eq_true, beq_iff_eq] at hlk
      exact hlk.1
    subst hn1
    have hx' : (match stE with
      | [.int x] => if d.1 = 1 ∧ ¬ (x = 0 ∨ x = 1) then none else (some (.inr (.inl (some (.int x)))) : am_R)
      | _ => none) = some (.inr (.inl (some (.int 1)))) := hx2
    split at hx'
    next x =>
      split at hx'
      next => cases hx'
      next hbit =>
        cases hx'
        refine va_forget (fun q hq => h2.2.2 q hq) ?_
        refine W.widen (k := 600000) (n := 7302250) (by omega) (by omega) ?_
        exact lw_ret hx hb hr hlocks hd
    next => cases hx'
  | lreturn =>
    exfalso
    have hx' : (match stE with
      | [.long x] => (some (.inr (.inl (some (.long x)))) : am_R)
      | _ => none) = some (.inr (.inl (some (.int 1)))) := hx2
    split at hx' <;> cases hx'
  | areturn =>
    exfalso
    simp only [sn_lk, Bool.and_eq_true, beq_iff_eq] at hlk
    obtain ⟨-, hty⟩ := hlk
    have : sn_rt 0 = some .boolean := rfl
    rw [this] at hty
    cases hty
  | return_ =>
    exfalso
    have hx' : (match stE with
      | [] => (some (.inr (.inl none)) : am_R)
      | _ => none) = some (.inr (.inl (some (.int 1)))) := hx2
    split at hx' <;> cases hx'
  | _ => cases hret
