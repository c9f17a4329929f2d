/-! ===== one step of the abstract machine ===== -/
section SNT
variable {G : sn_G} {adV : Nat → Nat} {D : va_G} {X : List Int32} {m k0 z0 : Nat} {p : Program} {l : Launch} {e : Env} {R : Room} {s : State} {mm : MethodId} {args : Array Value} {below : List Frame} {meth : Method} {c : Code} {Q : State → Prop}
variable {pc n pc' : Nat} {ls ls' : am_Lc} {st st' : List Value} {M M' : am_Mem} {d : am_Dt}
theorem sn_if {cnd : Jvm.ClassFile.Cond} {off : Int} (hr : ∀ (H : Heap) (locs : List Loc) (cells slots : Nat) (lsA : Array Slot) (rest : List Value) (x : Int32), (am_cmp cnd x 0 = true → W p l e R s mm args below meth c H locs cells slots Q (F0 mm (am_to pc off) lsA rest)) → (¬ am_cmp cnd x 0 = true → W p l e R s mm args below meth c H locs cells slots Q (F0 mm (pc + 3) lsA rest)) → W p l e R s mm args below meth c H locs cells slots Q (F0 mm pc lsA (.int x :: rest)))
    {idx : Instr} (hi : idx = .ifCond cnd off) (hx : am_ex X pc idx 3 d ls st M = some (.inl (pc', ls', st', M'))) (hk : sn_K G adV D X m k0 z0 p l e R s mm args below meth c Q pc' ls' st' M') : sn_K G adV D X m k0 z0 p l e R s mm args below meth c Q pc ls st M := by
  subst hi
  match st, hx with
  | .int x :: r, hx =>
    obtain ⟨rfl, rfl, rfl, rfl⟩ := am_nx_inj hx
    intro H locs cells slots lsA h1 h2 h3 h4 h5
    have k := hk H locs cells slots lsA h1 h2 h3 h4 h5
    exact hr H locs cells slots lsA _ x (fun h => by rw [if_pos h] at k; exact k) (fun h => by rw [if_neg h] at k; exact k)
theorem sn_icmp {cnd : Jvm.ClassFile.Cond} {off : Int} (hr : ∀ (H : Heap) (locs : List Loc) (cells slots : Nat) (lsA : Array Slot) (rest : List Value) (x y : Int32), (am_cmp cnd x y = true → W p l e R s mm args below meth c H locs cells slots Q (F0 mm (am_to pc off) lsA rest)) → (¬ am_cmp cnd x y = true → W p l e R s mm args below meth c H locs cells slots Q (F0 mm (pc + 3) lsA rest)) → W p l e R s mm args below meth c H locs cells slots Q (F0 mm pc lsA (.int y :: .int x :: rest)))
    {idx : Instr} (hi : idx = .if_icmp cnd off) (hx : am_ex X pc idx 3 d ls st M = some (.inl (pc', ls', st', M'))) (hk : sn_K G adV D X m k0 z0 p l e R s mm args below meth c Q pc' ls' st' M') : sn_K G adV D X m k0 z0 p l e R s mm args below meth c Q pc ls st M := by
  subst hi
  match st, hx with
  | .int y :: .int x :: r, hx =>
    obtain ⟨rfl, rfl, rfl, rfl⟩ := am_nx_inj hx
    intro H locs cells slots lsA h1 h2 h3 h4 h5
    have k := hk H locs cells slots lsA h1 h2 h3 h4 h5
    exact hr H locs cells slots lsA _ x y (fun h => by rw [if_pos h] at k; exact k) (fun h => by rw [if_neg h] at k; exact k)
theorem sn_ifC (C0 : sn_C m p R s mm meth c) {cnd : Jvm.ClassFile.Cond} {off : Int} (hd : decode (sn_bs m) pc = .ok (.ifCond cnd off, 3)) (hj : sn_jp pc off = true) (H : Heap) (locs : List Loc) (cells slots : Nat) (lsA : Array Slot) (rest : List Value) (x : Int32) (kt : am_cmp cnd x 0 = true → W p l e R s mm args below meth c H locs cells slots Q (F0 mm (am_to pc off) lsA rest)) (kf : ¬ am_cmp cnd x 0 = true → W p l e R s mm args below meth c H locs cells slots Q (F0 mm (pc + 3) lsA rest)) : W p l e R s mm args below meth c H locs cells slots Q (F0 mm pc lsA (.int x :: rest)) := by
  have ht := sn_tgt hj
  cases cnd with
  | eq => exact lv_if_eq C0.1 C0.2.1 hd ht (fun h => kt (decide_eq_true h)) (fun h => kf (by simpa [am_cmp] using h))
  | ne => exact lv_if_ne C0.1 C0.2.1 hd ht (fun h => kt (decide_eq_true h)) (fun h => kf (by simpa [am_cmp] using h))
  | lt => exact lv_if_lt C0.1 C0.2.1 hd ht (fun h => kt (decide_eq_true h)) (fun h => kf (fun q => h (of_decide_eq_true q)))
  | ge => exact lv_if_ge C0.1 C0.2.1 hd ht (fun h => kt (decide_eq_true h)) (fun h => kf (fun q => h (of_decide_eq_true q)))
  | gt => exact lv_if_gt C0.1 C0.2.1 hd ht (fun h => kt (decide_eq_true h)) (fun h => kf (fun q => h (of_decide_eq_true q)))
  | le => exact lv_if_le C0.1 C0.2.1 hd ht (fun h => kt (decide_eq_true h)) (fun h => kf (fun q => h (of_decide_eq_true q)))
theorem sn_icmpC (C0 : sn_C m p R s mm meth c) {cnd : Jvm.ClassFile.Cond} {off : Int} (hd : decode (sn_bs m) pc = .ok (.if_icmp cnd off, 3)) (hj : sn_jp pc off = true) (H : Heap) (locs : List Loc) (cells slots : Nat) (lsA : Array Slot) (rest : List Value) (x y : Int32) (kt : am_cmp cnd x y = true → W p l e R s mm args below meth c H locs cells slots Q (F0 mm (am_to pc off) lsA rest)) (kf : ¬ am_cmp cnd x y = true → W p l e R s mm args below meth c H locs cells slots Q (F0 mm (pc + 3) lsA rest)) : W p l e R s mm args below meth c H locs cells slots Q (F0 mm pc lsA (.int y :: .int x :: rest)) := by
  have ht := sn_tgt hj
  cases cnd with
  | eq => exact lv_icmp_eq C0.1 C0.2.1 hd ht (fun h => kt (decide_eq_true h)) (fun h => kf (by simpa [am_cmp] using h))
  | ne => exact lv_icmp_ne C0.1 C0.2.1 hd ht (fun h => kt (decide_eq_true h)) (fun h => kf (by simpa [am_cmp] using h))
  | lt => exact lv_icmp_lt C0.1 C0.2.1 hd ht (fun h => kt (decide_eq_true h)) (fun h => kf (fun q => h (of_decide_eq_true q)))
  | ge => exact lv_icmp_ge C0.1 C0.2.1 hd ht (fun h => kt (decide_eq_true h)) (fun h => kf (fun q => h (of_decide_eq_true q)))
  | gt => exact lv_icmp_gt C0.1 C0.2.1 hd ht (fun h => kt (decide_eq_true h)) (fun h => kf (fun q => h (of_decide_eq_true q)))
  | le => exact lv_icmp_le C0.1 C0.2.1 hd ht (fun h => kt (decide_eq_true h)) (fun h => kf (fun q => h (of_decide_eq_true q)))
theorem sn_swR (C0 : sn_C m p R s mm meth c) {dflt lo hi : Int} {offs : Array Int} (hd : decode (sn_bs m) pc = .ok (.tableswitch dflt lo hi offs, n)) (hlk : (sn_jp pc dflt && offs.toList.all (sn_jp pc) && decide ((offs.toList.length : Int) = hi - lo + 1)) = true) {H : Heap} {locs : List Loc} {cells slots : Nat} {lsA : Array Slot} {rest : List Value} {x : Int32}
    (k : W p l e R s mm args below meth c H locs cells slots Q (F0 mm (am_sw pc dflt lo hi offs x) lsA rest)) : W p l e R s mm args below meth c H locs cells slots Q (F0 mm pc lsA (.int x :: rest)) := by
  simp only [Bool.and_eq_true, decide_eq_true_eq] at hlk
  obtain ⟨⟨h1, h2⟩, h3⟩ := hlk
  unfold am_sw at k
  split at k
  next h => exact lv_tableOut C0.1 C0.2.1 hd h (sn_tgt h1) k
  next h =>
    have ha : ¬ x.toInt < lo := fun q => h (Or.inl q)
    have hb : ¬ hi < x.toInt := fun q => h (Or.inr q)
    have hl : (x.toInt - lo).toNat < offs.size := by
      have : offs.toList.length = offs.size := Array.length_toList
      omega
    split at k
    next o ho =>
      have hm : o ∈ offs.toList := by
        rw [← Array.getElem?_toList] at ho
        exact List.mem_of_getElem? ho
      exact lv_tableIn C0.1 C0.2.1 hd ha hb ho (sn_tgt (List.all_eq_true.mp h2 o hm)) k
    next hn =>
      exfalso
      rw [Array.getElem?_eq_getElem hl] at hn
      cases hn
theorem sn_sz_app (M : am_Mem) (o : am_Ob) : sn_sz (M ++ [o]) = sn_sz M + sn_sz1 o := by simp [sn_sz]
theorem sn_sz_set {M : am_Mem} {t : Nat} {o o' : am_Ob} (h : M[t]? = some o) (he : sn_sz1 o' = sn_sz1 o) : sn_sz (M.set t o') = sn_sz M := by
  unfold sn_sz
  rw [List.map_set]
  have h1 : (M.map sn_sz1)[t]? = some (sn_sz1 o') := by rw [List.getElem?_map, h, he]; rfl
  have h2 : (M.map sn_sz1).set t (sn_sz1 o') = M.map sn_sz1 := by
    refine List.ext_getElem? (fun i => ?_)
    by_cases hi : i = t
    · subst hi
      have hl := (List.getElem?_eq_some_iff.mp h1).1
      rw [List.getElem?_set_self hl, h1]
    · rw [List.getElem?_set_ne (Ne.symm hi)]
  rw [h2]
theorem sn_pf_sz {t k : Nat} {cs : List (Nat × Nat)} {v : Value} (h : am_pf M t cs k v = some M') : sn_sz M' = sn_sz M ∧ M'.length = M.length := by
  unfold am_pf at h
  split at h
  next ci fs hM =>
    split at h
    next =>
      split at h
      next =>
        cases h
        exact ⟨sn_sz_set hM (by simp [sn_sz1]), by rw [List.length_set]⟩
      next => cases h
    next => cases h
  next => cases h
theorem sn_iset_sz {t : Nat} {i x : Int32} (h : am_iset M t i x = some M') : sn_sz M' = sn_sz M ∧ M'.length = M.length := by
  unfold am_iset at h
  split at h
  next xs hM =>
    split at h
    next => cases h
    next => cases h; exact ⟨sn_sz_set hM (by simp [sn_sz1]), by rw [List.length_set]⟩
  next => cases h
theorem sn_lset_sz {t : Nat} {i : Int32} {x : Int64} (h : am_lset M t i x = some M') : sn_sz M' = sn_sz M ∧ M'.length = M.length := by
  unfold am_lset at h
  split at h
  next xs hM =>
    split at h
    next => cases h
    next => cases h; exact ⟨sn_sz_set hM (by simp [sn_sz1]), by rw [List.length_set]⟩
  next => cases h
theorem sn_aset_sz {t : Nat} {i : Int32} {v : Value} (h : am_aset M t i v = some M') : sn_sz M' = sn_sz M ∧ M'.length = M.length := by
  unfold am_aset at h
  split at h
  next ty xs hM =>
    split at h
    next => cases h
    next =>
      split at h
      next =>
        split at h
        next => cases h; exact ⟨sn_sz_set hM (by simp [sn_sz1]), by rw [List.length_set]⟩
        next => cases h
      next =>
        split at h
        next => cases h; exact ⟨sn_sz_set hM (by simp [sn_sz1]), by rw [List.length_set]⟩
        next => cases h
      next => cases h
  next => cases h
theorem am_cpy_len {f g : List Int64} {sp dp n : Nat} (h1 : sp + n ≤ f.length) (h2 : dp + n ≤ g.length) : (am_cpy f g sp dp n).length = g.length := by
  unfold am_cpy
  simp only [List.length_append, List.length_take, List.length_drop]
  omega
theorem sn_copyl_sz {a0 a1 : Nat} {sp dp k : Int32} (h : am_copyl M a0 a1 sp dp k = some M') : sn_sz M' = sn_sz M ∧ M'.length = M.length := by
  unfold am_copyl at h
  split at h
  next f g hf hg =>
    split at h
    next => cases h
    next hn =>
      cases h
      refine ⟨sn_sz_set hg ?_, by rw [List.length_set]⟩
      show (am_cpy f g _ _ _).length = g.length
      exact am_cpy_len (by omega) (by omega)
  next => cases h
end SNT
