/-! ===== the JDK's own methods of texts, as the words are ===== -/
def js_coder : MethodName := ⟨"java/lang/String", "coder", "()B"⟩
theorem js_coder_cd : Cond.code js_coder prog_16_method_152_code 1 (some .byte) ∈ lw_tbl := sn_tb_in 3 (List.mem_of_getElem? (i := 103) rfl)
theorem js_coder_0 : decode prog_16_method_152_code 0 = .ok (.getstatic 38, 3) := by decide +kernel
theorem js_coder_3 : decode prog_16_method_152_code 3 = .ok (.ifCond .eq 10, 3) := by decide +kernel
theorem js_coder_6 : decode prog_16_method_152_code 6 = .ok (.aload_n 0, 1) := by decide +kernel
theorem js_coder_7 : decode prog_16_method_152_code 7 = .ok (.getfield 15, 3) := by decide +kernel
theorem js_coder_10 : decode prog_16_method_152_code 10 = .ok (.goto 4, 3) := by decide +kernel
theorem js_coder_13 : decode prog_16_method_152_code 13 = .ok (.iconst 1, 1) := by decide +kernel
theorem js_coder_14 : decode prog_16_method_152_code 14 = .ok (.ireturn, 1) := by decide +kernel
def js_isLatin1 : MethodName := ⟨"java/lang/String", "isLatin1", "()Z"⟩
theorem js_isLatin1_cd : Cond.code js_isLatin1 prog_16_method_154_code 1 (some .boolean) ∈ lw_tbl := sn_tb_in 3 (List.mem_of_getElem? (i := 122) rfl)
theorem js_isLatin1_0 : decode prog_16_method_154_code 0 = .ok (.getstatic 38, 3) := by decide +kernel
theorem js_isLatin1_3 : decode prog_16_method_154_code 3 = .ok (.ifCond .eq 14, 3) := by decide +kernel
theorem js_isLatin1_6 : decode prog_16_method_154_code 6 = .ok (.aload_n 0, 1) := by decide +kernel
theorem js_isLatin1_7 : decode prog_16_method_154_code 7 = .ok (.getfield 15, 3) := by decide +kernel
theorem js_isLatin1_10 : decode prog_16_method_154_code 10 = .ok (.ifCond .ne 7, 3) := by decide +kernel
theorem js_isLatin1_13 : decode prog_16_method_154_code 13 = .ok (.iconst 1, 1) := by decide +kernel
theorem js_isLatin1_14 : decode prog_16_method_154_code 14 = .ok (.goto 4, 3) := by decide +kernel
theorem js_isLatin1_17 : decode prog_16_method_154_code 17 = .ok (.iconst 0, 1) := by decide +kernel
theorem js_isLatin1_18 : decode prog_16_method_154_code 18 = .ok (.ireturn, 1) := by decide +kernel
def js_length : MethodName := ⟨"java/lang/String", "length", "()I"⟩
theorem js_length_cd : Cond.code js_length prog_16_method_54_code 1 (some .int) ∈ lw_tbl := sn_tb_in 3 (List.mem_of_getElem? (i := 99) rfl)
theorem js_length_0 : decode prog_16_method_54_code 0 = .ok (.aload_n 0, 1) := by decide +kernel
theorem js_length_1 : decode prog_16_method_54_code 1 = .ok (.getfield 9, 3) := by decide +kernel
theorem js_length_4 : decode prog_16_method_54_code 4 = .ok (.arraylength, 1) := by decide +kernel
theorem js_length_5 : decode prog_16_method_54_code 5 = .ok (.aload_n 0, 1) := by decide +kernel
theorem js_length_6 : decode prog_16_method_54_code 6 = .ok (.invokevirtual 335, 3) := by decide +kernel
theorem js_length_9 : decode prog_16_method_54_code 9 = .ok (.ishr, 1) := by decide +kernel
theorem js_length_10 : decode prog_16_method_54_code 10 = .ok (.ireturn, 1) := by decide +kernel
def js_pci : MethodName := ⟨"jdk/internal/util/Preconditions", "checkIndex", "(IILjava/util/function/BiFunction;)I"⟩
theorem js_pci_cd : Cond.code js_pci prog_20_method_11_code 3 (some .int) ∈ lw_tbl := sn_tb_in 3 (List.mem_of_getElem? (i := 133) rfl)
theorem js_pci_0 : decode prog_20_method_11_code 0 = .ok (.iload_n 0, 1) := by decide +kernel
theorem js_pci_1 : decode prog_20_method_11_code 1 = .ok (.ifCond .lt 8, 3) := by decide +kernel
theorem js_pci_4 : decode prog_20_method_11_code 4 = .ok (.iload_n 0, 1) := by decide +kernel
theorem js_pci_5 : decode prog_20_method_11_code 5 = .ok (.iload_n 1, 1) := by decide +kernel
theorem js_pci_6 : decode prog_20_method_11_code 6 = .ok (.if_icmp .lt 10, 3) := by decide +kernel
theorem js_pci_9 : decode prog_20_method_11_code 9 = .ok (.aload_n 2, 1) := by decide +kernel
theorem js_pci_10 : decode prog_20_method_11_code 10 = .ok (.iload_n 0, 1) := by decide +kernel
theorem js_pci_11 : decode prog_20_method_11_code 11 = .ok (.iload_n 1, 1) := by decide +kernel
theorem js_pci_12 : decode prog_20_method_11_code 12 = .ok (.invokestatic 95, 3) := by decide +kernel
theorem js_pci_15 : decode prog_20_method_11_code 15 = .ok (.athrow, 1) := by decide +kernel
theorem js_pci_16 : decode prog_20_method_11_code 16 = .ok (.iload_n 0, 1) := by decide +kernel
theorem js_pci_17 : decode prog_20_method_11_code 17 = .ok (.ireturn, 1) := by decide +kernel
def js_sci : MethodName := ⟨"java/lang/String", "checkIndex", "(II)V"⟩
theorem js_sci_cd : Cond.code js_sci prog_16_method_155_code 2 (none) ∈ lw_tbl := sn_tb_in 3 (List.mem_of_getElem? (i := 128) rfl)
theorem js_sci_0 : decode prog_16_method_155_code 0 = .ok (.iload_n 0, 1) := by decide +kernel
theorem js_sci_1 : decode prog_16_method_155_code 1 = .ok (.iload_n 1, 1) := by decide +kernel
theorem js_sci_2 : decode prog_16_method_155_code 2 = .ok (.getstatic 1053, 3) := by decide +kernel
theorem js_sci_5 : decode prog_16_method_155_code 5 = .ok (.invokestatic 1059, 3) := by decide +kernel
theorem js_sci_8 : decode prog_16_method_155_code 8 = .ok (.pop, 1) := by decide +kernel
theorem js_sci_9 : decode prog_16_method_155_code 9 = .ok (.return_, 1) := by decide +kernel
def js_lca : MethodName := ⟨"java/lang/StringLatin1", "charAt", "([BI)C"⟩
theorem js_lca_cd : Cond.code js_lca prog_17_method_2_code 2 (some .char) ∈ lw_tbl := sn_tb_in 3 (List.mem_of_getElem? (i := 125) rfl)
theorem js_lca_0 : decode prog_17_method_2_code 0 = .ok (.iload_n 1, 1) := by decide +kernel
theorem js_lca_1 : decode prog_17_method_2_code 1 = .ok (.aload_n 0, 1) := by decide +kernel
theorem js_lca_2 : decode prog_17_method_2_code 2 = .ok (.arraylength, 1) := by decide +kernel
theorem js_lca_3 : decode prog_17_method_2_code 3 = .ok (.invokestatic 9, 3) := by decide +kernel
theorem js_lca_6 : decode prog_17_method_2_code 6 = .ok (.aload_n 0, 1) := by decide +kernel
theorem js_lca_7 : decode prog_17_method_2_code 7 = .ok (.iload_n 1, 1) := by decide +kernel
theorem js_lca_8 : decode prog_17_method_2_code 8 = .ok (.baload, 1) := by decide +kernel
theorem js_lca_9 : decode prog_17_method_2_code 9 = .ok (.sipush 255, 3) := by decide +kernel
theorem js_lca_12 : decode prog_17_method_2_code 12 = .ok (.iand, 1) := by decide +kernel
theorem js_lca_13 : decode prog_17_method_2_code 13 = .ok (.i2c, 1) := by decide +kernel
theorem js_lca_14 : decode prog_17_method_2_code 14 = .ok (.ireturn, 1) := by decide +kernel
def js_ca : MethodName := ⟨"java/lang/String", "charAt", "(I)C"⟩
theorem js_ca_cd : Cond.code js_ca prog_16_method_56_code 2 (some .char) ∈ lw_tbl := sn_tb_in 3 (List.mem_of_getElem? (i := 118) rfl)
theorem js_ca_0 : decode prog_16_method_56_code 0 = .ok (.aload_n 0, 1) := by decide +kernel
theorem js_ca_1 : decode prog_16_method_56_code 1 = .ok (.invokevirtual 492, 3) := by decide +kernel
theorem js_ca_4 : decode prog_16_method_56_code 4 = .ok (.ifCond .eq 12, 3) := by decide +kernel
theorem js_ca_7 : decode prog_16_method_56_code 7 = .ok (.aload_n 0, 1) := by decide +kernel
theorem js_ca_8 : decode prog_16_method_56_code 8 = .ok (.getfield 9, 3) := by decide +kernel
theorem js_ca_11 : decode prog_16_method_56_code 11 = .ok (.iload_n 1, 1) := by decide +kernel
theorem js_ca_12 : decode prog_16_method_56_code 12 = .ok (.invokestatic 495, 3) := by decide +kernel
theorem js_ca_15 : decode prog_16_method_56_code 15 = .ok (.ireturn, 1) := by decide +kernel
theorem js_ca_16 : decode prog_16_method_56_code 16 = .ok (.aload_n 0, 1) := by decide +kernel
theorem js_ca_17 : decode prog_16_method_56_code 17 = .ok (.getfield 9, 3) := by decide +kernel
theorem js_ca_20 : decode prog_16_method_56_code 20 = .ok (.iload_n 1, 1) := by decide +kernel
theorem js_ca_21 : decode prog_16_method_56_code 21 = .ok (.invokestatic 498, 3) := by decide +kernel
theorem js_ca_24 : decode prog_16_method_56_code 24 = .ok (.ireturn, 1) := by decide +kernel
theorem js_w_f38 : Cond.fieldLink "java/lang/String" 38 "java/lang/String" "COMPACT_STRINGS" "Z" ∈ lw_tbl := sn_tb_in 3 (List.mem_of_getElem? (i := 104) rfl)
theorem js_w_f9 : Cond.fieldLink "java/lang/String" 9 "java/lang/String" "value" "[B" ∈ lw_tbl := sn_tb_in 7 (List.mem_of_getElem? (i := 42) rfl)
theorem js_w_f15 : Cond.fieldLink "java/lang/String" 15 "java/lang/String" "coder" "B" ∈ lw_tbl := sn_tb_in 7 (List.mem_of_getElem? (i := 43) rfl)
theorem js_w_f1053 : Cond.fieldLink "java/lang/String" 1053 "jdk/internal/util/Preconditions" "SIOOBE_FORMATTER" "Ljava/util/function/BiFunction;" ∈ lw_tbl := sn_tb_in 3 (List.mem_of_getElem? (i := 129) rfl)
theorem js_w_m335 : Cond.methodLink "java/lang/String" 335 js_coder ∈ lw_tbl := sn_tb_in 3 (List.mem_of_getElem? (i := 100) rfl)
theorem js_w_m492 : Cond.methodLink "java/lang/String" 492 js_isLatin1 ∈ lw_tbl := sn_tb_in 3 (List.mem_of_getElem? (i := 119) rfl)
theorem js_w_m495 : Cond.methodLink "java/lang/String" 495 js_lca ∈ lw_tbl := sn_tb_in 3 (List.mem_of_getElem? (i := 123) rfl)
theorem js_w_m9 : Cond.methodLink "java/lang/StringLatin1" 9 js_sci ∈ lw_tbl := sn_tb_in 3 (List.mem_of_getElem? (i := 126) rfl)
theorem js_w_m1059 : Cond.methodLink "java/lang/String" 1059 js_pci ∈ lw_tbl := sn_tb_in 3 (List.mem_of_getElem? (i := 131) rfl)
theorem js_w_iS : Cond.initialized "java/lang/String" ∈ lw_tbl := sn_tb_in 1 (List.mem_of_getElem? (i := 16) rfl)
theorem js_w_iL : Cond.initialized "java/lang/StringLatin1" ∈ lw_tbl := sn_tb_in 1 (List.mem_of_getElem? (i := 17) rfl)
theorem js_w_iP : Cond.initialized "jdk/internal/util/Preconditions" ∈ lw_tbl := sn_tb_in 1 (List.mem_of_getElem? (i := 18) rfl)
theorem js_w_in_coder : Cond.instanceMethod js_coder ∈ lw_tbl := sn_tb_in 3 (List.mem_of_getElem? (i := 101) rfl)
theorem js_w_se_coder : Cond.selects "java/lang/String" js_coder js_coder ∈ lw_tbl := sn_tb_in 3 (List.mem_of_getElem? (i := 102) rfl)
theorem js_w_in_isLatin1 : Cond.instanceMethod js_isLatin1 ∈ lw_tbl := sn_tb_in 3 (List.mem_of_getElem? (i := 120) rfl)
theorem js_w_se_isLatin1 : Cond.selects "java/lang/String" js_isLatin1 js_isLatin1 ∈ lw_tbl := sn_tb_in 3 (List.mem_of_getElem? (i := 121) rfl)
theorem js_w_in_length : Cond.instanceMethod js_length ∈ lw_tbl := sn_tb_in 3 (List.mem_of_getElem? (i := 97) rfl)
theorem js_w_se_length : Cond.selects "java/lang/String" js_length js_length ∈ lw_tbl := sn_tb_in 3 (List.mem_of_getElem? (i := 98) rfl)
theorem js_w_in_ca : Cond.instanceMethod js_ca ∈ lw_tbl := sn_tb_in 3 (List.mem_of_getElem? (i := 116) rfl)
theorem js_w_se_ca : Cond.selects "java/lang/String" js_ca js_ca ∈ lw_tbl := sn_tb_in 3 (List.mem_of_getElem? (i := 117) rfl)
theorem js_w_st_lca : Cond.static js_lca ∈ lw_tbl := sn_tb_in 3 (List.mem_of_getElem? (i := 124) rfl)
theorem js_w_st_sci : Cond.static js_sci ∈ lw_tbl := sn_tb_in 3 (List.mem_of_getElem? (i := 127) rfl)
theorem js_w_st_pci : Cond.static js_pci ∈ lw_tbl := sn_tb_in 3 (List.mem_of_getElem? (i := 132) rfl)
def js_P (G : sn_G) (adV : Nat → Nat) (X : List Int32) (av : List Value) : Array Value → State → Prop := fun v U => v = av.toArray ∧ sn_F G adV X U U.heap
theorem js_blind (G : sn_G) (adV : Nat → Nat) (X : List Int32) (av : List Value) : FrameBlind (js_P G adV X av) := fun a U g mk h => ⟨h.1, h.2.same (u := U) rfl⟩
/-- what a call asks of the tables -/
theorem sn_cb {G : sn_G} {adV : Nat → Nat} {X : List Int32} {R : Room} {s : State} {H : Heap} {args : Array Value} {own : String} {index : Nat} {y : MethodName} {bytes : ByteArray} {maxL n : Nat} {ret : Option FieldType} {rm : Room} (hF : sn_F G adV X s H) (hcode : Cond.code y bytes maxL ret ∈ lw_tbl) (hini : Cond.initialized y.cls ∈ lw_tbl) (hl : Cond.methodLink own index y ∈ lw_tbl)
    (hy : y.cls ≠ "java/lang/invoke/MethodHandle" ∧ y.cls ≠ "java/lang/invoke/VarHandle") (har : (parseMethodDescriptor y.desc).map (fun d => d.parameters.length) = some n) (hR : rm.frames + 1 ≤ R.frames ∧ 8 + (maxL + 11) + rm.locals ≤ R.locals) : CallB R s args own index y bytes maxL ret [Cond.code y bytes maxL ret] rm rm.cells rm.slots n := by
  refine ⟨rfl, rfl, hR.1, hR.2, fun w hw a' U hW => ?_, List.mem_cons_self, hF.word hcode rfl, hF.word hini rfl, hy, fun sig h => ?_, hF.word hl rfl⟩
  · rw [List.mem_singleton] at hw
    subst hw
    exact word_at hW (Or.inl rfl) (hF.word (args := args) hcode rfl)
  · rw [h] at har
    exact (Option.some.inj har).symm
section JS
variable {G : sn_G} {adV : Nat → Nat} {X : List Int32}
set_option maxHeartbeats 4000000 in
set_option maxRecDepth 100000 in
theorem js_met_coder (l : Launch) {i : Nat} (hi : i < 8) : Met l js_coder [Cond.code js_coder prog_16_method_152_code 1 (some .byte)] ({ frames := 0, cells := 0, slots := 0, locals := 0 }) (js_P G adV X [.ref (G.2.2.1 i)]) (vp_Si (fun r => r = 0)) 0 0 (fun _ => False) := by
  refine Met.ofW (cc := prog_16_method_152_code) (maxL := 1) (ret := some .byte) (by decide) rfl ?_
  intro p e s m args below meth c s₁ B hml hv
  obtain ⟨rfl, hF⟩ := hv
  have hx := B.exec
  have hb := B.bytes
  have hr := B.returns
  have hown : s.vm.findClass "java/lang/String" = some m.cls := findClass_of_methodNamed B.named
  have hlocks := B.notSynchronized
  have hS : va_S (sn_A G) s.heap s.heap [] := va_S.rf
  obtain ⟨-, -, -, -, hV, hZ, -⟩ := id hF
  obtain ⟨-, hco, -, -⟩ := hV.1 i hi
  have hl := lv_entry ([.ref (G.2.2.1 i)]) (n := 1) (Nat.le_of_ble_eq_true rfl)
  rw [lg_entry_eq]
  generalize (lg_sl ([.ref (G.2.2.1 i)]) ++ List.replicate (1 - (lg_sl ([.ref (G.2.2.1 i)])).length) Slot.unset).toArray = ls at hl ⊢
  have hl : lv_has ls 1 [(0, .ref (G.2.2.1 i))] := hl
  refine va_gets hx hb hZ hS hown (hF.word js_w_f38 rfl) (fun _ h => h) js_coder_0 ?_
  refine lv_if_eq (tgt := 13) hx hb js_coder_3 (by decide) (fun h => absurd h (by decide)) (fun _ => ?_)
  refine lv_aload_n hx hb js_coder_6 rfl (lv_at hl 0 rfl) ?_
  refine vk_getf hx hb hco hS hown (hF.word js_w_f15 rfl) (fun _ h => h) js_coder_7 ?_
  refine lv_goto (tgt := 14) hx hb js_coder_10 (by decide) ?_
  exact W.zret hx hb hr rfl (fun t ht _ => ⟨0, rfl, rfl, ht⟩) (fun _ h => by cases h) js_coder_14
set_option maxHeartbeats 4000000 in
set_option maxRecDepth 100000 in
theorem js_met_isLatin1 (l : Launch) {i : Nat} (hi : i < 8) : Met l js_isLatin1 [Cond.code js_isLatin1 prog_16_method_154_code 1 (some .boolean)] ({ frames := 0, cells := 0, slots := 0, locals := 0 }) (js_P G adV X [.ref (G.2.2.1 i)]) (vp_Si (fun r => r = 1)) 0 0 (fun _ => False) := by
  refine Met.ofW (cc := prog_16_method_154_code) (maxL := 1) (ret := some .boolean) (by decide) rfl ?_
  intro p e s m args below meth c s₁ B hml hv
  obtain ⟨rfl, hF⟩ := hv
  have hx := B.exec
  have hb := B.bytes
  have hr := B.returns
  have hown : s.vm.findClass "java/lang/String" = some m.cls := findClass_of_methodNamed B.named
  have hlocks := B.notSynchronized
  have hS : va_S (sn_A G) s.heap s.heap [] := va_S.rf
  obtain ⟨-, -, -, -, hV, hZ, -⟩ := id hF
  obtain ⟨-, hco, -, -⟩ := hV.1 i hi
  have hl := lv_entry ([.ref (G.2.2.1 i)]) (n := 1) (Nat.le_of_ble_eq_true rfl)
  rw [lg_entry_eq]
  generalize (lg_sl ([.ref (G.2.2.1 i)]) ++ List.replicate (1 - (lg_sl ([.ref (G.2.2.1 i)])).length) Slot.unset).toArray = ls at hl ⊢
  have hl : lv_has ls 1 [(0, .ref (G.2.2.1 i))] := hl
  refine va_gets hx hb hZ hS hown (hF.word js_w_f38 rfl) (fun _ h => h) js_isLatin1_0 ?_
  refine lv_if_eq (tgt := 17) hx hb js_isLatin1_3 (by decide) (fun h => absurd h (by decide)) (fun _ => ?_)
  refine lv_aload_n hx hb js_isLatin1_6 rfl (lv_at hl 0 rfl) ?_
  refine vk_getf hx hb hco hS hown (hF.word js_w_f15 rfl) (fun _ h => h) js_isLatin1_7 ?_
  refine lv_if_ne (tgt := 17) hx hb js_isLatin1_10 (by decide) (fun h => absurd rfl h) (fun _ => ?_)
  refine lv_iconst (v := 1) hx hb js_isLatin1_13 (by decide) ?_
  refine lv_goto (tgt := 18) hx hb js_isLatin1_14 (by decide) ?_
  exact W.zret hx hb hr rfl (fun t ht _ => ⟨1, rfl, rfl, ht⟩) (fun _ h => by cases h) js_isLatin1_18
set_option maxHeartbeats 4000000 in
set_option maxRecDepth 100000 in
theorem js_met_pci (l : Launch) {x n : Int32} {v : Value} (hv3 : v.category = 1) (h0 : ¬ x < 0) (hn : x < n) : Met l js_pci [Cond.code js_pci prog_20_method_11_code 3 (some .int)] ({ frames := 0, cells := 0, slots := 0, locals := 0 }) (js_P G adV X [.int x, .int n, v]) (vp_Si (fun r => r = x)) 0 0 (fun _ => False) := by
  refine Met.ofW (cc := prog_20_method_11_code) (maxL := 3) (ret := some .int) (by decide) rfl ?_
  intro p e s m args below meth c s₁ B hml hv
  obtain ⟨rfl, hF⟩ := hv
  have hx := B.exec
  have hb := B.bytes
  have hr := B.returns
  have hlocks := B.notSynchronized
  have hl := lv_entry ([.int x, .int n, v]) (n := 3) (by have h1 : (Value.int x).category = 1 := rfl; have h2 : (Value.int n).category = 1 := rfl; simp [lg_sl, h1, h2, hv3])
  rw [lg_entry_eq]
  generalize (lg_sl ([.int x, .int n, v]) ++ List.replicate (3 - (lg_sl ([.int x, .int n, v])).length) Slot.unset).toArray = ls at hl ⊢
  have hl : lv_has ls 3 [(0, .int x), (1, .int n), (2, v)] := hl
  refine lv_iload_n hx hb js_pci_0 rfl (lv_at hl 0 rfl) ?_
  refine lv_if_lt (tgt := 9) hx hb js_pci_1 (by decide) (fun h => absurd h h0) (fun _ => ?_)
  refine lv_iload_n hx hb js_pci_4 rfl (lv_at hl 0 rfl) ?_
  refine lv_iload_n hx hb js_pci_5 rfl (lv_at hl 1 rfl) ?_
  refine lv_icmp_lt (tgt := 16) hx hb js_pci_6 (by decide) (fun _ => ?_) (fun h => absurd hn h)
  refine lv_iload_n hx hb js_pci_16 rfl (lv_at hl 0 rfl) ?_
  exact W.iret hx hb hr (fun t ht _ => ⟨x, rfl, rfl, ht⟩) (fun _ h => by cases h) js_pci_17
end JS
section JSC
variable {p : Program} {l : Launch} {e : Env} {R : Room} {s : State} {m : MethodId} {args : Array Value} {below : List Frame} {meth : Method} {c : Code} {H : Heap} {locs : List Loc} {cells slots : Nat} {Q : State → Prop}
variable {pc : Nat} {ls : Array Slot} {rest st0 : List Value} {a : Array Value}
/-- behind a call that changes nothing -/
theorem js_calli {x : Int32} (hr : va_Run p l e R s m args below meth c H locs cells slots 0 0 (F0 m pc ls st0) rest (vp_Si (fun r => r = x) a) (fun _ => False)) (kk : W p l e R s m args below meth c H locs cells slots Q (F0 m (pc + 3) ls (.int x :: rest))) : W p l e R s m args below meth c H locs cells slots Q (F0 m pc ls st0) := by
  intro T hT X
  obtain ⟨v, st₀, t, T', L, h0, X', hL, e1, e2, ⟨r, hv, hp, hh⟩, st⟩ := hr T hT X
  cases hv
  subst hp
  have hL0 : L = [] := List.eq_nil_iff_forall_not_mem.mpr (fun q hq => hL q hq)
  subst hL0
  rw [List.append_nil] at X'
  obtain ⟨t2, a1, b1⟩ := kk T' (by rw [e1, hh, h0]) X'
  exact ⟨t2, st t2 a1, b1⟩
theorem js_callv (hr : va_Run p l e R s m args below meth c H locs cells slots 0 0 (F0 m pc ls st0) rest (va_Sv (fun _ => True) a) (fun _ => False)) (kk : W p l e R s m args below meth c H locs cells slots Q (F0 m (pc + 3) ls rest)) : W p l e R s m args below meth c H locs cells slots Q (F0 m pc ls st0) := by
  intro T hT X
  obtain ⟨v, st₀, t, T', L, h0, X', hL, e1, e2, ⟨hv, -, hh⟩, st⟩ := hr T hT X
  cases hv
  have hL0 : L = [] := List.eq_nil_iff_forall_not_mem.mpr (fun q hq => hL q hq)
  subst hL0
  rw [List.append_nil] at X'
  obtain ⟨t2, a1, b1⟩ := kk T' (by rw [e1, hh, h0]) X'
  exact ⟨t2, st t2 a1, b1⟩
end JSC
section JS2
variable {G : sn_G} {adV : Nat → Nat} {X : List Int32}
set_option maxHeartbeats 4000000 in
set_option maxRecDepth 100000 in
theorem js_met_sci (l : Launch) {x n : Int32} (h0 : ¬ x < 0) (hn : x < n) : Met l js_sci [Cond.code js_sci prog_16_method_155_code 2 none] ({ frames := 1, cells := 0, slots := 0, locals := 22 }) (js_P G adV X [.int x, .int n]) (va_Sv (fun _ => True)) 0 0 (fun _ => False) := by
  refine Met.ofW (cc := prog_16_method_155_code) (maxL := 2) (ret := none) (by decide) rfl ?_
  intro p e s m args below meth c s₁ B hml hv
  obtain ⟨rfl, hF⟩ := hv
  have hx := B.exec
  have hb := B.bytes
  have hr := B.returns
  have hown : s.vm.findClass "java/lang/String" = some m.cls := findClass_of_methodNamed B.named
  have hlocks := B.notSynchronized
  have hS : va_S (sn_A G) s.heap s.heap [] := va_S.rf
  obtain ⟨-, -, -, -, -, -, hZq, -⟩ := id hF
  have hl := lv_entry ([.int x, .int n]) (n := 2) (Nat.le_of_ble_eq_true rfl)
  rw [lg_entry_eq]
  generalize (lg_sl ([.int x, .int n]) ++ List.replicate (2 - (lg_sl ([.int x, .int n])).length) Slot.unset).toArray = ls at hl ⊢
  have hl : lv_has ls 2 [(0, .int x), (1, .int n)] := hl
  refine lv_iload_n hx hb js_sci_0 rfl (lv_at hl 0 rfl) ?_
  refine lv_iload_n hx hb js_sci_1 rfl (lv_at hl 1 rfl) ?_
  have go : ∀ v : Value, v.category = 1 → W p l e (headSpec [Cond.code js_sci prog_16_method_155_code 2 none] { frames := 1, cells := 0, slots := 0, locals := 22 }).room s m ([.int x, .int n] : List Value).toArray below meth c s.heap [] 0 0 (MQ below (va_Sv (fun _ => True)) ([.int x, .int n] : List Value).toArray s 0 0 (fun _ => False)) (F0 m 5 ls [v, .int n, .int x]) := by
    intro v hv
    refine js_calli (x := x) (va_runS (As := [.int x, .int n, v]) (rest := []) (Ts := []) ⟨hx, hb, hml, hown, fun w h => by cases h⟩ (js_met_pci l hv h0 hn) ⟨sn_cb (own := "java/lang/String") (index := 1059) (n := 3) hF js_pci_cd js_w_iP js_w_m1059 (by decide) (by decide +kernel) ⟨Nat.le_of_ble_eq_true rfl, Nat.le_of_ble_eq_true rfl⟩, hF.word js_w_st_pci rfl⟩ ⟨js_blind _ _ _ _, fun U hU hW => ⟨rfl, by rw [hU]; exact hF.warm hW⟩⟩ rfl rfl hl.1 rfl (lv_room (Nat.le_of_ble_eq_true rfl)) js_sci_5 ⟨Nat.le_refl _, Nat.le_refl _⟩) ?_
    refine lv_pop hx hb js_sci_8 rfl ?_
    exact W.vret hx hb hr (fun t ht _ => ⟨rfl, trivial, ht⟩) (fun _ h => by cases h) js_sci_9
  rcases hZq with hZ | ⟨t, hZ⟩
  · refine va_gets hx hb hZ hS hown (hF.word js_w_f1053 rfl) (fun _ h => h) js_sci_2 ?_
    exact go _ rfl
  · refine va_gets hx hb hZ hS hown (hF.word js_w_f1053 rfl) (fun _ h => h) js_sci_2 ?_
    exact go _ rfl
/-- a letter of a word, out of its byte -/
theorem js_letter : ∀ i, i < 8 → ∀ j, j < (am_texts.getD i []).length → ((((sn_byts.getD i []).getD j 0) &&& 255).toUInt32 % 65536).toInt32 = Int32.ofNat ((am_texts.getD i []).getD j 0) := by decide +kernel
theorem js_narrow : ∀ i, i < 8 → ∀ j, j < (am_texts.getD i []).length → narrow .char (.int (Int32.ofNat ((am_texts.getD i []).getD j 0))) = .int (Int32.ofNat ((am_texts.getD i []).getD j 0)) := by decide +kernel
theorem js_len : ∀ i, i < 8 → sn_lens.getD i 0 = (am_texts.getD i []).length ∧ (am_texts.getD i []).length < 10 := by decide +kernel
theorem js_in {i : Nat} {x : Int32} (h0 : ¬ x < 0) (hx : x.toNatClampNeg < (am_texts.getD i []).length) (hn : (am_texts.getD i []).length < 10) : x < Int32.ofNat (am_texts.getD i []).length := by
  rw [Int32.lt_iff_toInt_lt]
  have h1 : (0 : Int) ≤ x.toInt := by
    have := Int32.not_lt.mp h0
    simpa using Int32.le_iff_toInt_le.mp this
  have h2 : x.toInt = (x.toNatClampNeg : Int) := by
    show x.toInt = ((x.toInt.toNat : Nat) : Int)
    omega
  have h3 : (Int32.ofNat (am_texts.getD i []).length).toInt = ((am_texts.getD i []).length : Int) := nI_toInt (by omega)
  rw [h2, h3]
  omega
set_option maxHeartbeats 4000000 in
set_option maxRecDepth 100000 in
theorem js_met_lca (l : Launch) {i : Nat} (hi : i < 8) {x : Int32} (h0 : ¬ x < 0) (hn : x.toNatClampNeg < (am_texts.getD i []).length) : Met l js_lca [Cond.code js_lca prog_17_method_2_code 2 (some .char)] ({ frames := 2, cells := 0, slots := 0, locals := 43 }) (js_P G adV X [.ref (adV i), .int x]) (vp_Si (fun r => r = Int32.ofNat ((am_texts.getD i []).getD x.toNatClampNeg 0))) 0 0 (fun _ => False) := by
  refine Met.ofW (cc := prog_17_method_2_code) (maxL := 2) (ret := some .char) (by decide) rfl ?_
  intro p e s m args below meth c s₁ B hml hv
  obtain ⟨rfl, hF⟩ := hv
  have hx := B.exec
  have hb := B.bytes
  have hr := B.returns
  have hown : s.vm.findClass "java/lang/StringLatin1" = some m.cls := findClass_of_methodNamed B.named
  have hlocks := B.notSynchronized
  have hS : va_S (sn_A G) s.heap s.heap [] := va_S.rf
  obtain ⟨-, -, -, -, hV, -⟩ := id hF
  obtain ⟨-, -, -, hT⟩ := hV.1 i hi
  obtain ⟨hle, hlt⟩ := js_len i hi
  rw [hle] at hT
  have hl := lv_entry ([.ref (adV i), .int x]) (n := 2) (Nat.le_of_ble_eq_true rfl)
  rw [lg_entry_eq]
  generalize (lg_sl ([.ref (adV i), .int x]) ++ List.replicate (2 - (lg_sl ([.ref (adV i), .int x])).length) Slot.unset).toArray = ls at hl ⊢
  have hl : lv_has ls 2 [(0, .ref (adV i)), (1, .int x)] := hl
  refine lv_iload_n hx hb js_lca_0 rfl (lv_at hl 1 rfl) ?_
  refine lv_aload_n hx hb js_lca_1 rfl (lv_at hl 0 rfl) ?_
  refine va_tlen hx hb hT hS rfl js_lca_2 ?_
  refine js_callv (va_runS (As := [.int x, .int (Int32.ofNat (am_texts.getD i []).length)]) (rest := []) (Ts := []) ⟨hx, hb, hml, hown, fun w h => by cases h⟩ (js_met_sci l h0 (js_in h0 hn hlt)) ⟨sn_cb (own := "java/lang/StringLatin1") (index := 9) (n := 2) hF js_sci_cd js_w_iS js_w_m9 (by decide) (by decide +kernel) ⟨Nat.le_of_ble_eq_true rfl, Nat.le_of_ble_eq_true rfl⟩, hF.word js_w_st_sci rfl⟩ ⟨js_blind _ _ _ _, fun U hU hW => ⟨rfl, by rw [hU]; exact hF.warm hW⟩⟩ rfl rfl hl.1 rfl (lv_room (Nat.le_of_ble_eq_true rfl)) js_lca_3 ⟨Nat.le_refl _, Nat.le_refl _⟩) ?_
  refine lv_aload_n hx hb js_lca_6 rfl (lv_at hl 0 rfl) ?_
  refine lv_iload_n hx hb js_lca_7 rfl (lv_at hl 1 rfl) ?_
  refine va_tb hx hb hT hS (fun q => q.elim h0 (fun h => by omega)) rfl js_lca_8 ?_
  refine lv_sipush (v := 255) hx hb js_lca_9 (by decide) ?_
  refine lv_iand hx hb js_lca_12 ?_
  refine lv_i2c (v := Int32.ofNat ((am_texts.getD i []).getD x.toNatClampNeg 0)) hx hb js_lca_13 (js_letter i hi _ hn) ?_
  exact W.zret hx hb hr (js_narrow i hi _ hn) (fun t ht _ => ⟨_, rfl, rfl, ht⟩) (fun _ h => by cases h) js_lca_14
set_option maxHeartbeats 4000000 in
set_option maxRecDepth 100000 in
theorem js_met_ca (l : Launch) {i : Nat} (hi : i < 8) {x : Int32} (h0 : ¬ x < 0) (hn : x.toNatClampNeg < (am_texts.getD i []).length) : Met l js_ca [Cond.code js_ca prog_16_method_56_code 2 (some .char)] ({ frames := 3, cells := 0, slots := 0, locals := 64 }) (js_P G adV X [.ref (G.2.2.1 i), .int x]) (vp_Si (fun r => r = Int32.ofNat ((am_texts.getD i []).getD x.toNatClampNeg 0))) 0 0 (fun _ => False) := by
  refine Met.ofW (cc := prog_16_method_56_code) (maxL := 2) (ret := some .char) (by decide) rfl ?_
  intro p e s m args below meth c s₁ B hml hv
  obtain ⟨rfl, hF⟩ := hv
  have hx := B.exec
  have hb := B.bytes
  have hr := B.returns
  have hown : s.vm.findClass "java/lang/String" = some m.cls := findClass_of_methodNamed B.named
  have hlocks := B.notSynchronized
  have hS : va_S (sn_A G) s.heap s.heap [] := va_S.rf
  obtain ⟨-, -, -, -, hV, -⟩ := id hF
  obtain ⟨-, -, hva, -⟩ := hV.1 i hi
  have hl := lv_entry ([.ref (G.2.2.1 i), .int x]) (n := 2) (Nat.le_of_ble_eq_true rfl)
  rw [lg_entry_eq]
  generalize (lg_sl ([.ref (G.2.2.1 i), .int x]) ++ List.replicate (2 - (lg_sl ([.ref (G.2.2.1 i), .int x])).length) Slot.unset).toArray = ls at hl ⊢
  have hl : lv_has ls 2 [(0, .ref (G.2.2.1 i)), (1, .int x)] := hl
  refine lv_aload_n hx hb js_ca_0 rfl (lv_at hl 0 rfl) ?_
  refine js_calli (x := 1) (va_runV (C := "java/lang/String") (As := []) (rest := []) (Ts := []) ⟨hx, hb, hml, hown, fun w h => by cases h⟩ (js_met_isLatin1 l hi) ⟨sn_cb (own := "java/lang/String") (index := 492) (n := 0) hF js_isLatin1_cd js_w_iS js_w_m492 (by decide) (by decide +kernel) ⟨Nat.le_of_ble_eq_true rfl, Nat.le_of_ble_eq_true rfl⟩, hF.word js_w_in_isLatin1 rfl, hF.word js_w_se_isLatin1 rfl⟩ ⟨js_blind _ _ _ _, vk_recv hV hi hS, fun U hU hW => ⟨rfl, by rw [hU]; exact hF.warm hW⟩⟩ rfl rfl hl.1 rfl (lv_room (Nat.le_of_ble_eq_true rfl)) js_ca_1 ⟨Nat.le_refl _, Nat.le_refl _⟩) ?_
  refine lv_if_eq (tgt := 16) hx hb js_ca_4 (by decide) (fun h => absurd h (by decide)) (fun _ => ?_)
  refine lv_aload_n hx hb js_ca_7 rfl (lv_at hl 0 rfl) ?_
  refine vk_getf hx hb hva hS hown (hF.word js_w_f9 rfl) (fun _ h => h) js_ca_8 ?_
  refine lv_iload_n hx hb js_ca_11 rfl (lv_at hl 1 rfl) ?_
  refine js_calli (va_runS (As := [.ref (adV i), .int x]) (rest := []) (Ts := []) ⟨hx, hb, hml, hown, fun w h => by cases h⟩ (js_met_lca l hi h0 hn) ⟨sn_cb (own := "java/lang/String") (index := 495) (n := 2) hF js_lca_cd js_w_iL js_w_m495 (by decide) (by decide +kernel) ⟨Nat.le_of_ble_eq_true rfl, Nat.le_of_ble_eq_true rfl⟩, hF.word js_w_st_lca rfl⟩ ⟨js_blind _ _ _ _, fun U hU hW => ⟨rfl, by rw [hU]; exact hF.warm hW⟩⟩ rfl rfl hl.1 rfl (lv_room (Nat.le_of_ble_eq_true rfl)) js_ca_12 ⟨Nat.le_refl _, Nat.le_refl _⟩) ?_
  exact W.zret hx hb hr (js_narrow i hi _ hn) (fun t ht _ => ⟨_, rfl, rfl, ht⟩) (fun _ h => by cases h) js_ca_15
theorem js_shr : ∀ i, i < 8 → (Int32.ofNat (sn_lens.getD i 0)) >>> ((0 : Int32) &&& 31) = Int32.ofNat (am_texts.getD i []).length := by decide +kernel
set_option maxHeartbeats 4000000 in
set_option maxRecDepth 100000 in
theorem js_met_length (l : Launch) {i : Nat} (hi : i < 8) : Met l js_length [Cond.code js_length prog_16_method_54_code 1 (some .int)] ({ frames := 1, cells := 0, slots := 0, locals := 20 }) (js_P G adV X [.ref (G.2.2.1 i)]) (vp_Si (fun r => r = Int32.ofNat (am_texts.getD i []).length)) 0 0 (fun _ => False) := by
  refine Met.ofW (cc := prog_16_method_54_code) (maxL := 1) (ret := some .int) (by decide) rfl ?_
  intro p e s m args below meth c s₁ B hml hv
  obtain ⟨rfl, hF⟩ := hv
  have hx := B.exec
  have hb := B.bytes
  have hr := B.returns
  have hown : s.vm.findClass "java/lang/String" = some m.cls := findClass_of_methodNamed B.named
  have hlocks := B.notSynchronized
  have hS : va_S (sn_A G) s.heap s.heap [] := va_S.rf
  obtain ⟨-, -, -, -, hV, -⟩ := id hF
  obtain ⟨-, -, hva, hT⟩ := hV.1 i hi
  have hl := lv_entry ([.ref (G.2.2.1 i)]) (n := 1) (Nat.le_of_ble_eq_true rfl)
  rw [lg_entry_eq]
  generalize (lg_sl ([.ref (G.2.2.1 i)]) ++ List.replicate (1 - (lg_sl ([.ref (G.2.2.1 i)])).length) Slot.unset).toArray = ls at hl ⊢
  have hl : lv_has ls 1 [(0, .ref (G.2.2.1 i))] := hl
  refine lv_aload_n hx hb js_length_0 rfl (lv_at hl 0 rfl) ?_
  refine vk_getf hx hb hva hS hown (hF.word js_w_f9 rfl) (fun _ h => h) js_length_1 ?_
  refine va_tlen hx hb hT hS rfl js_length_4 ?_
  refine lv_aload_n hx hb js_length_5 rfl (lv_at hl 0 rfl) ?_
  refine js_calli (x := 0) (va_runV (C := "java/lang/String") (As := []) (rest := [.int (Int32.ofNat (sn_lens.getD i 0))]) (Ts := []) ⟨hx, hb, hml, hown, fun w h => by cases h⟩ (js_met_coder l hi) ⟨sn_cb (own := "java/lang/String") (index := 335) (n := 0) hF js_coder_cd js_w_iS js_w_m335 (by decide) (by decide +kernel) ⟨Nat.le_of_ble_eq_true rfl, Nat.le_of_ble_eq_true rfl⟩, hF.word js_w_in_coder rfl, hF.word js_w_se_coder rfl⟩ ⟨js_blind _ _ _ _, vk_recv hV hi hS, fun U hU hW => ⟨rfl, by rw [hU]; exact hF.warm hW⟩⟩ rfl rfl hl.1 rfl (lv_room (Nat.le_of_ble_eq_true rfl)) js_length_6 ⟨Nat.le_refl _, Nat.le_refl _⟩) ?_
  refine lv_ishr hx hb js_length_9 ?_
  rw [js_shr i hi]
  exact W.iret hx hb hr (fun t ht _ => ⟨_, rfl, rfl, ht⟩) (fun _ h => by cases h) js_length_10
end JS2
