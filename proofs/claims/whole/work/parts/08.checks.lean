/-! ===== every instruction of the tables stands in the code, and is linked as its data say ===== -/
def sn_KL : List ((Nat × Nat) × Nat) := [((0, 37), 1000000), ((9, 117), 1103515245), ((12, 243), 1000000), ((12, 270), 1103515245)]
theorem sn_KL_ok : ∀ e ∈ sn_KL, Cond.constant (sn_cnm e.1.1) e.1.2 (Int32.ofNat e.2) ∈ lw_tbl := by
  have h := sn_wd_in (ps := [(4, 57), (4, 145), (6, 163), (6, 221)]) (ws := sn_KL.map (fun e => Cond.constant (sn_cnm e.1.1) e.1.2 (Int32.ofNat e.2))) (by decide +kernel)
  exact fun e he => h _ (List.mem_map.mpr ⟨e, he, rfl⟩)
def sn_KLL : List ((Nat × Nat) × Nat) := [((13, 18), 4294967295), ((3, 27), 10), ((12, 250), 1000)]
theorem sn_KLL_ok : ∀ e ∈ sn_KLL, Cond.constantLong (sn_cnm e.1.1) e.1.2 (Int64.ofNat e.2) ∈ lw_tbl := by
  have h := sn_wd_in (ps := [(7, 30), (4, 189), (6, 168)]) (ws := sn_KLL.map (fun e => Cond.constantLong (sn_cnm e.1.1) e.1.2 (Int64.ofNat e.2))) (by decide +kernel)
  exact fun e he => h _ (List.mem_map.mpr ⟨e, he, rfl⟩)
def sn_NL : List ((Nat × Nat) × Nat) := [((13, 7), 11), ((13, 10), 12), ((11, 9), 5), ((11, 23), 9), ((11, 36), 0), ((11, 43), 10), ((11, 319), 7), ((11, 321), 2), ((11, 323), 8), ((11, 325), 6), ((11, 327), 4), ((11, 329), 1), ((11, 154), 3)]
def sn_csz (c : Nat) : Nat := (vwCl.getD c ("", fun _ => ("", "", "", false), 0)).2.2
theorem sn_NL_classLink : ∀ e ∈ sn_NL, Cond.classLink (sn_cnm e.1.1) e.1.2 (sn_cnm e.2) ∈ lw_tbl := by
  have h := sn_wd_in (ps := [(1, 20), (5, 18), (1, 28), (1, 51), (1, 120), (1, 136), (2, 69), (2, 70), (2, 71), (2, 72), (2, 73), (2, 74), (2, 207)]) (ws := sn_NL.map (fun e => Cond.classLink (sn_cnm e.1.1) e.1.2 (sn_cnm e.2))) (by decide +kernel)
  exact fun e he => h _ (List.mem_map.mpr ⟨e, he, rfl⟩)
theorem sn_NL_instantiable : ∀ e ∈ sn_NL, Cond.instantiable (sn_cnm e.2) (sn_csz e.2) ∈ lw_tbl := by
  have h := sn_wd_in (ps := [(1, 21), (5, 19), (1, 30), (1, 52), (1, 121), (1, 137), (2, 140), (2, 169), (2, 177), (2, 184), (2, 192), (2, 199), (2, 208)]) (ws := sn_NL.map (fun e => Cond.instantiable (sn_cnm e.2) (sn_csz e.2))) (by decide +kernel)
  exact fun e he => h _ (List.mem_map.mpr ⟨e, he, rfl⟩)
theorem sn_NL_initialized : ∀ e ∈ sn_NL, Cond.initialized (sn_cnm e.2) ∈ lw_tbl := by
  have h := sn_wd_in (ps := [(1, 1), (1, 6), (1, 2), (1, 3), (1, 4), (1, 5), (1, 10), (1, 11), (1, 12), (1, 13), (1, 14), (1, 15), (1, 9)]) (ws := sn_NL.map (fun e => Cond.initialized (sn_cnm e.2))) (by decide +kernel)
  exact fun e he => h _ (List.mem_map.mpr ⟨e, he, rfl⟩)
def sn_AL : List ((Nat × Nat) × Nat) := [((11, 9), 2), ((9, 9), 3)]
def sn_ael : Nat → String
  | 2 => "ToLiftToStrike$Row"
  | _ => "ToLiftToStrike$Player"
theorem sn_AL_ok : ∀ e ∈ sn_AL, Cond.classLink (sn_cnm e.1.1) e.1.2 (sn_ael e.2) ∈ lw_tbl ∧ (e.2 = 2 ∨ e.2 = 3) := by
  have h := sn_wd_in (ps := [(1, 28), (1, 57)]) (ws := sn_AL.map (fun e => Cond.classLink (sn_cnm e.1.1) e.1.2 (sn_ael e.2))) (by decide +kernel)
  have h2 : ∀ e ∈ sn_AL, (e.2 = 2 ∨ e.2 = 3) := by decide +kernel
  exact fun e he => ⟨h _ (List.mem_map.mpr ⟨e, he, rfl⟩), h2 e he⟩
def sn_IL : List ((Nat × Nat) × (List (Nat × Nat) × Nat)) := [((11, 319), ([(3, 0), (7, 1), (2, 0), (8, 1), (6, 0), (4, 1), (1, 0)], 7)), ((11, 321), ([(3, 0), (7, 0), (2, 1), (8, 0), (6, 0), (4, 0), (1, 0)], 2)), ((11, 323), ([(3, 0), (7, 0), (2, 0), (8, 1), (6, 0), (4, 0), (1, 0)], 8)), ((11, 325), ([(3, 0), (7, 0), (2, 0), (8, 0), (6, 1), (4, 0), (1, 1)], 6)), ((11, 327), ([(3, 0), (7, 0), (2, 0), (8, 0), (6, 0), (4, 1), (1, 0)], 4)), ((11, 329), ([(3, 0), (7, 0), (2, 0), (8, 0), (6, 0), (4, 0), (1, 1)], 1))]
theorem sn_IL_cl : ∀ e ∈ sn_IL, Cond.classLink (sn_cnm e.1.1) e.1.2 (sn_cnm e.2.2) ∈ lw_tbl := by
  have h := sn_wd_in (ps := [(2, 69), (2, 70), (2, 71), (2, 72), (2, 73), (2, 74)]) (ws := sn_IL.map (fun e => Cond.classLink (sn_cnm e.1.1) e.1.2 (sn_cnm e.2.2))) (by decide +kernel)
  exact fun e he => h _ (List.mem_map.mpr ⟨e, he, rfl⟩)
def sn_YC : List (Nat × Nat) := [(8, 7), (4, 7), (1, 6)]
theorem sn_YC_ok : ∀ e ∈ sn_YC, Cond.castable (sn_cnm e.1) (sn_cnm e.2) ∈ lw_tbl := by
  have h := sn_wd_in (ps := [(7, 34), (7, 33), (7, 35)]) (ws := sn_YC.map (fun e => Cond.castable (sn_cnm e.1) (sn_cnm e.2))) (by decide +kernel)
  exact fun e he => h _ (List.mem_map.mpr ⟨e, he, rfl⟩)
def sn_NC : List (Nat × Nat) := [(3, 7), (2, 7), (6, 7), (1, 7), (3, 2), (7, 2), (8, 2), (6, 2), (4, 2), (1, 2), (3, 8), (7, 8), (2, 8), (6, 8), (4, 8), (1, 8), (3, 6), (7, 6), (2, 6), (8, 6), (4, 6), (3, 4), (7, 4), (2, 4), (8, 4), (6, 4), (1, 4), (3, 1), (7, 1), (2, 1), (8, 1), (6, 1), (4, 1)]
theorem sn_IL_ok : ∀ e ∈ sn_IL, ∀ q ∈ e.2.1, q.1 < 13 ∧ ((q.2 = 1 ∧ (q.1 = e.2.2 ∨ (q.1, e.2.2) ∈ sn_YC)) ∨ (q.2 = 0 ∧ (q.1, e.2.2) ∈ sn_NC)) := by decide +kernel
-- the classes whose objects an array of references takes
/-- the room of a call: frames and words of the callee fit the caller's; a number of a method of the JDK's has its own -/
def sn_rm (m f : Nat) : Bool := match f with
  | 1000 => decide (1 ≤ sn_fr m ∧ 20 ≤ sn_lo m)
  | 1001 => decide (1 ≤ sn_fr m ∧ 21 ≤ sn_lo m)
  | 1002 => decide (1 ≤ sn_fr m ∧ 21 ≤ sn_lo m)
  | 1003 => decide (1 ≤ sn_fr m ∧ 60 ≤ sn_lo m)
  | 1004 => decide (2 ≤ sn_fr m ∧ 60 ≤ sn_lo m)
  | 1005 => decide (4 ≤ sn_fr m ∧ 110 ≤ sn_lo m)
  | f => decide (1 ≤ f ∧ f < 254 ∧ sn_fr f + 1 ≤ sn_fr m ∧ 8 + (am_nL f + 11) + sn_lo f ≤ sn_lo m)
/-- the sort of call and the method's number go together -/
def sn_ck (k f : Nat) : Bool := if 1000 ≤ f then k + 980 == f else decide (k ≤ 6)
def sn_len : Instr → Nat
  | .bipush _ => 2
  | .sipush _ => 3
  | .ldc _ => 2
  | .ldc_w _ => 3
  | .ldc2_w _ => 3
  | .iload _ => 2
  | .lload _ => 2
  | .aload _ => 2
  | .istore _ => 2
  | .lstore _ => 2
  | .astore _ => 2
  | .iinc _ _ => 3
  | .goto _ => 3
  | .ifCond _ _ => 3
  | .if_icmp _ _ => 3
  | .ifnull _ => 3
  | .ifnonnull _ => 3
  | .getfield _ => 3
  | .putfield _ => 3
  | .newarray _ => 2
  | .anewarray _ => 3
  | .new _ => 3
  | .instanceof _ => 3
  | .invokestatic _ => 3
  | .invokespecial _ => 3
  | .invokevirtual _ => 3
  | _ => 1
def sn_jp (pc : Nat) (off : Int) : Bool := decide (0 ≤ (pc : Int) + off)
def sn_fin (m : Nat) (d : am_Dt) : Bool := d.2.all (fun q => match vwCl[q.1]? with
  | some (_, T, _) => !(T d.1).2.2.2 || (decide ((sn_nm m).name = "<init>") && decide ((T d.1).1 = sn_cnm (sn_own m)))
  | none => false)
def sn_lk (m pc : Nat) (i : Instr) (n : Nat) (d : am_Dt) : Bool := match i with
  | .goto off => sn_jp pc off && n == 3
  | .ifCond _ off => sn_jp pc off && n == 3
  | .if_icmp _ off => sn_jp pc off && n == 3
  | .ifnull off => sn_jp pc off && n == 3
  | .ifnonnull off => sn_jp pc off && n == 3
  | .tableswitch dflt lo hi offs => sn_jp pc dflt && offs.toList.all (sn_jp pc) && decide ((offs.toList.length : Int) = hi - lo + 1)
  | .ldc k => n == 2 && (match d.2 with
    | [] => sn_KL.any (fun e => e.1.1 == sn_own m && e.1.2 == k && e.2 == d.1)
    | _ => sn_own m == 10 && decide (d.1 < 8) && k == 86 + 2 * d.1)
  | .ldc_w k => n == 3 && sn_KL.any (fun e => e.1.1 == sn_own m && e.1.2 == k && e.2 == d.1)
  | .ldc2_w k => n == 3 && sn_KLL.any (fun e => e.1.1 == sn_own m && e.1.2 == k && e.2 == d.1)
  | .getfield k => n == 3 && sn_FL.any (fun e => e.1.1 == sn_own m && e.1.2 == k && decide (e.2.1 = d))
  | .putfield k => n == 3 && sn_FL.any (fun e => e.1.1 == sn_own m && e.1.2 == k && decide (e.2.1 = d)) && sn_fin m d
  | .new k => n == 3 && sn_NL.any (fun e => e.1.1 == sn_own m && e.1.2 == k && e.2 == d.1)
  | .anewarray k => n == 3 && sn_AL.any (fun e => e.1.1 == sn_own m && e.1.2 == k && e.2 == d.1)
  | .instanceof k => n == 3 && sn_IL.any (fun e => e.1.1 == sn_own m && e.1.2 == k && decide (e.2.1 = d.2))
  | .invokestatic k => n == 3 && (match d.2 with
    | [(_, f)] => sn_CL.any (fun e => e.1.1 == sn_own m && e.1.2 == k && (e.2.1 == 0 || e.2.1 == 1 || e.2.1 == 21 || e.2.1 == 22 || e.2.1 == 23) && e.2.2.1 == d.1 && e.2.2.2.2.1 == f && sn_rm m f && sn_ck e.2.1 f)
    | _ => false)
  | .invokespecial k => n == 3 && (match d.2 with
    | [(_, f)] => sn_CL.any (fun e => e.1.1 == sn_own m && e.1.2 == k && (e.2.1 == 2 || e.2.1 == 3 || e.2.1 == 4 || e.2.1 == 20) && e.2.2.1 == d.1 && e.2.2.2.2.1 == f && sn_rm m f && sn_ck e.2.1 f)
    | _ => false)
  | .invokevirtual k => n == 3 && d.2.all (fun q => sn_CL.any (fun e => e.1.1 == sn_own m && e.1.2 == k && (e.2.1 == 5 || e.2.1 == 6 || e.2.1 == 24 || e.2.1 == 25) && e.2.2.1 == d.1 && (1000 ≤ q.2 || e.2.2.2.1 == q.1) && e.2.2.2.2.1 == q.2 && sn_rm m q.2 && sn_ck e.2.1 q.2))
  | .ireturn => n == 1 && (match sn_rt m with
    | some .int => true
    | some .boolean => d.1 == 1
    | _ => false)
  | .lreturn => n == 1 && decide (sn_rt m = some .long)
  | .areturn => n == 1 && (match sn_rt m with
    | some (.object _) => true
    | _ => false)
  | .return_ => n == 1 && decide (sn_rt m = none)
  | i => n == sn_len i
def sn_okI (m pc : Nat) (q : Instr × Nat × am_Dt) : Bool := decide (decode (sn_bs m) pc = .ok (q.1, q.2.1)) && sn_lk m pc q.1 q.2.1 q.2.2
theorem sn_ok1 : am_K1.all (fun e => sn_okI 1 e.1 e.2) = true := by decide +kernel
theorem sn_ok2 : am_K2.all (fun e => sn_okI 2 e.1 e.2) = true := by decide +kernel
theorem sn_ok3 : am_K3.all (fun e => sn_okI 3 e.1 e.2) = true := by decide +kernel
theorem sn_ok4 : am_K4.all (fun e => sn_okI 4 e.1 e.2) = true := by decide +kernel
theorem sn_ok5 : am_K5.all (fun e => sn_okI 5 e.1 e.2) = true := by decide +kernel
theorem sn_ok6 : am_K6.all (fun e => sn_okI 6 e.1 e.2) = true := by decide +kernel
theorem sn_ok7 : am_K7.all (fun e => sn_okI 7 e.1 e.2) = true := by decide +kernel
theorem sn_ok8 : am_K8.all (fun e => sn_okI 8 e.1 e.2) = true := by decide +kernel
theorem sn_ok9 : am_K9.all (fun e => sn_okI 9 e.1 e.2) = true := by decide +kernel
theorem sn_ok10 : am_K10.all (fun e => sn_okI 10 e.1 e.2) = true := by decide +kernel
theorem sn_ok11 : am_K11.all (fun e => sn_okI 11 e.1 e.2) = true := by decide +kernel
theorem sn_ok12 : am_K12.all (fun e => sn_okI 12 e.1 e.2) = true := by decide +kernel
theorem sn_ok13 : am_K13.all (fun e => sn_okI 13 e.1 e.2) = true := by decide +kernel
theorem sn_ok14 : am_K14.all (fun e => sn_okI 14 e.1 e.2) = true := by decide +kernel
theorem sn_ok15 : am_K15.all (fun e => sn_okI 15 e.1 e.2) = true := by decide +kernel
theorem sn_ok16 : am_K16.all (fun e => sn_okI 16 e.1 e.2) = true := by decide +kernel
theorem sn_ok17 : am_K17.all (fun e => sn_okI 17 e.1 e.2) = true := by decide +kernel
theorem sn_ok18 : am_K18.all (fun e => sn_okI 18 e.1 e.2) = true := by decide +kernel
theorem sn_ok19 : am_K19.all (fun e => sn_okI 19 e.1 e.2) = true := by decide +kernel
theorem sn_ok20 : am_K20.all (fun e => sn_okI 20 e.1 e.2) = true := by decide +kernel
theorem sn_ok21 : am_K21.all (fun e => sn_okI 21 e.1 e.2) = true := by decide +kernel
theorem sn_ok22 : am_K22.all (fun e => sn_okI 22 e.1 e.2) = true := by decide +kernel
theorem sn_ok23 : am_K23.all (fun e => sn_okI 23 e.1 e.2) = true := by decide +kernel
theorem sn_ok24 : am_K24.all (fun e => sn_okI 24 e.1 e.2) = true := by decide +kernel
theorem sn_ok25 : am_K25.all (fun e => sn_okI 25 e.1 e.2) = true := by decide +kernel
theorem sn_ok26 : am_K26.all (fun e => sn_okI 26 e.1 e.2) = true := by decide +kernel
theorem sn_ok27 : am_K27.all (fun e => sn_okI 27 e.1 e.2) = true := by decide +kernel
theorem sn_ok28 : am_K28.all (fun e => sn_okI 28 e.1 e.2) = true := by decide +kernel
theorem sn_ok29 : am_K29.all (fun e => sn_okI 29 e.1 e.2) = true := by decide +kernel
theorem sn_ok30 : am_K30.all (fun e => sn_okI 30 e.1 e.2) = true := by decide +kernel
theorem sn_ok31 : am_K31.all (fun e => sn_okI 31 e.1 e.2) = true := by decide +kernel
theorem sn_ok32 : am_K32.all (fun e => sn_okI 32 e.1 e.2) = true := by decide +kernel
theorem sn_ok33 : am_K33.all (fun e => sn_okI 33 e.1 e.2) = true := by decide +kernel
theorem sn_ok34 : am_K34.all (fun e => sn_okI 34 e.1 e.2) = true := by decide +kernel
theorem sn_ok35 : am_K35.all (fun e => sn_okI 35 e.1 e.2) = true := by decide +kernel
theorem sn_ok36 : am_K36.all (fun e => sn_okI 36 e.1 e.2) = true := by decide +kernel
theorem sn_ok37 : am_K37.all (fun e => sn_okI 37 e.1 e.2) = true := by decide +kernel
theorem sn_ok38 : am_K38.all (fun e => sn_okI 38 e.1 e.2) = true := by decide +kernel
theorem sn_ok39 : am_K39.all (fun e => sn_okI 39 e.1 e.2) = true := by decide +kernel
theorem sn_ok40 : am_K40.all (fun e => sn_okI 40 e.1 e.2) = true := by decide +kernel
theorem sn_ok41 : am_K41.all (fun e => sn_okI 41 e.1 e.2) = true := by decide +kernel
theorem sn_ok42 : am_K42.all (fun e => sn_okI 42 e.1 e.2) = true := by decide +kernel
theorem sn_ok43 : am_K43.all (fun e => sn_okI 43 e.1 e.2) = true := by decide +kernel
theorem sn_ok44 : am_K44.all (fun e => sn_okI 44 e.1 e.2) = true := by decide +kernel
theorem sn_ok45 : am_K45.all (fun e => sn_okI 45 e.1 e.2) = true := by decide +kernel
theorem sn_ok46 : am_K46.all (fun e => sn_okI 46 e.1 e.2) = true := by decide +kernel
theorem sn_ok47 : am_K47.all (fun e => sn_okI 47 e.1 e.2) = true := by decide +kernel
theorem sn_ok48 : am_K48.all (fun e => sn_okI 48 e.1 e.2) = true := by decide +kernel
theorem sn_ok49 : am_K49.all (fun e => sn_okI 49 e.1 e.2) = true := by decide +kernel
theorem sn_ok50 : am_K50.all (fun e => sn_okI 50 e.1 e.2) = true := by decide +kernel
theorem sn_ok51 : am_K51.all (fun e => sn_okI 51 e.1 e.2) = true := by decide +kernel
theorem sn_ok52 : am_K52.all (fun e => sn_okI 52 e.1 e.2) = true := by decide +kernel
theorem sn_ok53 : am_K53.all (fun e => sn_okI 53 e.1 e.2) = true := by decide +kernel
theorem sn_ok54 : am_K54.all (fun e => sn_okI 54 e.1 e.2) = true := by decide +kernel
theorem sn_ok55 : am_K55.all (fun e => sn_okI 55 e.1 e.2) = true := by decide +kernel
theorem sn_ok56 : am_K56.all (fun e => sn_okI 56 e.1 e.2) = true := by decide +kernel
theorem sn_ok57 : am_K57.all (fun e => sn_okI 57 e.1 e.2) = true := by decide +kernel
theorem sn_ok58 : am_K58.all (fun e => sn_okI 58 e.1 e.2) = true := by decide +kernel
theorem sn_ok59 : am_K59.all (fun e => sn_okI 59 e.1 e.2) = true := by decide +kernel
theorem sn_ok60 : am_K60.all (fun e => sn_okI 60 e.1 e.2) = true := by decide +kernel
theorem sn_ok61 : am_K61.all (fun e => sn_okI 61 e.1 e.2) = true := by decide +kernel
theorem sn_ok62 : am_K62.all (fun e => sn_okI 62 e.1 e.2) = true := by decide +kernel
theorem sn_ok63 : am_K63.all (fun e => sn_okI 63 e.1 e.2) = true := by decide +kernel
theorem sn_ok64 : am_K64.all (fun e => sn_okI 64 e.1 e.2) = true := by decide +kernel
theorem sn_ok65 : am_K65.all (fun e => sn_okI 65 e.1 e.2) = true := by decide +kernel
theorem sn_ok66 : am_K66.all (fun e => sn_okI 66 e.1 e.2) = true := by decide +kernel
theorem sn_ok67 : am_K67.all (fun e => sn_okI 67 e.1 e.2) = true := by decide +kernel
theorem sn_ok68 : am_K68.all (fun e => sn_okI 68 e.1 e.2) = true := by decide +kernel
theorem sn_ok69 : am_K69.all (fun e => sn_okI 69 e.1 e.2) = true := by decide +kernel
theorem sn_ok70 : am_K70.all (fun e => sn_okI 70 e.1 e.2) = true := by decide +kernel
theorem sn_ok71 : am_K71.all (fun e => sn_okI 71 e.1 e.2) = true := by decide +kernel
theorem sn_ok72 : am_K72.all (fun e => sn_okI 72 e.1 e.2) = true := by decide +kernel
theorem sn_ok73 : am_K73.all (fun e => sn_okI 73 e.1 e.2) = true := by decide +kernel
theorem sn_ok74 : am_K74.all (fun e => sn_okI 74 e.1 e.2) = true := by decide +kernel
theorem sn_ok75 : am_K75.all (fun e => sn_okI 75 e.1 e.2) = true := by decide +kernel
theorem sn_ok76 : am_K76.all (fun e => sn_okI 76 e.1 e.2) = true := by decide +kernel
theorem sn_ok77 : am_K77.all (fun e => sn_okI 77 e.1 e.2) = true := by decide +kernel
theorem sn_ok78 : am_K78.all (fun e => sn_okI 78 e.1 e.2) = true := by decide +kernel
theorem sn_ok79 : am_K79.all (fun e => sn_okI 79 e.1 e.2) = true := by decide +kernel
theorem sn_ok80 : am_K80.all (fun e => sn_okI 80 e.1 e.2) = true := by decide +kernel
theorem sn_ok81 : am_K81.all (fun e => sn_okI 81 e.1 e.2) = true := by decide +kernel
theorem sn_ok82 : am_K82.all (fun e => sn_okI 82 e.1 e.2) = true := by decide +kernel
theorem sn_ok83 : am_K83.all (fun e => sn_okI 83 e.1 e.2) = true := by decide +kernel
theorem sn_ok84 : am_K84.all (fun e => sn_okI 84 e.1 e.2) = true := by decide +kernel
theorem sn_ok85 : am_K85.all (fun e => sn_okI 85 e.1 e.2) = true := by decide +kernel
theorem sn_ok86 : am_K86.all (fun e => sn_okI 86 e.1 e.2) = true := by decide +kernel
theorem sn_ok87 : am_K87.all (fun e => sn_okI 87 e.1 e.2) = true := by decide +kernel
theorem sn_ok88 : am_K88.all (fun e => sn_okI 88 e.1 e.2) = true := by decide +kernel
theorem sn_ok89 : am_K89.all (fun e => sn_okI 89 e.1 e.2) = true := by decide +kernel
theorem sn_ok90 : am_K90.all (fun e => sn_okI 90 e.1 e.2) = true := by decide +kernel
theorem sn_ok91 : am_K91.all (fun e => sn_okI 91 e.1 e.2) = true := by decide +kernel
theorem sn_ok92 : am_K92.all (fun e => sn_okI 92 e.1 e.2) = true := by decide +kernel
theorem sn_ok93 : am_K93.all (fun e => sn_okI 93 e.1 e.2) = true := by decide +kernel
theorem sn_ok94 : am_K94.all (fun e => sn_okI 94 e.1 e.2) = true := by decide +kernel
theorem sn_ok95 : am_K95.all (fun e => sn_okI 95 e.1 e.2) = true := by decide +kernel
theorem sn_ok96 : am_K96.all (fun e => sn_okI 96 e.1 e.2) = true := by decide +kernel
theorem sn_ok97 : am_K97.all (fun e => sn_okI 97 e.1 e.2) = true := by decide +kernel
theorem sn_ok98 : am_K98.all (fun e => sn_okI 98 e.1 e.2) = true := by decide +kernel
theorem sn_ok99 : am_K99.all (fun e => sn_okI 99 e.1 e.2) = true := by decide +kernel
theorem sn_ok100 : am_K100.all (fun e => sn_okI 100 e.1 e.2) = true := by decide +kernel
theorem sn_ok101 : am_K101.all (fun e => sn_okI 101 e.1 e.2) = true := by decide +kernel
theorem sn_ok102 : am_K102.all (fun e => sn_okI 102 e.1 e.2) = true := by decide +kernel
theorem sn_ok103 : am_K103.all (fun e => sn_okI 103 e.1 e.2) = true := by decide +kernel
theorem sn_ok104 : am_K104.all (fun e => sn_okI 104 e.1 e.2) = true := by decide +kernel
theorem sn_ok105 : am_K105.all (fun e => sn_okI 105 e.1 e.2) = true := by decide +kernel
theorem sn_ok106 : am_K106.all (fun e => sn_okI 106 e.1 e.2) = true := by decide +kernel
theorem sn_ok107 : am_K107.all (fun e => sn_okI 107 e.1 e.2) = true := by decide +kernel
theorem sn_ok108 : am_K108.all (fun e => sn_okI 108 e.1 e.2) = true := by decide +kernel
theorem sn_ok109 : am_K109.all (fun e => sn_okI 109 e.1 e.2) = true := by decide +kernel
theorem sn_ok110 : am_K110.all (fun e => sn_okI 110 e.1 e.2) = true := by decide +kernel
theorem sn_ok111 : am_K111.all (fun e => sn_okI 111 e.1 e.2) = true := by decide +kernel
theorem sn_ok112 : am_K112.all (fun e => sn_okI 112 e.1 e.2) = true := by decide +kernel
theorem sn_ok113 : am_K113.all (fun e => sn_okI 113 e.1 e.2) = true := by decide +kernel
theorem sn_ok114 : am_K114.all (fun e => sn_okI 114 e.1 e.2) = true := by decide +kernel
theorem sn_ok115 : am_K115.all (fun e => sn_okI 115 e.1 e.2) = true := by decide +kernel
theorem sn_ok116 : am_K116.all (fun e => sn_okI 116 e.1 e.2) = true := by decide +kernel
theorem sn_ok117 : am_K117.all (fun e => sn_okI 117 e.1 e.2) = true := by decide +kernel
theorem sn_ok118 : am_K118.all (fun e => sn_okI 118 e.1 e.2) = true := by decide +kernel
theorem sn_ok119 : am_K119.all (fun e => sn_okI 119 e.1 e.2) = true := by decide +kernel
theorem sn_ok120 : am_K120.all (fun e => sn_okI 120 e.1 e.2) = true := by decide +kernel
theorem sn_ok121 : am_K121.all (fun e => sn_okI 121 e.1 e.2) = true := by decide +kernel
theorem sn_ok122 : am_K122.all (fun e => sn_okI 122 e.1 e.2) = true := by decide +kernel
theorem sn_ok123 : am_K123.all (fun e => sn_okI 123 e.1 e.2) = true := by decide +kernel
theorem sn_ok124 : am_K124.all (fun e => sn_okI 124 e.1 e.2) = true := by decide +kernel
theorem sn_ok125 : am_K125.all (fun e => sn_okI 125 e.1 e.2) = true := by decide +kernel
theorem sn_ok126 : am_K126.all (fun e => sn_okI 126 e.1 e.2) = true := by decide +kernel
theorem sn_ok127 : am_K127.all (fun e => sn_okI 127 e.1 e.2) = true := by decide +kernel
theorem sn_ok128 : am_K128.all (fun e => sn_okI 128 e.1 e.2) = true := by decide +kernel
theorem sn_ok129 : am_K129.all (fun e => sn_okI 129 e.1 e.2) = true := by decide +kernel
theorem sn_ok130 : am_K130.all (fun e => sn_okI 130 e.1 e.2) = true := by decide +kernel
theorem sn_ok131 : am_K131.all (fun e => sn_okI 131 e.1 e.2) = true := by decide +kernel
theorem sn_ok132 : am_K132.all (fun e => sn_okI 132 e.1 e.2) = true := by decide +kernel
theorem sn_ok133 : am_K133.all (fun e => sn_okI 133 e.1 e.2) = true := by decide +kernel
theorem sn_ok134 : am_K134.all (fun e => sn_okI 134 e.1 e.2) = true := by decide +kernel
theorem sn_ok135 : am_K135.all (fun e => sn_okI 135 e.1 e.2) = true := by decide +kernel
theorem sn_ok136 : am_K136.all (fun e => sn_okI 136 e.1 e.2) = true := by decide +kernel
theorem sn_ok137 : am_K137.all (fun e => sn_okI 137 e.1 e.2) = true := by decide +kernel
theorem sn_ok138 : am_K138.all (fun e => sn_okI 138 e.1 e.2) = true := by decide +kernel
theorem sn_ok139 : am_K139.all (fun e => sn_okI 139 e.1 e.2) = true := by decide +kernel
theorem sn_ok140 : am_K140.all (fun e => sn_okI 140 e.1 e.2) = true := by decide +kernel
theorem sn_ok141 : am_K141.all (fun e => sn_okI 141 e.1 e.2) = true := by decide +kernel
theorem sn_ok142 : am_K142.all (fun e => sn_okI 142 e.1 e.2) = true := by decide +kernel
theorem sn_ok143 : am_K143.all (fun e => sn_okI 143 e.1 e.2) = true := by decide +kernel
theorem sn_ok144 : am_K144.all (fun e => sn_okI 144 e.1 e.2) = true := by decide +kernel
theorem sn_ok145 : am_K145.all (fun e => sn_okI 145 e.1 e.2) = true := by decide +kernel
theorem sn_ok146 : am_K146.all (fun e => sn_okI 146 e.1 e.2) = true := by decide +kernel
theorem sn_ok147 : am_K147.all (fun e => sn_okI 147 e.1 e.2) = true := by decide +kernel
theorem sn_ok148 : am_K148.all (fun e => sn_okI 148 e.1 e.2) = true := by decide +kernel
theorem sn_ok149 : am_K149.all (fun e => sn_okI 149 e.1 e.2) = true := by decide +kernel
theorem sn_ok150 : am_K150.all (fun e => sn_okI 150 e.1 e.2) = true := by decide +kernel
theorem sn_ok151 : am_K151.all (fun e => sn_okI 151 e.1 e.2) = true := by decide +kernel
theorem sn_ok152 : am_K152.all (fun e => sn_okI 152 e.1 e.2) = true := by decide +kernel
theorem sn_ok153 : am_K153.all (fun e => sn_okI 153 e.1 e.2) = true := by decide +kernel
theorem sn_ok154 : am_K154.all (fun e => sn_okI 154 e.1 e.2) = true := by decide +kernel
theorem sn_ok155 : am_K155.all (fun e => sn_okI 155 e.1 e.2) = true := by decide +kernel
theorem sn_ok156 : am_K156.all (fun e => sn_okI 156 e.1 e.2) = true := by decide +kernel
theorem sn_ok157 : am_K157.all (fun e => sn_okI 157 e.1 e.2) = true := by decide +kernel
theorem sn_ok158 : am_K158.all (fun e => sn_okI 158 e.1 e.2) = true := by decide +kernel
theorem sn_ok159 : am_K159.all (fun e => sn_okI 159 e.1 e.2) = true := by decide +kernel
theorem sn_ok160 : am_K160.all (fun e => sn_okI 160 e.1 e.2) = true := by decide +kernel
theorem sn_ok161 : am_K161.all (fun e => sn_okI 161 e.1 e.2) = true := by decide +kernel
theorem sn_ok162 : am_K162.all (fun e => sn_okI 162 e.1 e.2) = true := by decide +kernel
theorem sn_ok163 : am_K163.all (fun e => sn_okI 163 e.1 e.2) = true := by decide +kernel
theorem sn_ok165 : am_K165.all (fun e => sn_okI 165 e.1 e.2) = true := by decide +kernel
theorem sn_ok166 : am_K166.all (fun e => sn_okI 166 e.1 e.2) = true := by decide +kernel
theorem sn_ok167 : am_K167.all (fun e => sn_okI 167 e.1 e.2) = true := by decide +kernel
theorem sn_ok168 : am_K168.all (fun e => sn_okI 168 e.1 e.2) = true := by decide +kernel
theorem sn_ok169 : am_K169.all (fun e => sn_okI 169 e.1 e.2) = true := by decide +kernel
theorem sn_ok170 : am_K170.all (fun e => sn_okI 170 e.1 e.2) = true := by decide +kernel
theorem sn_ok171 : am_K171.all (fun e => sn_okI 171 e.1 e.2) = true := by decide +kernel
theorem sn_ok172 : am_K172.all (fun e => sn_okI 172 e.1 e.2) = true := by decide +kernel
theorem sn_ok173 : am_K173.all (fun e => sn_okI 173 e.1 e.2) = true := by decide +kernel
theorem sn_ok174 : am_K174.all (fun e => sn_okI 174 e.1 e.2) = true := by decide +kernel
theorem sn_ok175 : am_K175.all (fun e => sn_okI 175 e.1 e.2) = true := by decide +kernel
theorem sn_ok176 : am_K176.all (fun e => sn_okI 176 e.1 e.2) = true := by decide +kernel
theorem sn_ok177 : am_K177.all (fun e => sn_okI 177 e.1 e.2) = true := by decide +kernel
theorem sn_ok178 : am_K178.all (fun e => sn_okI 178 e.1 e.2) = true := by decide +kernel
theorem sn_ok179 : am_K179.all (fun e => sn_okI 179 e.1 e.2) = true := by decide +kernel
theorem sn_ok180 : am_K180.all (fun e => sn_okI 180 e.1 e.2) = true := by decide +kernel
theorem sn_ok181 : am_K181.all (fun e => sn_okI 181 e.1 e.2) = true := by decide +kernel
theorem sn_ok182 : am_K182.all (fun e => sn_okI 182 e.1 e.2) = true := by decide +kernel
theorem sn_ok183 : am_K183.all (fun e => sn_okI 183 e.1 e.2) = true := by decide +kernel
theorem sn_ok184 : am_K184.all (fun e => sn_okI 184 e.1 e.2) = true := by decide +kernel
theorem sn_ok185 : am_K185.all (fun e => sn_okI 185 e.1 e.2) = true := by decide +kernel
theorem sn_ok186 : am_K186.all (fun e => sn_okI 186 e.1 e.2) = true := by decide +kernel
theorem sn_ok187 : am_K187.all (fun e => sn_okI 187 e.1 e.2) = true := by decide +kernel
theorem sn_ok188 : am_K188.all (fun e => sn_okI 188 e.1 e.2) = true := by decide +kernel
theorem sn_ok189 : am_K189.all (fun e => sn_okI 189 e.1 e.2) = true := by decide +kernel
theorem sn_ok190 : am_K190.all (fun e => sn_okI 190 e.1 e.2) = true := by decide +kernel
theorem sn_ok191 : am_K191.all (fun e => sn_okI 191 e.1 e.2) = true := by decide +kernel
theorem sn_ok192 : am_K192.all (fun e => sn_okI 192 e.1 e.2) = true := by decide +kernel
theorem sn_ok193 : am_K193.all (fun e => sn_okI 193 e.1 e.2) = true := by decide +kernel
theorem sn_ok194 : am_K194.all (fun e => sn_okI 194 e.1 e.2) = true := by decide +kernel
theorem sn_ok195 : am_K195.all (fun e => sn_okI 195 e.1 e.2) = true := by decide +kernel
theorem sn_ok196 : am_K196.all (fun e => sn_okI 196 e.1 e.2) = true := by decide +kernel
theorem sn_ok198 : am_K198.all (fun e => sn_okI 198 e.1 e.2) = true := by decide +kernel
theorem sn_ok200 : am_K200.all (fun e => sn_okI 200 e.1 e.2) = true := by decide +kernel
theorem sn_ok201 : am_K201.all (fun e => sn_okI 201 e.1 e.2) = true := by decide +kernel
theorem sn_ok202 : am_K202.all (fun e => sn_okI 202 e.1 e.2) = true := by decide +kernel
theorem sn_ok203 : am_K203.all (fun e => sn_okI 203 e.1 e.2) = true := by decide +kernel
theorem sn_ok204 : am_K204.all (fun e => sn_okI 204 e.1 e.2) = true := by decide +kernel
theorem sn_ok205 : am_K205.all (fun e => sn_okI 205 e.1 e.2) = true := by decide +kernel
theorem sn_ok206 : am_K206.all (fun e => sn_okI 206 e.1 e.2) = true := by decide +kernel
theorem sn_ok207 : am_K207.all (fun e => sn_okI 207 e.1 e.2) = true := by decide +kernel
theorem sn_ok208 : am_K208.all (fun e => sn_okI 208 e.1 e.2) = true := by decide +kernel
theorem sn_ok209 : am_K209.all (fun e => sn_okI 209 e.1 e.2) = true := by decide +kernel
theorem sn_ok210 : am_K210.all (fun e => sn_okI 210 e.1 e.2) = true := by decide +kernel
theorem sn_ok211 : am_K211.all (fun e => sn_okI 211 e.1 e.2) = true := by decide +kernel
theorem sn_ok212 : am_K212.all (fun e => sn_okI 212 e.1 e.2) = true := by decide +kernel
theorem sn_ok213 : am_K213.all (fun e => sn_okI 213 e.1 e.2) = true := by decide +kernel
theorem sn_ok214 : am_K214.all (fun e => sn_okI 214 e.1 e.2) = true := by decide +kernel
theorem sn_ok215 : am_K215.all (fun e => sn_okI 215 e.1 e.2) = true := by decide +kernel
theorem sn_ok216 : am_K216.all (fun e => sn_okI 216 e.1 e.2) = true := by decide +kernel
theorem sn_ok217 : am_K217.all (fun e => sn_okI 217 e.1 e.2) = true := by decide +kernel
theorem sn_ok218 : am_K218.all (fun e => sn_okI 218 e.1 e.2) = true := by decide +kernel
theorem sn_ok219 : am_K219.all (fun e => sn_okI 219 e.1 e.2) = true := by decide +kernel
theorem sn_ok220 : am_K220.all (fun e => sn_okI 220 e.1 e.2) = true := by decide +kernel
theorem sn_ok221 : am_K221.all (fun e => sn_okI 221 e.1 e.2) = true := by decide +kernel
theorem sn_ok222 : am_K222.all (fun e => sn_okI 222 e.1 e.2) = true := by decide +kernel
theorem sn_ok223 : am_K223.all (fun e => sn_okI 223 e.1 e.2) = true := by decide +kernel
theorem sn_ok224 : am_K224.all (fun e => sn_okI 224 e.1 e.2) = true := by decide +kernel
theorem sn_ok225 : am_K225.all (fun e => sn_okI 225 e.1 e.2) = true := by decide +kernel
theorem sn_ok226 : am_K226.all (fun e => sn_okI 226 e.1 e.2) = true := by decide +kernel
theorem sn_ok227 : am_K227.all (fun e => sn_okI 227 e.1 e.2) = true := by decide +kernel
theorem sn_ok228 : am_K228.all (fun e => sn_okI 228 e.1 e.2) = true := by decide +kernel
theorem sn_ok229 : am_K229.all (fun e => sn_okI 229 e.1 e.2) = true := by decide +kernel
theorem sn_ok230 : am_K230.all (fun e => sn_okI 230 e.1 e.2) = true := by decide +kernel
theorem sn_ok231 : am_K231.all (fun e => sn_okI 231 e.1 e.2) = true := by decide +kernel
theorem sn_ok232 : am_K232.all (fun e => sn_okI 232 e.1 e.2) = true := by decide +kernel
theorem sn_ok233 : am_K233.all (fun e => sn_okI 233 e.1 e.2) = true := by decide +kernel
theorem sn_ok234 : am_K234.all (fun e => sn_okI 234 e.1 e.2) = true := by decide +kernel
theorem sn_ok235 : am_K235.all (fun e => sn_okI 235 e.1 e.2) = true := by decide +kernel
theorem sn_ok236 : am_K236.all (fun e => sn_okI 236 e.1 e.2) = true := by decide +kernel
theorem sn_ok237 : am_K237.all (fun e => sn_okI 237 e.1 e.2) = true := by decide +kernel
theorem sn_ok238 : am_K238.all (fun e => sn_okI 238 e.1 e.2) = true := by decide +kernel
theorem sn_ok239 : am_K239.all (fun e => sn_okI 239 e.1 e.2) = true := by decide +kernel
theorem sn_ok240 : am_K240.all (fun e => sn_okI 240 e.1 e.2) = true := by decide +kernel
theorem sn_ok241 : am_K241.all (fun e => sn_okI 241 e.1 e.2) = true := by decide +kernel
theorem sn_ok242 : am_K242.all (fun e => sn_okI 242 e.1 e.2) = true := by decide +kernel
theorem sn_ok243 : am_K243.all (fun e => sn_okI 243 e.1 e.2) = true := by decide +kernel
theorem sn_ok244 : am_K244.all (fun e => sn_okI 244 e.1 e.2) = true := by decide +kernel
theorem sn_ok245 : am_K245.all (fun e => sn_okI 245 e.1 e.2) = true := by decide +kernel
theorem sn_ok246 : am_K246.all (fun e => sn_okI 246 e.1 e.2) = true := by decide +kernel
theorem sn_ok247 : am_K247.all (fun e => sn_okI 247 e.1 e.2) = true := by decide +kernel
theorem sn_ok248 : am_K248.all (fun e => sn_okI 248 e.1 e.2) = true := by decide +kernel
theorem sn_ok249 : am_K249.all (fun e => sn_okI 249 e.1 e.2) = true := by decide +kernel
theorem sn_ok250 : am_K250.all (fun e => sn_okI 250 e.1 e.2) = true := by decide +kernel
theorem sn_ok251 : am_K251.all (fun e => sn_okI 251 e.1 e.2) = true := by decide +kernel
theorem sn_ok252 : am_K252.all (fun e => sn_okI 252 e.1 e.2) = true := by decide +kernel
theorem sn_ok253 : am_K253.all (fun e => sn_okI 253 e.1 e.2) = true := by decide +kernel
