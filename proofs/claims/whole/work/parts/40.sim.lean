/-! ===== helpers to run the abstract machine by equations ===== -/
theorem as_mt {X : List Int32} {f : Nat} {As : List Value} {M : am_Mem} {n : Nat} (hn : am_nL f = n) : am_mt X f As M = am_go X f 0 (am_ent n As) [] M := by
  unfold am_mt; rw [hn]
theorem as_set {α : Type} {M : List α} {t : Nat} {o x : α} (h : M[t]? = some o) : (M.set t x)[t]? = some x := by
  have := (List.getElem?_eq_some_iff.mp h).1
  simp [this]
theorem as_sne {α : Type} {M : List α} {t u : Nat} {x : α} (h : ¬ t = u) : (M.set t x)[u]? = M[u]? := by
  simp [h]
theorem as_app {α : Type} {M N : List α} {t : Nat} {o : α} (h : M[t]? = some o) : (M ++ N)[t]? = some o := by
  have := (List.getElem?_eq_some_iff.mp h).1
  rw [List.getElem?_append_left this]; exact h
theorem as_pos {k : Nat} (h : k < 2147483648) : ¬ (Int32.ofNat k < 0) := by
  have h1 : (Int32.ofNat k).toInt = k := by
    rw [Int32.toInt_ofNat_of_lt (by omega)]
  intro hc
  rw [Int32.lt_iff_toInt_lt, h1] at hc
  simp at hc
  omega
theorem as_nat {k : Nat} (h : k < 2147483648) : (Int32.ofNat k).toNatClampNeg = k := by
  show (Int32.ofNat k).toInt.toNat = k
  rw [Int32.toInt_ofNat_of_lt (by omega)]
  rfl
theorem as_ofN {x : Int32} (h : ¬ x < 0) : ∃ k : Nat, k < 2147483648 ∧ x = Int32.ofNat k := by
  refine ⟨x.toInt.toNat, ?_, ?_⟩
  · have := x.toInt_lt
    omega
  · have h0 : 0 ≤ x.toInt := by
      rw [Int32.lt_iff_toInt_lt] at h
      simpa using h
    apply Int32.toInt_inj.mp
    have := x.toInt_lt
    rw [Int32.toInt_ofNat_of_lt (by omega)]
    omega
theorem as_lt {a b : Nat} (ha : a < 2147483648) (hb : b < 2147483648) : (Int32.ofNat a < Int32.ofNat b) ↔ a < b := by
  rw [Int32.lt_iff_toInt_lt, Int32.toInt_ofNat_of_lt (by omega), Int32.toInt_ofNat_of_lt (by omega)]
  omega
theorem as_le {a b : Nat} (ha : a < 2147483648) (hb : b < 2147483648) : (Int32.ofNat a ≤ Int32.ofNat b) ↔ a ≤ b := by
  rw [Int32.le_iff_toInt_le, Int32.toInt_ofNat_of_lt (by omega), Int32.toInt_ofNat_of_lt (by omega)]
  omega
theorem as_eq {a b : Nat} (ha : a < 2147483648) (hb : b < 2147483648) : (Int32.ofNat a = Int32.ofNat b) ↔ a = b := by
  constructor
  · intro h
    have := congrArg Int32.toInt h
    rw [Int32.toInt_ofNat_of_lt (by omega), Int32.toInt_ofNat_of_lt (by omega)] at this
    omega
  · intro h; rw [h]
theorem as_add {a b : Nat} : Int32.ofNat a + Int32.ofNat b = Int32.ofNat (a + b) := (Int32.ofNat_add a b).symm
theorem as_sub {a b : Nat} (h : b ≤ a) : Int32.ofNat a - Int32.ofNat b = Int32.ofNat (a - b) := by
  have : Int32.ofNat a = Int32.ofNat (a - b) + Int32.ofNat b := by rw [as_add, Nat.sub_add_cancel h]
  rw [this]
  simp
theorem as_mul {a b : Nat} : Int32.ofNat a * Int32.ofNat b = Int32.ofNat (a * b) := (Int32.ofNat_mul a b).symm
theorem as_z2 : ((2 : Int32) = 0) ↔ False := by decide
theorem as_z6 : ((6 : Int32) = 0) ↔ False := by decide
theorem as_z1000 : ((1000 : Int32) = 0) ↔ False := by decide
theorem as_z10000 : ((10000 : Int32) = 0) ↔ False := by decide
theorem as_rot {p u : Nat} (hp : p < 6) (hu : u < 6) : Int32.ofNat p - Int32.ofNat u + 6 - (Int32.ofNat p - Int32.ofNat u + 6) / 6 * 6 = Int32.ofNat ((p + 6 - u) % 6) := by
  have : ∀ p, p < 6 → ∀ u, u < 6 → Int32.ofNat p - Int32.ofNat u + 6 - (Int32.ofNat p - Int32.ofNat u + 6) / 6 * 6 = Int32.ofNat ((p + 6 - u) % 6) := by decide +kernel
  exact this p hp u hu
theorem as_10 : ((1 : Int32) = 0) ↔ False := by decide
theorem as_01 : ((0 : Int32) = 1) ↔ False := by decide
theorem as_rif {C : Prop} [Decidable C] {A B : Int32} {M : am_Mem} : (if C then (some (some (.int A), M) : Option am_V) else some (some (.int B), M)) = some (some (.int (if C then A else B)), M) := by split <;> rfl
