theorem md_e_o {xs : List Int64} {n q : Nat} (h : n ≤ q) : md_e xs n q = -1 := by
  unfold md_e
  rw [if_neg (by omega)]
theorem lk_a0 {el : Nat → Int32} {p : Nat} : (md_tx el [112, 108, 97, 121, 101, 114, 32] p) = if (md_tx el [112, 108, 97, 121, 101, 114] p) = 6 then 6 + (if el (p + 6) = 32 then 1 else 0) else (md_tx el [112, 108, 97, 121, 101, 114] p) := md_tx_app [112, 108, 97, 121, 101, 114] p
theorem lk_b0 {el : Nat → Int32} {p : Nat} : (md_tx el [112, 108, 97, 121, 101, 114] p) ≤ 6 := md_tx_le [112, 108, 97, 121, 101, 114] p
theorem lk_l0 {el : Nat → Int32} {p : Nat} (h : ¬ (md_tx el [112, 108, 97, 121, 101, 114] p) = 6) : ¬ (md_tx el [112, 108, 97, 121, 101, 114, 32] p) = 7 := by
  have b := lk_b0 (el := el) (p := p)
  rw [lk_a0, if_neg h]
  omega
theorem lk_k0 {el : Nat → Int32} {p : Nat} (h : (md_tx el [112, 108, 97, 121, 101, 114] p) = 6) (h2 : el (p + 6) = 32) : (md_tx el [112, 108, 97, 121, 101, 114, 32] p) = 7 := by
  rw [lk_a0, if_pos h, if_pos h2]
theorem lk_a1 {el : Nat → Int32} {p : Nat} : (md_tx el [111, 110, 32] p) = if (md_tx el [111, 110] p) = 2 then 2 + (if el (p + 2) = 32 then 1 else 0) else (md_tx el [111, 110] p) := md_tx_app [111, 110] p
theorem lk_b1 {el : Nat → Int32} {p : Nat} : (md_tx el [111, 110] p) ≤ 2 := md_tx_le [111, 110] p
theorem lk_l1 {el : Nat → Int32} {p : Nat} (h : ¬ (md_tx el [111, 110] p) = 2) : ¬ (md_tx el [111, 110, 32] p) = 3 := by
  have b := lk_b1 (el := el) (p := p)
  rw [lk_a1, if_neg h]
  omega
theorem lk_k1 {el : Nat → Int32} {p : Nat} (h : (md_tx el [111, 110] p) = 2) (h2 : el (p + 2) = 32) : (md_tx el [111, 110, 32] p) = 3 := by
  rw [lk_a1, if_pos h, if_pos h2]
theorem lk_b2 {el : Nat → Int32} {p : Nat} : (md_tx el [116, 117, 114, 110] p) ≤ 4 := md_tx_le [116, 117, 114, 110] p
theorem lk_l2 {el : Nat → Int32} {p : Nat} (h : ¬ (md_tx el [116, 117, 114, 110] p) = 4) : ¬ (md_tx el [116, 117, 114, 110] p) = 4 := by
  exact h
theorem lk_a3 {el : Nat → Int32} {p : Nat} : (md_tx el [98, 108, 111, 99, 107, 32] p) = if (md_tx el [98, 108, 111, 99, 107] p) = 5 then 5 + (if el (p + 5) = 32 then 1 else 0) else (md_tx el [98, 108, 111, 99, 107] p) := md_tx_app [98, 108, 111, 99, 107] p
theorem lk_b3 {el : Nat → Int32} {p : Nat} : (md_tx el [98, 108, 111, 99, 107] p) ≤ 5 := md_tx_le [98, 108, 111, 99, 107] p
theorem lk_l3 {el : Nat → Int32} {p : Nat} (h : ¬ (md_tx el [98, 108, 111, 99, 107] p) = 5) : ¬ (md_tx el [98, 108, 111, 99, 107, 32] p) = 6 := by
  have b := lk_b3 (el := el) (p := p)
  rw [lk_a3, if_neg h]
  omega
theorem lk_k3 {el : Nat → Int32} {p : Nat} (h : (md_tx el [98, 108, 111, 99, 107] p) = 5) (h2 : el (p + 5) = 32) : (md_tx el [98, 108, 111, 99, 107, 32] p) = 6 := by
  rw [lk_a3, if_pos h, if_pos h2]
theorem lk_a4 {el : Nat → Int32} {p : Nat} : (md_tx el [115, 101, 114, 118, 101, 32] p) = if (md_tx el [115, 101, 114, 118, 101] p) = 5 then 5 + (if el (p + 5) = 32 then 1 else 0) else (md_tx el [115, 101, 114, 118, 101] p) := md_tx_app [115, 101, 114, 118, 101] p
theorem lk_b4 {el : Nat → Int32} {p : Nat} : (md_tx el [115, 101, 114, 118, 101] p) ≤ 5 := md_tx_le [115, 101, 114, 118, 101] p
theorem lk_l4 {el : Nat → Int32} {p : Nat} (h : ¬ (md_tx el [115, 101, 114, 118, 101] p) = 5) : ¬ (md_tx el [115, 101, 114, 118, 101, 32] p) = 6 := by
  have b := lk_b4 (el := el) (p := p)
  rw [lk_a4, if_neg h]
  omega
theorem lk_k4 {el : Nat → Int32} {p : Nat} (h : (md_tx el [115, 101, 114, 118, 101] p) = 5) (h2 : el (p + 5) = 32) : (md_tx el [115, 101, 114, 118, 101, 32] p) = 6 := by
  rw [lk_a4, if_pos h, if_pos h2]
theorem lk_a5 {el : Nat → Int32} {p : Nat} : (md_tx el [98, 114, 101, 97, 107, 32] p) = if (md_tx el [98, 114, 101, 97, 107] p) = 5 then 5 + (if el (p + 5) = 32 then 1 else 0) else (md_tx el [98, 114, 101, 97, 107] p) := md_tx_app [98, 114, 101, 97, 107] p
theorem lk_b5 {el : Nat → Int32} {p : Nat} : (md_tx el [98, 114, 101, 97, 107] p) ≤ 5 := md_tx_le [98, 114, 101, 97, 107] p
theorem lk_l5 {el : Nat → Int32} {p : Nat} (h : ¬ (md_tx el [98, 114, 101, 97, 107] p) = 5) : ¬ (md_tx el [98, 114, 101, 97, 107, 32] p) = 6 := by
  have b := lk_b5 (el := el) (p := p)
  rw [lk_a5, if_neg h]
  omega
theorem lk_k5 {el : Nat → Int32} {p : Nat} (h : (md_tx el [98, 114, 101, 97, 107] p) = 5) (h2 : el (p + 5) = 32) : (md_tx el [98, 114, 101, 97, 107, 32] p) = 6 := by
  rw [lk_a5, if_pos h, if_pos h2]
theorem lk_a6 {el : Nat → Int32} {p : Nat} : (md_tx el [103, 111, 97, 108, 32] p) = if (md_tx el [103, 111, 97, 108] p) = 4 then 4 + (if el (p + 4) = 32 then 1 else 0) else (md_tx el [103, 111, 97, 108] p) := md_tx_app [103, 111, 97, 108] p
theorem lk_b6 {el : Nat → Int32} {p : Nat} : (md_tx el [103, 111, 97, 108] p) ≤ 4 := md_tx_le [103, 111, 97, 108] p
theorem lk_l6 {el : Nat → Int32} {p : Nat} (h : ¬ (md_tx el [103, 111, 97, 108] p) = 4) : ¬ (md_tx el [103, 111, 97, 108, 32] p) = 5 := by
  have b := lk_b6 (el := el) (p := p)
  rw [lk_a6, if_neg h]
  omega
theorem lk_k6 {el : Nat → Int32} {p : Nat} (h : (md_tx el [103, 111, 97, 108] p) = 4) (h2 : el (p + 4) = 32) : (md_tx el [103, 111, 97, 108, 32] p) = 5 := by
  rw [lk_a6, if_pos h, if_pos h2]
theorem lk_a7 {el : Nat → Int32} {p : Nat} : (md_tx el [114, 97, 108, 108, 121, 32] p) = if (md_tx el [114, 97, 108, 108, 121] p) = 5 then 5 + (if el (p + 5) = 32 then 1 else 0) else (md_tx el [114, 97, 108, 108, 121] p) := md_tx_app [114, 97, 108, 108, 121] p
theorem lk_b7 {el : Nat → Int32} {p : Nat} : (md_tx el [114, 97, 108, 108, 121] p) ≤ 5 := md_tx_le [114, 97, 108, 108, 121] p
theorem lk_l7 {el : Nat → Int32} {p : Nat} (h : ¬ (md_tx el [114, 97, 108, 108, 121] p) = 5) : ¬ (md_tx el [114, 97, 108, 108, 121, 32] p) = 6 := by
  have b := lk_b7 (el := el) (p := p)
  rw [lk_a7, if_neg h]
  omega
theorem lk_k7 {el : Nat → Int32} {p : Nat} (h : (md_tx el [114, 97, 108, 108, 121] p) = 5) (h2 : el (p + 5) = 32) : (md_tx el [114, 97, 108, 108, 121, 32] p) = 6 := by
  rw [lk_a7, if_pos h, if_pos h2]
theorem lk_n {el : Nat → Int32} {p : Nat} (g0 : ¬ (md_tx el [112, 108, 97, 121, 101, 114] p) = 6) (g1 : ¬ (md_tx el [111, 110] p) = 2) (g2 : ¬ (md_tx el [116, 117, 114, 110] p) = 4) (g3 : ¬ (md_tx el [98, 108, 111, 99, 107] p) = 5) (g4 : ¬ (md_tx el [115, 101, 114, 118, 101] p) = 5) (g5 : ¬ (md_tx el [98, 114, 101, 97, 107] p) = 5) (g6 : ¬ (md_tx el [103, 111, 97, 108] p) = 4) (g7 : ¬ (md_tx el [114, 97, 108, 108, 121] p) = 5) : (max (max (max (max (max (max (max (max p (p + (md_tx el [112, 108, 97, 121, 101, 114, 32] p))) (p + (md_tx el [111, 110, 32] p))) (p + (md_tx el [116, 117, 114, 110] p))) (p + (md_tx el [98, 108, 111, 99, 107, 32] p))) (p + (md_tx el [115, 101, 114, 118, 101, 32] p))) (p + (md_tx el [98, 114, 101, 97, 107, 32] p))) (p + (md_tx el [103, 111, 97, 108, 32] p))) (p + (md_tx el [114, 97, 108, 108, 121, 32] p))) = p + (max (max (max (max (max (max (max (max 0 (md_tx el [112, 108, 97, 121, 101, 114] p)) (md_tx el [111, 110] p)) (md_tx el [116, 117, 114, 110] p)) (md_tx el [98, 108, 111, 99, 107] p)) (md_tx el [115, 101, 114, 118, 101] p)) (md_tx el [98, 114, 101, 97, 107] p)) (md_tx el [103, 111, 97, 108] p)) (md_tx el [114, 97, 108, 108, 121] p)) := by
  have e0 : (md_tx el [112, 108, 97, 121, 101, 114, 32] p) = (md_tx el [112, 108, 97, 121, 101, 114] p) := by rw [lk_a0, if_neg g0]
  have e1 : (md_tx el [111, 110, 32] p) = (md_tx el [111, 110] p) := by rw [lk_a1, if_neg g1]
  have e3 : (md_tx el [98, 108, 111, 99, 107, 32] p) = (md_tx el [98, 108, 111, 99, 107] p) := by rw [lk_a3, if_neg g3]
  have e4 : (md_tx el [115, 101, 114, 118, 101, 32] p) = (md_tx el [115, 101, 114, 118, 101] p) := by rw [lk_a4, if_neg g4]
  have e5 : (md_tx el [98, 114, 101, 97, 107, 32] p) = (md_tx el [98, 114, 101, 97, 107] p) := by rw [lk_a5, if_neg g5]
  have e6 : (md_tx el [103, 111, 97, 108, 32] p) = (md_tx el [103, 111, 97, 108] p) := by rw [lk_a6, if_neg g6]
  have e7 : (md_tx el [114, 97, 108, 108, 121, 32] p) = (md_tx el [114, 97, 108, 108, 121] p) := by rw [lk_a7, if_neg g7]
  rw [e0, e1, e3, e4, e5, e6, e7]
  omega
theorem lk_x0 {el : Nat → Int32} {p : Nat} (h : (md_tx el [112, 108, 97, 121, 101, 114] p) = 6) (h2 : ¬ el (p + 6) = 32) : (¬ (md_tx el [112, 108, 97, 121, 101, 114, 32] p) = 7) ∧ (¬ (md_tx el [111, 110, 32] p) = 3) ∧ (¬ (md_tx el [116, 117, 114, 110] p) = 4) ∧ (¬ (md_tx el [98, 108, 111, 99, 107, 32] p) = 6) ∧ (¬ (md_tx el [115, 101, 114, 118, 101, 32] p) = 6) ∧ (¬ (md_tx el [98, 114, 101, 97, 107, 32] p) = 6) ∧ (¬ (md_tx el [103, 111, 97, 108, 32] p) = 5) ∧ (¬ (md_tx el [114, 97, 108, 108, 121, 32] p) = 6) ∧ (max (max (max (max (max (max (max (max p (p + (md_tx el [112, 108, 97, 121, 101, 114, 32] p))) (p + (md_tx el [111, 110, 32] p))) (p + (md_tx el [116, 117, 114, 110] p))) (p + (md_tx el [98, 108, 111, 99, 107, 32] p))) (p + (md_tx el [115, 101, 114, 118, 101, 32] p))) (p + (md_tx el [98, 114, 101, 97, 107, 32] p))) (p + (md_tx el [103, 111, 97, 108, 32] p))) (p + (md_tx el [114, 97, 108, 108, 121, 32] p))) = p + 6 := by
  have e0 : el p = Int32.ofNat 112 := by
    apply Classical.byContradiction; intro hc
    rw [md_tx, if_neg hc] at h
    cases h
  have e1 : el (p + 1) = Int32.ofNat 108 := by
    apply Classical.byContradiction; intro hc
    rw [md_tx, if_pos e0, md_tx, if_neg hc] at h
    cases h
  have ew : (md_tx el [112, 108, 97, 121, 101, 114, 32] p) = 6 := by rw [lk_a0, if_pos h, if_neg h2]
  have e_1 : (md_tx el [111, 110, 32] p) = 0 := by rw [md_tx, if_neg (by rw [e0]; decide)]
  have e_2 : (md_tx el [116, 117, 114, 110] p) = 0 := by rw [md_tx, if_neg (by rw [e0]; decide)]
  have e_3 : (md_tx el [98, 108, 111, 99, 107, 32] p) = 0 := by rw [md_tx, if_neg (by rw [e0]; decide)]
  have e_4 : (md_tx el [115, 101, 114, 118, 101, 32] p) = 0 := by rw [md_tx, if_neg (by rw [e0]; decide)]
  have e_5 : (md_tx el [98, 114, 101, 97, 107, 32] p) = 0 := by rw [md_tx, if_neg (by rw [e0]; decide)]
  have e_6 : (md_tx el [103, 111, 97, 108, 32] p) = 0 := by rw [md_tx, if_neg (by rw [e0]; decide)]
  have e_7 : (md_tx el [114, 97, 108, 108, 121, 32] p) = 0 := by rw [md_tx, if_neg (by rw [e0]; decide)]
  rw [ew, e_1, e_2, e_3, e_4, e_5, e_6, e_7]
  refine ⟨by decide, by decide, by decide, by decide, by decide, by decide, by decide, by decide, ?_⟩
  omega

theorem lk_x1 {el : Nat → Int32} {p : Nat} (h : (md_tx el [111, 110] p) = 2) (h2 : ¬ el (p + 2) = 32) : (¬ (md_tx el [112, 108, 97, 121, 101, 114, 32] p) = 7) ∧ (¬ (md_tx el [111, 110, 32] p) = 3) ∧ (¬ (md_tx el [116, 117, 114, 110] p) = 4) ∧ (¬ (md_tx el [98, 108, 111, 99, 107, 32] p) = 6) ∧ (¬ (md_tx el [115, 101, 114, 118, 101, 32] p) = 6) ∧ (¬ (md_tx el [98, 114, 101, 97, 107, 32] p) = 6) ∧ (¬ (md_tx el [103, 111, 97, 108, 32] p) = 5) ∧ (¬ (md_tx el [114, 97, 108, 108, 121, 32] p) = 6) ∧ (max (max (max (max (max (max (max (max p (p + (md_tx el [112, 108, 97, 121, 101, 114, 32] p))) (p + (md_tx el [111, 110, 32] p))) (p + (md_tx el [116, 117, 114, 110] p))) (p + (md_tx el [98, 108, 111, 99, 107, 32] p))) (p + (md_tx el [115, 101, 114, 118, 101, 32] p))) (p + (md_tx el [98, 114, 101, 97, 107, 32] p))) (p + (md_tx el [103, 111, 97, 108, 32] p))) (p + (md_tx el [114, 97, 108, 108, 121, 32] p))) = p + 2 := by
  have e0 : el p = Int32.ofNat 111 := by
    apply Classical.byContradiction; intro hc
    rw [md_tx, if_neg hc] at h
    cases h
  have e1 : el (p + 1) = Int32.ofNat 110 := by
    apply Classical.byContradiction; intro hc
    rw [md_tx, if_pos e0, md_tx, if_neg hc] at h
    cases h
  have ew : (md_tx el [111, 110, 32] p) = 2 := by rw [lk_a1, if_pos h, if_neg h2]
  have e_0 : (md_tx el [112, 108, 97, 121, 101, 114, 32] p) = 0 := by rw [md_tx, if_neg (by rw [e0]; decide)]
  have e_2 : (md_tx el [116, 117, 114, 110] p) = 0 := by rw [md_tx, if_neg (by rw [e0]; decide)]
  have e_3 : (md_tx el [98, 108, 111, 99, 107, 32] p) = 0 := by rw [md_tx, if_neg (by rw [e0]; decide)]
  have e_4 : (md_tx el [115, 101, 114, 118, 101, 32] p) = 0 := by rw [md_tx, if_neg (by rw [e0]; decide)]
  have e_5 : (md_tx el [98, 114, 101, 97, 107, 32] p) = 0 := by rw [md_tx, if_neg (by rw [e0]; decide)]
  have e_6 : (md_tx el [103, 111, 97, 108, 32] p) = 0 := by rw [md_tx, if_neg (by rw [e0]; decide)]
  have e_7 : (md_tx el [114, 97, 108, 108, 121, 32] p) = 0 := by rw [md_tx, if_neg (by rw [e0]; decide)]
  rw [ew, e_0, e_2, e_3, e_4, e_5, e_6, e_7]
  refine ⟨by decide, by decide, by decide, by decide, by decide, by decide, by decide, by decide, ?_⟩
  omega

theorem lk_x3 {el : Nat → Int32} {p : Nat} (h : (md_tx el [98, 108, 111, 99, 107] p) = 5) (h2 : ¬ el (p + 5) = 32) : (¬ (md_tx el [112, 108, 97, 121, 101, 114, 32] p) = 7) ∧ (¬ (md_tx el [111, 110, 32] p) = 3) ∧ (¬ (md_tx el [116, 117, 114, 110] p) = 4) ∧ (¬ (md_tx el [98, 108, 111, 99, 107, 32] p) = 6) ∧ (¬ (md_tx el [115, 101, 114, 118, 101, 32] p) = 6) ∧ (¬ (md_tx el [98, 114, 101, 97, 107, 32] p) = 6) ∧ (¬ (md_tx el [103, 111, 97, 108, 32] p) = 5) ∧ (¬ (md_tx el [114, 97, 108, 108, 121, 32] p) = 6) ∧ (max (max (max (max (max (max (max (max p (p + (md_tx el [112, 108, 97, 121, 101, 114, 32] p))) (p + (md_tx el [111, 110, 32] p))) (p + (md_tx el [116, 117, 114, 110] p))) (p + (md_tx el [98, 108, 111, 99, 107, 32] p))) (p + (md_tx el [115, 101, 114, 118, 101, 32] p))) (p + (md_tx el [98, 114, 101, 97, 107, 32] p))) (p + (md_tx el [103, 111, 97, 108, 32] p))) (p + (md_tx el [114, 97, 108, 108, 121, 32] p))) = p + 5 := by
  have e0 : el p = Int32.ofNat 98 := by
    apply Classical.byContradiction; intro hc
    rw [md_tx, if_neg hc] at h
    cases h
  have e1 : el (p + 1) = Int32.ofNat 108 := by
    apply Classical.byContradiction; intro hc
    rw [md_tx, if_pos e0, md_tx, if_neg hc] at h
    cases h
  have ew : (md_tx el [98, 108, 111, 99, 107, 32] p) = 5 := by rw [lk_a3, if_pos h, if_neg h2]
  have e_0 : (md_tx el [112, 108, 97, 121, 101, 114, 32] p) = 0 := by rw [md_tx, if_neg (by rw [e0]; decide)]
  have e_1 : (md_tx el [111, 110, 32] p) = 0 := by rw [md_tx, if_neg (by rw [e0]; decide)]
  have e_2 : (md_tx el [116, 117, 114, 110] p) = 0 := by rw [md_tx, if_neg (by rw [e0]; decide)]
  have e_4 : (md_tx el [115, 101, 114, 118, 101, 32] p) = 0 := by rw [md_tx, if_neg (by rw [e0]; decide)]
  have e_5 : (md_tx el [98, 114, 101, 97, 107, 32] p) = 1 := by rw [md_tx, if_pos e0, md_tx, if_neg (by rw [e1]; decide)]
  have e_6 : (md_tx el [103, 111, 97, 108, 32] p) = 0 := by rw [md_tx, if_neg (by rw [e0]; decide)]
  have e_7 : (md_tx el [114, 97, 108, 108, 121, 32] p) = 0 := by rw [md_tx, if_neg (by rw [e0]; decide)]
  rw [ew, e_0, e_1, e_2, e_4, e_5, e_6, e_7]
  refine ⟨by decide, by decide, by decide, by decide, by decide, by decide, by decide, by decide, ?_⟩
  omega

theorem lk_x4 {el : Nat → Int32} {p : Nat} (h : (md_tx el [115, 101, 114, 118, 101] p) = 5) (h2 : ¬ el (p + 5) = 32) : (¬ (md_tx el [112, 108, 97, 121, 101, 114, 32] p) = 7) ∧ (¬ (md_tx el [111, 110, 32] p) = 3) ∧ (¬ (md_tx el [116, 117, 114, 110] p) = 4) ∧ (¬ (md_tx el [98, 108, 111, 99, 107, 32] p) = 6) ∧ (¬ (md_tx el [115, 101, 114, 118, 101, 32] p) = 6) ∧ (¬ (md_tx el [98, 114, 101, 97, 107, 32] p) = 6) ∧ (¬ (md_tx el [103, 111, 97, 108, 32] p) = 5) ∧ (¬ (md_tx el [114, 97, 108, 108, 121, 32] p) = 6) ∧ (max (max (max (max (max (max (max (max p (p + (md_tx el [112, 108, 97, 121, 101, 114, 32] p))) (p + (md_tx el [111, 110, 32] p))) (p + (md_tx el [116, 117, 114, 110] p))) (p + (md_tx el [98, 108, 111, 99, 107, 32] p))) (p + (md_tx el [115, 101, 114, 118, 101, 32] p))) (p + (md_tx el [98, 114, 101, 97, 107, 32] p))) (p + (md_tx el [103, 111, 97, 108, 32] p))) (p + (md_tx el [114, 97, 108, 108, 121, 32] p))) = p + 5 := by
  have e0 : el p = Int32.ofNat 115 := by
    apply Classical.byContradiction; intro hc
    rw [md_tx, if_neg hc] at h
    cases h
  have e1 : el (p + 1) = Int32.ofNat 101 := by
    apply Classical.byContradiction; intro hc
    rw [md_tx, if_pos e0, md_tx, if_neg hc] at h
    cases h
  have ew : (md_tx el [115, 101, 114, 118, 101, 32] p) = 5 := by rw [lk_a4, if_pos h, if_neg h2]
  have e_0 : (md_tx el [112, 108, 97, 121, 101, 114, 32] p) = 0 := by rw [md_tx, if_neg (by rw [e0]; decide)]
  have e_1 : (md_tx el [111, 110, 32] p) = 0 := by rw [md_tx, if_neg (by rw [e0]; decide)]
  have e_2 : (md_tx el [116, 117, 114, 110] p) = 0 := by rw [md_tx, if_neg (by rw [e0]; decide)]
  have e_3 : (md_tx el [98, 108, 111, 99, 107, 32] p) = 0 := by rw [md_tx, if_neg (by rw [e0]; decide)]
  have e_5 : (md_tx el [98, 114, 101, 97, 107, 32] p) = 0 := by rw [md_tx, if_neg (by rw [e0]; decide)]
  have e_6 : (md_tx el [103, 111, 97, 108, 32] p) = 0 := by rw [md_tx, if_neg (by rw [e0]; decide)]
  have e_7 : (md_tx el [114, 97, 108, 108, 121, 32] p) = 0 := by rw [md_tx, if_neg (by rw [e0]; decide)]
  rw [ew, e_0, e_1, e_2, e_3, e_5, e_6, e_7]
  refine ⟨by decide, by decide, by decide, by decide, by decide, by decide, by decide, by decide, ?_⟩
  omega

theorem lk_x5 {el : Nat → Int32} {p : Nat} (h : (md_tx el [98, 114, 101, 97, 107] p) = 5) (h2 : ¬ el (p + 5) = 32) : (¬ (md_tx el [112, 108, 97, 121, 101, 114, 32] p) = 7) ∧ (¬ (md_tx el [111, 110, 32] p) = 3) ∧ (¬ (md_tx el [116, 117, 114, 110] p) = 4) ∧ (¬ (md_tx el [98, 108, 111, 99, 107, 32] p) = 6) ∧ (¬ (md_tx el [115, 101, 114, 118, 101, 32] p) = 6) ∧ (¬ (md_tx el [98, 114, 101, 97, 107, 32] p) = 6) ∧ (¬ (md_tx el [103, 111, 97, 108, 32] p) = 5) ∧ (¬ (md_tx el [114, 97, 108, 108, 121, 32] p) = 6) ∧ (max (max (max (max (max (max (max (max p (p + (md_tx el [112, 108, 97, 121, 101, 114, 32] p))) (p + (md_tx el [111, 110, 32] p))) (p + (md_tx el [116, 117, 114, 110] p))) (p + (md_tx el [98, 108, 111, 99, 107, 32] p))) (p + (md_tx el [115, 101, 114, 118, 101, 32] p))) (p + (md_tx el [98, 114, 101, 97, 107, 32] p))) (p + (md_tx el [103, 111, 97, 108, 32] p))) (p + (md_tx el [114, 97, 108, 108, 121, 32] p))) = p + 5 := by
  have e0 : el p = Int32.ofNat 98 := by
    apply Classical.byContradiction; intro hc
    rw [md_tx, if_neg hc] at h
    cases h
  have e1 : el (p + 1) = Int32.ofNat 114 := by
    apply Classical.byContradiction; intro hc
    rw [md_tx, if_pos e0, md_tx, if_neg hc] at h
    cases h
  have ew : (md_tx el [98, 114, 101, 97, 107, 32] p) = 5 := by rw [lk_a5, if_pos h, if_neg h2]
  have e_0 : (md_tx el [112, 108, 97, 121, 101, 114, 32] p) = 0 := by rw [md_tx, if_neg (by rw [e0]; decide)]
  have e_1 : (md_tx el [111, 110, 32] p) = 0 := by rw [md_tx, if_neg (by rw [e0]; decide)]
  have e_2 : (md_tx el [116, 117, 114, 110] p) = 0 := by rw [md_tx, if_neg (by rw [e0]; decide)]
  have e_3 : (md_tx el [98, 108, 111, 99, 107, 32] p) = 1 := by rw [md_tx, if_pos e0, md_tx, if_neg (by rw [e1]; decide)]
  have e_4 : (md_tx el [115, 101, 114, 118, 101, 32] p) = 0 := by rw [md_tx, if_neg (by rw [e0]; decide)]
  have e_6 : (md_tx el [103, 111, 97, 108, 32] p) = 0 := by rw [md_tx, if_neg (by rw [e0]; decide)]
  have e_7 : (md_tx el [114, 97, 108, 108, 121, 32] p) = 0 := by rw [md_tx, if_neg (by rw [e0]; decide)]
  rw [ew, e_0, e_1, e_2, e_3, e_4, e_6, e_7]
  refine ⟨by decide, by decide, by decide, by decide, by decide, by decide, by decide, by decide, ?_⟩
  omega

theorem lk_x6 {el : Nat → Int32} {p : Nat} (h : (md_tx el [103, 111, 97, 108] p) = 4) (h2 : ¬ el (p + 4) = 32) : (¬ (md_tx el [112, 108, 97, 121, 101, 114, 32] p) = 7) ∧ (¬ (md_tx el [111, 110, 32] p) = 3) ∧ (¬ (md_tx el [116, 117, 114, 110] p) = 4) ∧ (¬ (md_tx el [98, 108, 111, 99, 107, 32] p) = 6) ∧ (¬ (md_tx el [115, 101, 114, 118, 101, 32] p) = 6) ∧ (¬ (md_tx el [98, 114, 101, 97, 107, 32] p) = 6) ∧ (¬ (md_tx el [103, 111, 97, 108, 32] p) = 5) ∧ (¬ (md_tx el [114, 97, 108, 108, 121, 32] p) = 6) ∧ (max (max (max (max (max (max (max (max p (p + (md_tx el [112, 108, 97, 121, 101, 114, 32] p))) (p + (md_tx el [111, 110, 32] p))) (p + (md_tx el [116, 117, 114, 110] p))) (p + (md_tx el [98, 108, 111, 99, 107, 32] p))) (p + (md_tx el [115, 101, 114, 118, 101, 32] p))) (p + (md_tx el [98, 114, 101, 97, 107, 32] p))) (p + (md_tx el [103, 111, 97, 108, 32] p))) (p + (md_tx el [114, 97, 108, 108, 121, 32] p))) = p + 4 := by
  have e0 : el p = Int32.ofNat 103 := by
    apply Classical.byContradiction; intro hc
    rw [md_tx, if_neg hc] at h
    cases h
  have e1 : el (p + 1) = Int32.ofNat 111 := by
    apply Classical.byContradiction; intro hc
    rw [md_tx, if_pos e0, md_tx, if_neg hc] at h
    cases h
  have ew : (md_tx el [103, 111, 97, 108, 32] p) = 4 := by rw [lk_a6, if_pos h, if_neg h2]
  have e_0 : (md_tx el [112, 108, 97, 121, 101, 114, 32] p) = 0 := by rw [md_tx, if_neg (by rw [e0]; decide)]
  have e_1 : (md_tx el [111, 110, 32] p) = 0 := by rw [md_tx, if_neg (by rw [e0]; decide)]
  have e_2 : (md_tx el [116, 117, 114, 110] p) = 0 := by rw [md_tx, if_neg (by rw [e0]; decide)]
  have e_3 : (md_tx el [98, 108, 111, 99, 107, 32] p) = 0 := by rw [md_tx, if_neg (by rw [e0]; decide)]
  have e_4 : (md_tx el [115, 101, 114, 118, 101, 32] p) = 0 := by rw [md_tx, if_neg (by rw [e0]; decide)]
  have e_5 : (md_tx el [98, 114, 101, 97, 107, 32] p) = 0 := by rw [md_tx, if_neg (by rw [e0]; decide)]
  have e_7 : (md_tx el [114, 97, 108, 108, 121, 32] p) = 0 := by rw [md_tx, if_neg (by rw [e0]; decide)]
  rw [ew, e_0, e_1, e_2, e_3, e_4, e_5, e_7]
  refine ⟨by decide, by decide, by decide, by decide, by decide, by decide, by decide, by decide, ?_⟩
  omega

theorem lk_x7 {el : Nat → Int32} {p : Nat} (h : (md_tx el [114, 97, 108, 108, 121] p) = 5) (h2 : ¬ el (p + 5) = 32) : (¬ (md_tx el [112, 108, 97, 121, 101, 114, 32] p) = 7) ∧ (¬ (md_tx el [111, 110, 32] p) = 3) ∧ (¬ (md_tx el [116, 117, 114, 110] p) = 4) ∧ (¬ (md_tx el [98, 108, 111, 99, 107, 32] p) = 6) ∧ (¬ (md_tx el [115, 101, 114, 118, 101, 32] p) = 6) ∧ (¬ (md_tx el [98, 114, 101, 97, 107, 32] p) = 6) ∧ (¬ (md_tx el [103, 111, 97, 108, 32] p) = 5) ∧ (¬ (md_tx el [114, 97, 108, 108, 121, 32] p) = 6) ∧ (max (max (max (max (max (max (max (max p (p + (md_tx el [112, 108, 97, 121, 101, 114, 32] p))) (p + (md_tx el [111, 110, 32] p))) (p + (md_tx el [116, 117, 114, 110] p))) (p + (md_tx el [98, 108, 111, 99, 107, 32] p))) (p + (md_tx el [115, 101, 114, 118, 101, 32] p))) (p + (md_tx el [98, 114, 101, 97, 107, 32] p))) (p + (md_tx el [103, 111, 97, 108, 32] p))) (p + (md_tx el [114, 97, 108, 108, 121, 32] p))) = p + 5 := by
  have e0 : el p = Int32.ofNat 114 := by
    apply Classical.byContradiction; intro hc
    rw [md_tx, if_neg hc] at h
    cases h
  have e1 : el (p + 1) = Int32.ofNat 97 := by
    apply Classical.byContradiction; intro hc
    rw [md_tx, if_pos e0, md_tx, if_neg hc] at h
    cases h
  have ew : (md_tx el [114, 97, 108, 108, 121, 32] p) = 5 := by rw [lk_a7, if_pos h, if_neg h2]
  have e_0 : (md_tx el [112, 108, 97, 121, 101, 114, 32] p) = 0 := by rw [md_tx, if_neg (by rw [e0]; decide)]
  have e_1 : (md_tx el [111, 110, 32] p) = 0 := by rw [md_tx, if_neg (by rw [e0]; decide)]
  have e_2 : (md_tx el [116, 117, 114, 110] p) = 0 := by rw [md_tx, if_neg (by rw [e0]; decide)]
  have e_3 : (md_tx el [98, 108, 111, 99, 107, 32] p) = 0 := by rw [md_tx, if_neg (by rw [e0]; decide)]
  have e_4 : (md_tx el [115, 101, 114, 118, 101, 32] p) = 0 := by rw [md_tx, if_neg (by rw [e0]; decide)]
  have e_5 : (md_tx el [98, 114, 101, 97, 107, 32] p) = 0 := by rw [md_tx, if_neg (by rw [e0]; decide)]
  have e_6 : (md_tx el [103, 111, 97, 108, 32] p) = 0 := by rw [md_tx, if_neg (by rw [e0]; decide)]
  rw [ew, e_0, e_1, e_2, e_3, e_4, e_5, e_6]
  refine ⟨by decide, by decide, by decide, by decide, by decide, by decide, by decide, by decide, ?_⟩
  omega


def it_F (X : List Int32) (t : Nat) (I : Nat → Nat → Int32) (A : Nat → List Int32) (L : Nat → List Int64) (V : Nat → List Value) (Q : am_Mem) (J : Nat → Nat → Int32) (B : Nat → List Int32) (K : Nat → List Int64) (U : Nat → List Value) (Wm : Value) (R : am_Mem) : Prop := ∃ (f : Nat) (Y Z : Nat → Int32) (l : List Int32), am_mt X 82 [.ref 33] (en_E I A L V (.ref (3 + 2 * t)) Q) = some (some (.int 0), en_E (en_u I 33 Y) A L V (.ref (3 + 2 * t)) Q) ∧ Y 3 = Int32.ofNat f ∧ am_mt X 199 [.ref 36] (en_E J B K U Wm R) = some (some (.int 0), en_E (en_u J 36 Z) (en_u B 51 l) K U Wm R) ∧ Z 33 = Int32.ofNat f ∧ (∀ j, j < 30 ∨ 33 < j → Z j = J 36 j) ∧ l.length = 2 ∧ f < 10000
def it_K (X : List Int32) (t p : Nat) (I : Nat → Nat → Int32) (A : Nat → List Int32) (L : Nat → List Int64) (V : Nat → List Value) (Q : am_Mem) (J : Nat → Nat → Int32) (B : Nat → List Int32) (K : Nat → List Int64) (U : Nat → List Value) (Wm : Value) (R : am_Mem) : Prop := ∃ (p2 : Nat) (Y T Z : Nat → Int32) (f : List Int32) (v : List Value) (S : am_Mem) (C : Nat → List Int32) (y0 y1 : Int32) (pl : List Nat) (pd : List (Nat × Int32)), am_mt X 82 [.ref 33] (en_E I A L V (.ref (3 + 2 * t)) Q) = some (some (.int 1), en_E (en_u I 33 Y) A L V (.ref (3 + 2 * t)) Q) ∧ am_mt X 93 [.ref 33] (en_E (en_u I 33 Y) A L V (.ref (3 + 2 * t)) Q) = some (none, en_E (en_u (en_u I 33 Y) 26 T) (en_u A 28 f) L (en_u V 27 v) (.ref (3 + 2 * t)) (Q ++ S)) ∧ Y 2 = Int32.ofNat p2 ∧ Y 3 = I 33 3 ∧ S.length ≤ 1 ∧ md_QS S ∧ am_mt X 199 [.ref 36] (en_E J B K U Wm R) = some (some (.int 1), en_E (en_u J 36 Z) C K U Wm R) ∧ Z 30 = Int32.ofNat p2 ∧ Z 29 = J 36 29 ∧ Z 31 = J 36 31 ∧ Z 13 = J 36 13 ∧ (∀ j, 38 < j → Z j = J 36 j) ∧ C 51 = [y0, y1] ∧ (∀ j, ¬ j = 38 → ¬ j = 39 → ¬ j = 40 → ¬ j = 51 → C j = B j) ∧ p < p2 ∧ p2 ≤ p + 17 ∧ md_TM T Z f (C 40) C v (Q ++ S) pl pd ∧ ∃ m, I 26 2 = Int32.ofNat m ∧ m ≤ 12 ∧ m ≤ pl.length
theorem it_b {X : List Int32} {M : am_Mem} {v : Value} {Z : Nat → Nat → Int32} {B : Nat → List Int32} {K : Nat → List Int64} {U : Nat → List Value} {Wm : Value} {R : am_Mem} (h : am_mt X 199 [.ref 36] M = some (some v, en_E Z B K U Wm R)) : am_mt X 199 [.ref 36] M = some (some v, en_E Z (en_u B 51 (B 51)) K U Wm R) := by
  rw [show en_u B 51 (B 51) = B from en_id]; exact h
theorem it_c1 {X : List Int32} {M : am_Mem} {I : Nat → Nat → Int32} {A : Nat → List Int32} {L : Nat → List Int64} {V : Nat → List Value} {W : Value} {Q : am_Mem} {T : Nat → Int32} (h : am_mt X 93 [.ref 33] M = some (none, en_E (en_u I 26 T) A L V W Q)) : am_mt X 93 [.ref 33] M = some (none, en_E (en_u I 26 T) (en_u A 28 (A 28)) L (en_u V 27 (V 27)) W (Q ++ [])) := by
  rw [h]
  simp only [en_id, List.append_nil]
theorem it_c2 {X : List Int32} {M : am_Mem} {I : Nat → Nat → Int32} {A : Nat → List Int32} {L : Nat → List Int64} {V : Nat → List Value} {W : Value} {Q : am_Mem} {f : List Int32} (h : am_mt X 93 [.ref 33] M = some (none, en_E I (en_u A 28 f) L V W Q)) : am_mt X 93 [.ref 33] M = some (none, en_E (en_u I 26 (I 26)) (en_u A 28 f) L (en_u V 27 (V 27)) W (Q ++ [])) := by
  rw [h]
  simp only [en_id, List.append_nil]
theorem it_c3 {X : List Int32} {M : am_Mem} {I : Nat → Nat → Int32} {A : Nat → List Int32} {L : Nat → List Int64} {V : Nat → List Value} {W : Value} {Q : am_Mem} {T : Nat → Int32} {f : List Int32} (h : am_mt X 93 [.ref 33] M = some (none, en_E (en_u I 26 T) (en_u A 28 f) L V W Q)) : am_mt X 93 [.ref 33] M = some (none, en_E (en_u I 26 T) (en_u A 28 f) L (en_u V 27 (V 27)) W (Q ++ [])) := by
  rw [h]
  simp only [en_id, List.append_nil]
theorem it_c0 {X : List Int32} {M : am_Mem} {I : Nat → Nat → Int32} {A : Nat → List Int32} {L : Nat → List Int64} {V : Nat → List Value} {W : Value} {Q : am_Mem} {T : Nat → Int32} {v : List Value} {o : am_Ob} (h : am_mt X 93 [.ref 33] M = some (none, en_E (en_u I 26 T) A L (en_u V 27 v) W (Q ++ [o]))) : am_mt X 93 [.ref 33] M = some (none, en_E (en_u I 26 T) (en_u A 28 (A 28)) L (en_u V 27 v) W (Q ++ [o])) := by
  rw [h]
  simp only [en_id, List.append_nil]
theorem it_0 {X : List Int32} {I : Nat → Nat → Int32} {A : Nat → List Int32} {L : Nat → List Int64} {V : Nat → List Value} {Q : am_Mem} {J : Nat → Nat → Int32} {B : Nat → List Int32} {K : Nat → List Int64} {U : Nat → List Value} {Wm : Value} {R : am_Mem} {t n p : Nat} {pl : List Nat} {pd : List (Nat × Int32)} {x0 x1 : Int32} (ht8 : t < 8) (h160 : (L (4 + 2 * t)).length = 160) (hsz : I (3 + 2 * t) 2 = Int32.ofNat n) (hn : n ≤ 160) (hp : I 33 2 = Int32.ofNat p) (h45 : (K 45).length = 1280) (hb : J 36 29 = Int32.ofNat (160 * t)) (he : J 36 31 = Int32.ofNat n) (hel : ∀ q, q < n → ((K 45).getD (160 * t + q) 0).toInt32 = (md_e (L (4 + 2 * t)) n) q) (hq : J 36 30 = Int32.ofNat p) (hpn : p ≤ n) (h51 : B 51 = [x0, x1]) (hT : md_TM (I 26) (J 36) (A 28) (B 40) B (V 27) Q pl pd)  (gw : (md_tx (md_e (L (4 + 2 * t)) n) [112, 108, 97, 121, 101, 114] p) = 6) : it_F X t I A L V Q J B K U Wm R ∨ it_K X t p I A L V Q J B K U Wm R := by
  have heo : ∀ q, n ≤ q → (md_e (L (4 + 2 * t)) n) q = -1 := fun q h => md_e_o h
  have hT0 := hT
  obtain ⟨hEQ, hrg, h40, hfl, hpd, hV, hc, hps⟩ := hT0
  have hE0 : J 36 0 = I 26 2 := hEQ.1
  have hl : pl.length ≤ 12 := by rw [hps.1]; exact hpd.2.2.1
  have hf6 : (A 28).length = 6 := hfl.1
  have hfm : md_FL (B 40) pd := by rw [h40]; exact hfl
  have hm6 : (B 40).length = 6 := hfm.1
  have hc2 : J 36 0 = Int32.ofNat pl.length := by rw [hE0, hc]
  have h83 := ce_83_0 (X := X) (I := I) (A := A) (L := L) (V := V) (Q := Q) ht8 h160 hsz hn hp (by omega)  gw
  by_cases hr : pl.length < 12
  case neg =>
    have hm : J 36 0 = 12 := by rw [hc2, show pl.length = 12 by omega]; rfl
    exact .inl ⟨p, _, _, B 51, ce_82_0r (X := X) (I := I) (A := A) (L := L) (V := V) (Q := Q) ht8 h160 hsz hn hp (by omega) hV hl hc h83 hr, rfl, (it_b (mt_199_r (X := X) (I := J) (A := B) (L := K) (V := U) (W := Wm) (Q := R) h45 ht8 hn hb he hel heo hq (by omega) gw hm)), rfl, (fun j hj => by simp only [en_at, show ¬ j = 30 by omega, show ¬ j = 32 by omega, show ¬ j = 33 by omega, ↓reduceIte, if_false]), by first | rfl | (rw [h51]; rfl), by omega⟩
  have hno : ¬ (md_tx (md_e (L (4 + 2 * t)) n) [112, 108, 97, 121, 101, 114] p = 6 ∧ J 36 0 = 12) := fun h => by
    have := (as_eq (b := 12) (by omega) (by omega)).mp (hc2.symm.trans h.2)
    omega
  by_cases h32 : (md_e (L (4 + 2 * t)) n) (p + 6) = 32
  case neg =>
    have hn1 : md_n1 (md_e (L (4 + 2 * t)) n) (p + 6) 0 7 = none := by unfold md_n1; rw [if_neg (fun h => h32 h.1)]
    have hx := lk_x0 gw h32
    obtain ⟨k0, k1, k2, k3, k4, k5, k6, k7, kf⟩ := hx
    have hw := mt_202_n (X := X) (I := J) (A := B) (L := K) (V := U) (W := Wm) (Q := R) h45 ht8 hn hb he hel heo hq (by omega) k0 k1 k2 k3 k4 k5 k6 k7
    rw [kf] at hw
    have hnf : md_nf (md_e (L (4 + 2 * t)) n) (p + 6) = (p + 6) := by unfold md_nf; rw [if_neg h32]
    have c8 := ce_82_01 (X := X) (I := I) (A := A) (L := L) (V := V) (Q := Q) ht8 h160 hsz hn hp (by omega) hV hl hc h83 hr hn1
    rw [hnf] at c8
    exact .inl ⟨(p + 6), _, _, B 51, c8, rfl, (it_b (mt_199_n (X := X) (I := J) (A := B) (L := K) (V := U) (W := Wm) (Q := R) h45 ht8 hn hb he hel heo hq (by omega) hno hw)), rfl, (fun j hj => by simp only [en_at, show ¬ j = 30 by omega, show ¬ j = 32 by omega, show ¬ j = 33 by omega, ↓reduceIte, if_false]), by first | rfl | (rw [h51]; rfl), by omega⟩
  have hw := mt_202_w0 (X := X) (I := J) (A := B) (L := K) (V := U) (W := Wm) (Q := R) h45 ht8 hn hb he hel heo hq (by omega)  (lk_k0 gw h32)
  have hnf : md_nf (md_e (L (4 + 2 * t)) n) (p + 6) = (p + 7) := by unfold md_nf; rw [if_pos h32]
  rcases hr1 : md_dg (md_e (L (4 + 2 * t)) n) 4 (p + 7) 0 with ⟨k, a⟩
  have hq1 : md_dg (md_e (L (4 + 2 * t)) n) 4 ((p + 6) + 1) 0 = (k, a) := hr1
  have b4 := md_dg_4 (el := (md_e (L (4 + 2 * t)) n)) (p + 7)
  rw [hr1] at b4
  dsimp only at b4
  by_cases hk : k = 0
  · skip
    have hn1 : md_n1 (md_e (L (4 + 2 * t)) n) (p + 6) 0 7 = none := by
      unfold md_n1
      rw [hq1, if_neg (fun h => h.2 (.inl hk))]
    have c8 := ce_82_01 (X := X) (I := I) (A := A) (L := L) (V := V) (Q := Q) ht8 h160 hsz hn hp (by omega) hV hl hc h83 hr hn1
    rw [hnf] at c8
    exact .inl ⟨(p + 7), _, _, B 51, c8, rfl, (it_b (mt_199_0_1a (X := X) (I := J) (A := B) (L := K) (V := U) (W := Wm) (Q := R) h45 ht8 hn hb he hel heo hq (by omega) (by omega) hno hw h51 hr1 hk)), rfl, (fun j hj => by simp only [en_at, show ¬ j = 30 by omega, show ¬ j = 32 by omega, show ¬ j = 33 by omega, ↓reduceIte, if_false]), by first | rfl | (rw [h51]; rfl), by omega⟩
  by_cases ho : (0 ≤ a ∧ a < 7)
  case neg =>
    have hn1 : md_n1 (md_e (L (4 + 2 * t)) n) (p + 6) 0 7 = none := by
      unfold md_n1
      rw [hq1, if_neg (fun h => h.2 (by dsimp only; omega))]
    have c8 := ce_82_01 (X := X) (I := I) (A := A) (L := L) (V := V) (Q := Q) ht8 h160 hsz hn hp (by omega) hV hl hc h83 hr hn1
    rw [hnf] at c8
    exact .inl ⟨(p + 7), _, _, B 51, c8, rfl, (it_b (mt_199_0_1b (X := X) (I := J) (A := B) (L := K) (V := U) (W := Wm) (Q := R) h45 ht8 hn hb he hel heo hq (by omega) (by omega) hno hw h51 hr1 hk ho)), rfl, (fun j hj => by simp only [en_at, show ¬ j = 30 by omega, show ¬ j = 32 by omega, show ¬ j = 33 by omega, ↓reduceIte, if_false]), by first | rfl | (rw [h51]; rfl), by omega⟩
  have hn1 : md_n1 (md_e (L (4 + 2 * t)) n) (p + 6) 0 7 = some (a, (p + 6) + 1 + k) := by
    unfold md_n1
    rw [hq1, if_pos ⟨h32, by dsimp only; omega⟩]
  by_cases h33 : (md_e (L (4 + 2 * t)) n) ((p + 7) + k) = 32
  case neg =>
    have hnf2 : md_nf (md_e (L (4 + 2 * t)) n) ((p + 6) + 1 + k) = (p + 7) + k := by unfold md_nf; rw [if_neg h33]
    have hn2 : md_n1 (md_e (L (4 + 2 * t)) n) ((p + 6) + 1 + k) 0 10 = none := by
      unfold md_n1
      rw [if_neg (fun h => h33 h.1)]
    have c8 := ce_82_02 (X := X) (I := I) (A := A) (L := L) (V := V) (Q := Q) ht8 h160 hsz hn hp (by omega) hV hl hc h83 hr hn1 hn2
    rw [hnf2] at c8
    exact .inl ⟨((p + 7) + k), _, _, [Int32.ofNat a, x1], c8, rfl, (mt_199_0_2c (X := X) (I := J) (A := B) (L := K) (V := U) (W := Wm) (Q := R) h45 ht8 hn hb he hel heo hq (by omega) (by omega) hno hw h51 hr1 hk ho h33), rfl, (fun j hj => by simp only [en_at, show ¬ j = 30 by omega, show ¬ j = 32 by omega, show ¬ j = 33 by omega, ↓reduceIte, if_false]), by first | rfl | (rw [h51]; rfl), by omega⟩
  have hnf2 : md_nf (md_e (L (4 + 2 * t)) n) ((p + 6) + 1 + k) = (p + 7) + k + 1 := by unfold md_nf; rw [if_pos h33]
  rcases hr2 : md_dg (md_e (L (4 + 2 * t)) n) 4 ((p + 7) + k + 1) 0 with ⟨k2, b⟩
  have hq2 : md_dg (md_e (L (4 + 2 * t)) n) 4 ((p + 6) + 1 + k + 1) 0 = (k2, b) := hr2
  have b5 := md_dg_4 (el := (md_e (L (4 + 2 * t)) n)) ((p + 7) + k + 1)
  rw [hr2] at b5
  dsimp only at b5
  by_cases hk2 : k2 = 0
  · skip
    have hn2 : md_n1 (md_e (L (4 + 2 * t)) n) ((p + 6) + 1 + k) 0 10 = none := by
      unfold md_n1
      rw [hq2, if_neg (fun h => h.2 (.inl hk2))]
    have c8 := ce_82_02 (X := X) (I := I) (A := A) (L := L) (V := V) (Q := Q) ht8 h160 hsz hn hp (by omega) hV hl hc h83 hr hn1 hn2
    rw [hnf2] at c8
    exact .inl ⟨((p + 7) + k + 1), _, _, [Int32.ofNat a, x1], c8, rfl, (mt_199_0_2a (X := X) (I := J) (A := B) (L := K) (V := U) (W := Wm) (Q := R) h45 ht8 hn hb he hel heo hq (by omega) (by omega) hno hw h51 hr1 hk ho h33 hr2 hk2), rfl, (fun j hj => by simp only [en_at, show ¬ j = 30 by omega, show ¬ j = 32 by omega, show ¬ j = 33 by omega, ↓reduceIte, if_false]), by first | rfl | (rw [h51]; rfl), by omega⟩
  by_cases ho2 : (0 ≤ b ∧ b < 10)
  case neg =>
    have hn2 : md_n1 (md_e (L (4 + 2 * t)) n) ((p + 6) + 1 + k) 0 10 = none := by
      unfold md_n1
      rw [hq2, if_neg (fun h => h.2 (by dsimp only; omega))]
    have c8 := ce_82_02 (X := X) (I := I) (A := A) (L := L) (V := V) (Q := Q) ht8 h160 hsz hn hp (by omega) hV hl hc h83 hr hn1 hn2
    rw [hnf2] at c8
    exact .inl ⟨((p + 7) + k + 1), _, _, [Int32.ofNat a, x1], c8, rfl, (mt_199_0_2b (X := X) (I := J) (A := B) (L := K) (V := U) (W := Wm) (Q := R) h45 ht8 hn hb he hel heo hq (by omega) (by omega) hno hw h51 hr1 hk ho h33 hr2 hk2 ho2), rfl, (fun j hj => by simp only [en_at, show ¬ j = 30 by omega, show ¬ j = 32 by omega, show ¬ j = 33 by omega, ↓reduceIte, if_false]), by first | rfl | (rw [h51]; rfl), by omega⟩
  have hn2 : md_n1 (md_e (L (4 + 2 * t)) n) ((p + 6) + 1 + k) 0 10 = some (b, (p + 7) + k + 1 + k2) := by
    unfold md_n1
    rw [hq2, if_pos ⟨h33, by dsimp only; omega⟩]
  refine .inr ?_
  exact ⟨((p + 7) + k + 1 + k2), _, _, _, _, _, _, _, _, _, pl ++ [Q.length + 57], pd ++ [(md_kc (Int32.ofNat a), Int32.ofNat b)], (ce_82_0k (X := X) (I := I) (A := A) (L := L) (V := V) (Q := Q) ht8 h160 hsz hn hp (by omega) hV hl hc h83 hr hn1 hn2), it_c0 (ce_93_0 rfl rfl rfl hV hr hc (md_kcn ho.2).1), rfl, rfl, by simp, (fun x hx => ⟨_, _, _, by simpa using hx⟩), (mt_199_0_k (X := X) (I := J) (A := B) (L := K) (V := U) (W := Wm) (Q := R) h45 ht8 hn hb he hel heo hq (by omega) (by omega) hno hw h51 hr1 hk ho h33 hr2 hk2 ho2 hpd.1 hpd.2.1 hc2 hr), by simp only [as_10, as_01, en_at, ↓reduceIte, Nat.reduceEqDiff, Nat.reduceAdd, as_q0_2, as_q0_3, as_q0_4, as_q0_5, as_q0_6, as_q0_7, as_q1_2, as_q1_3, as_q1_4, as_q1_5, as_q1_6, as_q1_7, as_q2_0, as_q2_1, as_q2_3, as_q2_4, as_q2_5, as_q2_6, as_q2_7, as_q3_0, as_q3_1, as_q3_2, as_q3_4, as_q3_5, as_q3_6, as_q3_7, as_q4_0, as_q4_1, as_q4_2, as_q4_3, as_q4_5, as_q4_6, as_q4_7, as_q5_0, as_q5_1, as_q5_2, as_q5_3, as_q5_4, as_q5_6, as_q5_7, as_q6_0, as_q6_1, as_q6_2, as_q6_3, as_q6_4, as_q6_5, as_q6_7, as_q7_0, as_q7_1, as_q7_2, as_q7_3, as_q7_4, as_q7_5, as_q7_6], by simp only [as_10, as_01, en_at, ↓reduceIte, Nat.reduceEqDiff, Nat.reduceAdd, as_q0_2, as_q0_3, as_q0_4, as_q0_5, as_q0_6, as_q0_7, as_q1_2, as_q1_3, as_q1_4, as_q1_5, as_q1_6, as_q1_7, as_q2_0, as_q2_1, as_q2_3, as_q2_4, as_q2_5, as_q2_6, as_q2_7, as_q3_0, as_q3_1, as_q3_2, as_q3_4, as_q3_5, as_q3_6, as_q3_7, as_q4_0, as_q4_1, as_q4_2, as_q4_3, as_q4_5, as_q4_6, as_q4_7, as_q5_0, as_q5_1, as_q5_2, as_q5_3, as_q5_4, as_q5_6, as_q5_7, as_q6_0, as_q6_1, as_q6_2, as_q6_3, as_q6_4, as_q6_5, as_q6_7, as_q7_0, as_q7_1, as_q7_2, as_q7_3, as_q7_4, as_q7_5, as_q7_6], by simp only [as_10, as_01, en_at, ↓reduceIte, Nat.reduceEqDiff, Nat.reduceAdd, as_q0_2, as_q0_3, as_q0_4, as_q0_5, as_q0_6, as_q0_7, as_q1_2, as_q1_3, as_q1_4, as_q1_5, as_q1_6, as_q1_7, as_q2_0, as_q2_1, as_q2_3, as_q2_4, as_q2_5, as_q2_6, as_q2_7, as_q3_0, as_q3_1, as_q3_2, as_q3_4, as_q3_5, as_q3_6, as_q3_7, as_q4_0, as_q4_1, as_q4_2, as_q4_3, as_q4_5, as_q4_6, as_q4_7, as_q5_0, as_q5_1, as_q5_2, as_q5_3, as_q5_4, as_q5_6, as_q5_7, as_q6_0, as_q6_1, as_q6_2, as_q6_3, as_q6_4, as_q6_5, as_q6_7, as_q7_0, as_q7_1, as_q7_2, as_q7_3, as_q7_4, as_q7_5, as_q7_6], by simp only [as_10, as_01, en_at, ↓reduceIte, Nat.reduceEqDiff, Nat.reduceAdd, as_q0_2, as_q0_3, as_q0_4, as_q0_5, as_q0_6, as_q0_7, as_q1_2, as_q1_3, as_q1_4, as_q1_5, as_q1_6, as_q1_7, as_q2_0, as_q2_1, as_q2_3, as_q2_4, as_q2_5, as_q2_6, as_q2_7, as_q3_0, as_q3_1, as_q3_2, as_q3_4, as_q3_5, as_q3_6, as_q3_7, as_q4_0, as_q4_1, as_q4_2, as_q4_3, as_q4_5, as_q4_6, as_q4_7, as_q5_0, as_q5_1, as_q5_2, as_q5_3, as_q5_4, as_q5_6, as_q5_7, as_q6_0, as_q6_1, as_q6_2, as_q6_3, as_q6_4, as_q6_5, as_q6_7, as_q7_0, as_q7_1, as_q7_2, as_q7_3, as_q7_4, as_q7_5, as_q7_6], (fun j hj => by simp only [as_10, as_01, en_at, ↓reduceIte, Nat.reduceEqDiff, Nat.reduceAdd, as_q0_2, as_q0_3, as_q0_4, as_q0_5, as_q0_6, as_q0_7, as_q1_2, as_q1_3, as_q1_4, as_q1_5, as_q1_6, as_q1_7, as_q2_0, as_q2_1, as_q2_3, as_q2_4, as_q2_5, as_q2_6, as_q2_7, as_q3_0, as_q3_1, as_q3_2, as_q3_4, as_q3_5, as_q3_6, as_q3_7, as_q4_0, as_q4_1, as_q4_2, as_q4_3, as_q4_5, as_q4_6, as_q4_7, as_q5_0, as_q5_1, as_q5_2, as_q5_3, as_q5_4, as_q5_6, as_q5_7, as_q6_0, as_q6_1, as_q6_2, as_q6_3, as_q6_4, as_q6_5, as_q6_7, as_q7_0, as_q7_1, as_q7_2, as_q7_3, as_q7_4, as_q7_5, as_q7_6, show ¬ j = 0 by omega, show ¬ j = 1 by omega, show ¬ j = 2 by omega, show ¬ j = 3 by omega, show ¬ j = 4 by omega, show ¬ j = 5 by omega, show ¬ j = 6 by omega, show ¬ j = 7 by omega, show ¬ j = 8 by omega, show ¬ j = 9 by omega, show ¬ j = 10 by omega, show ¬ j = 11 by omega, show ¬ j = 30 by omega, show ¬ j = 32 by omega, show ¬ j = 38 by omega]), by first | rfl | exact h51, (fun j h1 h2 h3 h4 => by simp only [en_at, h1, h2, h3, h4, ↓reduceIte]), by omega, by omega, tm_A (tm_Z (tm_0 hT hr ho.2 ho2.2) (fun j hj => by simp only [en_at, show ¬ j = 30 by omega, show ¬ j = 32 by omega, ↓reduceIte, if_false])) rfl rfl, pl.length, hc, hl, by simp⟩

theorem it_1 {X : List Int32} {I : Nat → Nat → Int32} {A : Nat → List Int32} {L : Nat → List Int64} {V : Nat → List Value} {Q : am_Mem} {J : Nat → Nat → Int32} {B : Nat → List Int32} {K : Nat → List Int64} {U : Nat → List Value} {Wm : Value} {R : am_Mem} {t n p : Nat} {pl : List Nat} {pd : List (Nat × Int32)} {x0 x1 : Int32} (ht8 : t < 8) (h160 : (L (4 + 2 * t)).length = 160) (hsz : I (3 + 2 * t) 2 = Int32.ofNat n) (hn : n ≤ 160) (hp : I 33 2 = Int32.ofNat p) (h45 : (K 45).length = 1280) (hb : J 36 29 = Int32.ofNat (160 * t)) (he : J 36 31 = Int32.ofNat n) (hel : ∀ q, q < n → ((K 45).getD (160 * t + q) 0).toInt32 = (md_e (L (4 + 2 * t)) n) q) (hq : J 36 30 = Int32.ofNat p) (hpn : p ≤ n) (h51 : B 51 = [x0, x1]) (hT : md_TM (I 26) (J 36) (A 28) (B 40) B (V 27) Q pl pd) (g0 : ¬ (md_tx (md_e (L (4 + 2 * t)) n) [112, 108, 97, 121, 101, 114] p) = 6) (gw : (md_tx (md_e (L (4 + 2 * t)) n) [111, 110] p) = 2) : it_F X t I A L V Q J B K U Wm R ∨ it_K X t p I A L V Q J B K U Wm R := by
  have heo : ∀ q, n ≤ q → (md_e (L (4 + 2 * t)) n) q = -1 := fun q h => md_e_o h
  have hT0 := hT
  obtain ⟨hEQ, hrg, h40, hfl, hpd, hV, hc, hps⟩ := hT0
  have hE0 : J 36 0 = I 26 2 := hEQ.1
  have hl : pl.length ≤ 12 := by rw [hps.1]; exact hpd.2.2.1
  have hf6 : (A 28).length = 6 := hfl.1
  have hfm : md_FL (B 40) pd := by rw [h40]; exact hfl
  have hm6 : (B 40).length = 6 := hfm.1
  have hc2 : J 36 0 = Int32.ofNat pl.length := by rw [hE0, hc]
  have h83 := ce_83_1 (X := X) (I := I) (A := A) (L := L) (V := V) (Q := Q) ht8 h160 hsz hn hp (by omega) g0 gw
  have hno : ¬ (md_tx (md_e (L (4 + 2 * t)) n) [112, 108, 97, 121, 101, 114] p = 6 ∧ J 36 0 = 12) := fun h => g0 h.1
  by_cases h32 : (md_e (L (4 + 2 * t)) n) (p + 2) = 32
  case neg =>
    have hn1 : md_n1 (md_e (L (4 + 2 * t)) n) (p + 2) 0 6 = none := by unfold md_n1; rw [if_neg (fun h => h32 h.1)]
    have hx := lk_x1 gw h32
    obtain ⟨k0, k1, k2, k3, k4, k5, k6, k7, kf⟩ := hx
    have hw := mt_202_n (X := X) (I := J) (A := B) (L := K) (V := U) (W := Wm) (Q := R) h45 ht8 hn hb he hel heo hq (by omega) k0 k1 k2 k3 k4 k5 k6 k7
    rw [kf] at hw
    have hnf : md_nf (md_e (L (4 + 2 * t)) n) (p + 2) = (p + 2) := by unfold md_nf; rw [if_neg h32]
    have c8 := ce_82_11 (X := X) (I := I) (A := A) (L := L) (V := V) (Q := Q) ht8 h160 hsz hn hp (by omega) hV hl hc h83 hn1
    rw [hnf] at c8
    exact .inl ⟨(p + 2), _, _, B 51, c8, rfl, (it_b (mt_199_n (X := X) (I := J) (A := B) (L := K) (V := U) (W := Wm) (Q := R) h45 ht8 hn hb he hel heo hq (by omega) hno hw)), rfl, (fun j hj => by simp only [en_at, show ¬ j = 30 by omega, show ¬ j = 32 by omega, show ¬ j = 33 by omega, ↓reduceIte, if_false]), by first | rfl | (rw [h51]; rfl), by omega⟩
  have hw := mt_202_w1 (X := X) (I := J) (A := B) (L := K) (V := U) (W := Wm) (Q := R) h45 ht8 hn hb he hel heo hq (by omega) (lk_l0 g0) (lk_k1 gw h32)
  have hnf : md_nf (md_e (L (4 + 2 * t)) n) (p + 2) = (p + 3) := by unfold md_nf; rw [if_pos h32]
  rcases hr1 : md_dg (md_e (L (4 + 2 * t)) n) 4 (p + 3) 0 with ⟨k, a⟩
  have hq1 : md_dg (md_e (L (4 + 2 * t)) n) 4 ((p + 2) + 1) 0 = (k, a) := hr1
  have b4 := md_dg_4 (el := (md_e (L (4 + 2 * t)) n)) (p + 3)
  rw [hr1] at b4
  dsimp only at b4
  by_cases hk : k = 0
  · skip
    have hn1 : md_n1 (md_e (L (4 + 2 * t)) n) (p + 2) 0 6 = none := by
      unfold md_n1
      rw [hq1, if_neg (fun h => h.2 (.inl hk))]
    have c8 := ce_82_11 (X := X) (I := I) (A := A) (L := L) (V := V) (Q := Q) ht8 h160 hsz hn hp (by omega) hV hl hc h83 hn1
    rw [hnf] at c8
    exact .inl ⟨(p + 3), _, _, B 51, c8, rfl, (it_b (mt_199_1_1a (X := X) (I := J) (A := B) (L := K) (V := U) (W := Wm) (Q := R) h45 ht8 hn hb he hel heo hq (by omega) (by omega) hno hw h51 hr1 hk)), rfl, (fun j hj => by simp only [en_at, show ¬ j = 30 by omega, show ¬ j = 32 by omega, show ¬ j = 33 by omega, ↓reduceIte, if_false]), by first | rfl | (rw [h51]; rfl), by omega⟩
  by_cases ho : (0 ≤ a ∧ a < 6)
  case neg =>
    have hn1 : md_n1 (md_e (L (4 + 2 * t)) n) (p + 2) 0 6 = none := by
      unfold md_n1
      rw [hq1, if_neg (fun h => h.2 (by dsimp only; omega))]
    have c8 := ce_82_11 (X := X) (I := I) (A := A) (L := L) (V := V) (Q := Q) ht8 h160 hsz hn hp (by omega) hV hl hc h83 hn1
    rw [hnf] at c8
    exact .inl ⟨(p + 3), _, _, B 51, c8, rfl, (it_b (mt_199_1_1b (X := X) (I := J) (A := B) (L := K) (V := U) (W := Wm) (Q := R) h45 ht8 hn hb he hel heo hq (by omega) (by omega) hno hw h51 hr1 hk ho)), rfl, (fun j hj => by simp only [en_at, show ¬ j = 30 by omega, show ¬ j = 32 by omega, show ¬ j = 33 by omega, ↓reduceIte, if_false]), by first | rfl | (rw [h51]; rfl), by omega⟩
  have hn1 : md_n1 (md_e (L (4 + 2 * t)) n) (p + 2) 0 6 = some (a, (p + 2) + 1 + k) := by
    unfold md_n1
    rw [hq1, if_pos ⟨h32, by dsimp only; omega⟩]
  by_cases h33 : (md_e (L (4 + 2 * t)) n) ((p + 3) + k) = 32
  case neg =>
    have hnf2 : md_nf (md_e (L (4 + 2 * t)) n) ((p + 2) + 1 + k) = (p + 3) + k := by unfold md_nf; rw [if_neg h33]
    have hn2 : md_n1 (md_e (L (4 + 2 * t)) n) ((p + 2) + 1 + k) 0 pl.length = none := by
      unfold md_n1
      rw [if_neg (fun h => h33 h.1)]
    have c8 := ce_82_12 (X := X) (I := I) (A := A) (L := L) (V := V) (Q := Q) ht8 h160 hsz hn hp (by omega) hV hl hc h83 hn1 hn2
    rw [hnf2] at c8
    exact .inl ⟨((p + 3) + k), _, _, [Int32.ofNat a, x1], c8, rfl, (mt_199_1_2c (X := X) (I := J) (A := B) (L := K) (V := U) (W := Wm) (Q := R) h45 ht8 hn hb he hel heo hq (by omega) (by omega) hno hw h51 hr1 hk ho h33), rfl, (fun j hj => by simp only [en_at, show ¬ j = 30 by omega, show ¬ j = 32 by omega, show ¬ j = 33 by omega, ↓reduceIte, if_false]), by first | rfl | (rw [h51]; rfl), by omega⟩
  have hnf2 : md_nf (md_e (L (4 + 2 * t)) n) ((p + 2) + 1 + k) = (p + 3) + k + 1 := by unfold md_nf; rw [if_pos h33]
  rcases hr2 : md_dg (md_e (L (4 + 2 * t)) n) 4 ((p + 3) + k + 1) 0 with ⟨k2, b⟩
  have hq2 : md_dg (md_e (L (4 + 2 * t)) n) 4 ((p + 2) + 1 + k + 1) 0 = (k2, b) := hr2
  have b5 := md_dg_4 (el := (md_e (L (4 + 2 * t)) n)) ((p + 3) + k + 1)
  rw [hr2] at b5
  dsimp only at b5
  by_cases hk2 : k2 = 0
  · skip
    have hn2 : md_n1 (md_e (L (4 + 2 * t)) n) ((p + 2) + 1 + k) 0 pl.length = none := by
      unfold md_n1
      rw [hq2, if_neg (fun h => h.2 (.inl hk2))]
    have c8 := ce_82_12 (X := X) (I := I) (A := A) (L := L) (V := V) (Q := Q) ht8 h160 hsz hn hp (by omega) hV hl hc h83 hn1 hn2
    rw [hnf2] at c8
    exact .inl ⟨((p + 3) + k + 1), _, _, [Int32.ofNat a, x1], c8, rfl, (mt_199_1_2a (X := X) (I := J) (A := B) (L := K) (V := U) (W := Wm) (Q := R) h45 ht8 hn hb he hel heo hq (by omega) (by omega) hno hw h51 hr1 hk ho h33 hr2 hk2), rfl, (fun j hj => by simp only [en_at, show ¬ j = 30 by omega, show ¬ j = 32 by omega, show ¬ j = 33 by omega, ↓reduceIte, if_false]), by first | rfl | (rw [h51]; rfl), by omega⟩
  by_cases ho2 : (0 ≤ b ∧ b < pl.length)
  case neg =>
    have hn2 : md_n1 (md_e (L (4 + 2 * t)) n) ((p + 2) + 1 + k) 0 pl.length = none := by
      unfold md_n1
      rw [hq2, if_neg (fun h => h.2 (by dsimp only; omega))]
    have c8 := ce_82_12 (X := X) (I := I) (A := A) (L := L) (V := V) (Q := Q) ht8 h160 hsz hn hp (by omega) hV hl hc h83 hn1 hn2
    rw [hnf2] at c8
    exact .inl ⟨((p + 3) + k + 1), _, _, [Int32.ofNat a, x1], c8, rfl, (mt_199_1_2b (X := X) (I := J) (A := B) (L := K) (V := U) (W := Wm) (Q := R) h45 ht8 hn hb he hel heo hq (by omega) (by omega) hno hw h51 hr1 hk ho h33 hr2 hk2 hc2 hl ho2), rfl, (fun j hj => by simp only [en_at, show ¬ j = 30 by omega, show ¬ j = 32 by omega, show ¬ j = 33 by omega, ↓reduceIte, if_false]), by first | rfl | (rw [h51]; rfl), by omega⟩
  have hn2 : md_n1 (md_e (L (4 + 2 * t)) n) ((p + 2) + 1 + k) 0 pl.length = some (b, (p + 3) + k + 1 + k2) := by
    unfold md_n1
    rw [hq2, if_pos ⟨h33, by dsimp only; omega⟩]
  refine .inr ?_
  exact ⟨((p + 3) + k + 1 + k2), _, _, _, _, _, _, _, _, _, pl, pd, (ce_82_1k (X := X) (I := I) (A := A) (L := L) (V := V) (Q := Q) ht8 h160 hsz hn hp (by omega) hV hl hc h83 hn1 hn2), it_c2 (ce_93_1 rfl rfl rfl hf6 ho.2), rfl, rfl, by simp, (fun x hx => by simp at hx), (mt_199_1_k (X := X) (I := J) (A := B) (L := K) (V := U) (W := Wm) (Q := R) h45 ht8 hn hb he hel heo hq (by omega) (by omega) hno hw h51 hr1 hk ho h33 hr2 hk2 hc2 hl ho2 hfm), by simp only [as_10, as_01, en_at, ↓reduceIte, Nat.reduceEqDiff, Nat.reduceAdd, as_q0_2, as_q0_3, as_q0_4, as_q0_5, as_q0_6, as_q0_7, as_q1_2, as_q1_3, as_q1_4, as_q1_5, as_q1_6, as_q1_7, as_q2_0, as_q2_1, as_q2_3, as_q2_4, as_q2_5, as_q2_6, as_q2_7, as_q3_0, as_q3_1, as_q3_2, as_q3_4, as_q3_5, as_q3_6, as_q3_7, as_q4_0, as_q4_1, as_q4_2, as_q4_3, as_q4_5, as_q4_6, as_q4_7, as_q5_0, as_q5_1, as_q5_2, as_q5_3, as_q5_4, as_q5_6, as_q5_7, as_q6_0, as_q6_1, as_q6_2, as_q6_3, as_q6_4, as_q6_5, as_q6_7, as_q7_0, as_q7_1, as_q7_2, as_q7_3, as_q7_4, as_q7_5, as_q7_6], by simp only [as_10, as_01, en_at, ↓reduceIte, Nat.reduceEqDiff, Nat.reduceAdd, as_q0_2, as_q0_3, as_q0_4, as_q0_5, as_q0_6, as_q0_7, as_q1_2, as_q1_3, as_q1_4, as_q1_5, as_q1_6, as_q1_7, as_q2_0, as_q2_1, as_q2_3, as_q2_4, as_q2_5, as_q2_6, as_q2_7, as_q3_0, as_q3_1, as_q3_2, as_q3_4, as_q3_5, as_q3_6, as_q3_7, as_q4_0, as_q4_1, as_q4_2, as_q4_3, as_q4_5, as_q4_6, as_q4_7, as_q5_0, as_q5_1, as_q5_2, as_q5_3, as_q5_4, as_q5_6, as_q5_7, as_q6_0, as_q6_1, as_q6_2, as_q6_3, as_q6_4, as_q6_5, as_q6_7, as_q7_0, as_q7_1, as_q7_2, as_q7_3, as_q7_4, as_q7_5, as_q7_6], by simp only [as_10, as_01, en_at, ↓reduceIte, Nat.reduceEqDiff, Nat.reduceAdd, as_q0_2, as_q0_3, as_q0_4, as_q0_5, as_q0_6, as_q0_7, as_q1_2, as_q1_3, as_q1_4, as_q1_5, as_q1_6, as_q1_7, as_q2_0, as_q2_1, as_q2_3, as_q2_4, as_q2_5, as_q2_6, as_q2_7, as_q3_0, as_q3_1, as_q3_2, as_q3_4, as_q3_5, as_q3_6, as_q3_7, as_q4_0, as_q4_1, as_q4_2, as_q4_3, as_q4_5, as_q4_6, as_q4_7, as_q5_0, as_q5_1, as_q5_2, as_q5_3, as_q5_4, as_q5_6, as_q5_7, as_q6_0, as_q6_1, as_q6_2, as_q6_3, as_q6_4, as_q6_5, as_q6_7, as_q7_0, as_q7_1, as_q7_2, as_q7_3, as_q7_4, as_q7_5, as_q7_6], by simp only [as_10, as_01, en_at, ↓reduceIte, Nat.reduceEqDiff, Nat.reduceAdd, as_q0_2, as_q0_3, as_q0_4, as_q0_5, as_q0_6, as_q0_7, as_q1_2, as_q1_3, as_q1_4, as_q1_5, as_q1_6, as_q1_7, as_q2_0, as_q2_1, as_q2_3, as_q2_4, as_q2_5, as_q2_6, as_q2_7, as_q3_0, as_q3_1, as_q3_2, as_q3_4, as_q3_5, as_q3_6, as_q3_7, as_q4_0, as_q4_1, as_q4_2, as_q4_3, as_q4_5, as_q4_6, as_q4_7, as_q5_0, as_q5_1, as_q5_2, as_q5_3, as_q5_4, as_q5_6, as_q5_7, as_q6_0, as_q6_1, as_q6_2, as_q6_3, as_q6_4, as_q6_5, as_q6_7, as_q7_0, as_q7_1, as_q7_2, as_q7_3, as_q7_4, as_q7_5, as_q7_6], (fun j hj => by simp only [as_10, as_01, en_at, ↓reduceIte, Nat.reduceEqDiff, Nat.reduceAdd, as_q0_2, as_q0_3, as_q0_4, as_q0_5, as_q0_6, as_q0_7, as_q1_2, as_q1_3, as_q1_4, as_q1_5, as_q1_6, as_q1_7, as_q2_0, as_q2_1, as_q2_3, as_q2_4, as_q2_5, as_q2_6, as_q2_7, as_q3_0, as_q3_1, as_q3_2, as_q3_4, as_q3_5, as_q3_6, as_q3_7, as_q4_0, as_q4_1, as_q4_2, as_q4_3, as_q4_5, as_q4_6, as_q4_7, as_q5_0, as_q5_1, as_q5_2, as_q5_3, as_q5_4, as_q5_6, as_q5_7, as_q6_0, as_q6_1, as_q6_2, as_q6_3, as_q6_4, as_q6_5, as_q6_7, as_q7_0, as_q7_1, as_q7_2, as_q7_3, as_q7_4, as_q7_5, as_q7_6, show ¬ j = 0 by omega, show ¬ j = 1 by omega, show ¬ j = 2 by omega, show ¬ j = 3 by omega, show ¬ j = 4 by omega, show ¬ j = 5 by omega, show ¬ j = 6 by omega, show ¬ j = 7 by omega, show ¬ j = 8 by omega, show ¬ j = 9 by omega, show ¬ j = 10 by omega, show ¬ j = 11 by omega, show ¬ j = 30 by omega, show ¬ j = 32 by omega, show ¬ j = 38 by omega]), by first | rfl | exact h51, (fun j h1 h2 h3 h4 => by simp only [en_at, h1, h2, h3, h4, ↓reduceIte]), by omega, by omega, (by rw [List.append_nil]; exact tm_A (tm_1 (tm_Z hT (fun j hj => by simp only [en_at, show ¬ j = 30 by omega, show ¬ j = 32 by omega, ↓reduceIte, if_false])) ho.2 ho2.2 hl) rfl rfl), pl.length, hc, hl, by simp⟩

theorem it_2 {X : List Int32} {I : Nat → Nat → Int32} {A : Nat → List Int32} {L : Nat → List Int64} {V : Nat → List Value} {Q : am_Mem} {J : Nat → Nat → Int32} {B : Nat → List Int32} {K : Nat → List Int64} {U : Nat → List Value} {Wm : Value} {R : am_Mem} {t n p : Nat} {pl : List Nat} {pd : List (Nat × Int32)} {x0 x1 : Int32} (ht8 : t < 8) (h160 : (L (4 + 2 * t)).length = 160) (hsz : I (3 + 2 * t) 2 = Int32.ofNat n) (hn : n ≤ 160) (hp : I 33 2 = Int32.ofNat p) (h45 : (K 45).length = 1280) (hb : J 36 29 = Int32.ofNat (160 * t)) (he : J 36 31 = Int32.ofNat n) (hel : ∀ q, q < n → ((K 45).getD (160 * t + q) 0).toInt32 = (md_e (L (4 + 2 * t)) n) q) (hq : J 36 30 = Int32.ofNat p) (hpn : p ≤ n) (h51 : B 51 = [x0, x1]) (hT : md_TM (I 26) (J 36) (A 28) (B 40) B (V 27) Q pl pd) (g0 : ¬ (md_tx (md_e (L (4 + 2 * t)) n) [112, 108, 97, 121, 101, 114] p) = 6) (g1 : ¬ (md_tx (md_e (L (4 + 2 * t)) n) [111, 110] p) = 2) (gw : (md_tx (md_e (L (4 + 2 * t)) n) [116, 117, 114, 110] p) = 4) : it_F X t I A L V Q J B K U Wm R ∨ it_K X t p I A L V Q J B K U Wm R := by
  have heo : ∀ q, n ≤ q → (md_e (L (4 + 2 * t)) n) q = -1 := fun q h => md_e_o h
  have hT0 := hT
  obtain ⟨hEQ, hrg, h40, hfl, hpd, hV, hc, hps⟩ := hT0
  have hE0 : J 36 0 = I 26 2 := hEQ.1
  have hl : pl.length ≤ 12 := by rw [hps.1]; exact hpd.2.2.1
  have hf6 : (A 28).length = 6 := hfl.1
  have hfm : md_FL (B 40) pd := by rw [h40]; exact hfl
  have hm6 : (B 40).length = 6 := hfm.1
  have hc2 : J 36 0 = Int32.ofNat pl.length := by rw [hE0, hc]
  have h83 := ce_83_2 (X := X) (I := I) (A := A) (L := L) (V := V) (Q := Q) ht8 h160 hsz hn hp (by omega) g0 g1 gw
  have hno : ¬ (md_tx (md_e (L (4 + 2 * t)) n) [112, 108, 97, 121, 101, 114] p = 6 ∧ J 36 0 = 12) := fun h => g0 h.1
  have hw := mt_202_w2 (X := X) (I := J) (A := B) (L := K) (V := U) (W := Wm) (Q := R) h45 ht8 hn hb he hel heo hq (by omega) (lk_l0 g0) (lk_l1 g1) gw
  refine .inr ?_
  exact ⟨(p + 4), _, _, _, _, _, _, _, _, _, pl, pd, (ce_82_2k (X := X) (I := I) (A := A) (L := L) (V := V) (Q := Q) ht8 h160 hsz hn hp (by omega) hV hl hc h83), it_c2 (ce_93_2 rfl hf6), rfl, rfl, by simp, (fun x hx => by simp at hx), (mt_199_2_k (X := X) (I := J) (A := B) (L := K) (V := U) (W := Wm) (Q := R) h45 ht8 hn hb he hel heo hq (by omega) (by omega) hno hw h51 hm6), by simp only [as_10, as_01, en_at, ↓reduceIte, Nat.reduceEqDiff, Nat.reduceAdd, as_q0_2, as_q0_3, as_q0_4, as_q0_5, as_q0_6, as_q0_7, as_q1_2, as_q1_3, as_q1_4, as_q1_5, as_q1_6, as_q1_7, as_q2_0, as_q2_1, as_q2_3, as_q2_4, as_q2_5, as_q2_6, as_q2_7, as_q3_0, as_q3_1, as_q3_2, as_q3_4, as_q3_5, as_q3_6, as_q3_7, as_q4_0, as_q4_1, as_q4_2, as_q4_3, as_q4_5, as_q4_6, as_q4_7, as_q5_0, as_q5_1, as_q5_2, as_q5_3, as_q5_4, as_q5_6, as_q5_7, as_q6_0, as_q6_1, as_q6_2, as_q6_3, as_q6_4, as_q6_5, as_q6_7, as_q7_0, as_q7_1, as_q7_2, as_q7_3, as_q7_4, as_q7_5, as_q7_6], by simp only [as_10, as_01, en_at, ↓reduceIte, Nat.reduceEqDiff, Nat.reduceAdd, as_q0_2, as_q0_3, as_q0_4, as_q0_5, as_q0_6, as_q0_7, as_q1_2, as_q1_3, as_q1_4, as_q1_5, as_q1_6, as_q1_7, as_q2_0, as_q2_1, as_q2_3, as_q2_4, as_q2_5, as_q2_6, as_q2_7, as_q3_0, as_q3_1, as_q3_2, as_q3_4, as_q3_5, as_q3_6, as_q3_7, as_q4_0, as_q4_1, as_q4_2, as_q4_3, as_q4_5, as_q4_6, as_q4_7, as_q5_0, as_q5_1, as_q5_2, as_q5_3, as_q5_4, as_q5_6, as_q5_7, as_q6_0, as_q6_1, as_q6_2, as_q6_3, as_q6_4, as_q6_5, as_q6_7, as_q7_0, as_q7_1, as_q7_2, as_q7_3, as_q7_4, as_q7_5, as_q7_6], by simp only [as_10, as_01, en_at, ↓reduceIte, Nat.reduceEqDiff, Nat.reduceAdd, as_q0_2, as_q0_3, as_q0_4, as_q0_5, as_q0_6, as_q0_7, as_q1_2, as_q1_3, as_q1_4, as_q1_5, as_q1_6, as_q1_7, as_q2_0, as_q2_1, as_q2_3, as_q2_4, as_q2_5, as_q2_6, as_q2_7, as_q3_0, as_q3_1, as_q3_2, as_q3_4, as_q3_5, as_q3_6, as_q3_7, as_q4_0, as_q4_1, as_q4_2, as_q4_3, as_q4_5, as_q4_6, as_q4_7, as_q5_0, as_q5_1, as_q5_2, as_q5_3, as_q5_4, as_q5_6, as_q5_7, as_q6_0, as_q6_1, as_q6_2, as_q6_3, as_q6_4, as_q6_5, as_q6_7, as_q7_0, as_q7_1, as_q7_2, as_q7_3, as_q7_4, as_q7_5, as_q7_6], by simp only [as_10, as_01, en_at, ↓reduceIte, Nat.reduceEqDiff, Nat.reduceAdd, as_q0_2, as_q0_3, as_q0_4, as_q0_5, as_q0_6, as_q0_7, as_q1_2, as_q1_3, as_q1_4, as_q1_5, as_q1_6, as_q1_7, as_q2_0, as_q2_1, as_q2_3, as_q2_4, as_q2_5, as_q2_6, as_q2_7, as_q3_0, as_q3_1, as_q3_2, as_q3_4, as_q3_5, as_q3_6, as_q3_7, as_q4_0, as_q4_1, as_q4_2, as_q4_3, as_q4_5, as_q4_6, as_q4_7, as_q5_0, as_q5_1, as_q5_2, as_q5_3, as_q5_4, as_q5_6, as_q5_7, as_q6_0, as_q6_1, as_q6_2, as_q6_3, as_q6_4, as_q6_5, as_q6_7, as_q7_0, as_q7_1, as_q7_2, as_q7_3, as_q7_4, as_q7_5, as_q7_6], (fun j hj => by simp only [as_10, as_01, en_at, ↓reduceIte, Nat.reduceEqDiff, Nat.reduceAdd, as_q0_2, as_q0_3, as_q0_4, as_q0_5, as_q0_6, as_q0_7, as_q1_2, as_q1_3, as_q1_4, as_q1_5, as_q1_6, as_q1_7, as_q2_0, as_q2_1, as_q2_3, as_q2_4, as_q2_5, as_q2_6, as_q2_7, as_q3_0, as_q3_1, as_q3_2, as_q3_4, as_q3_5, as_q3_6, as_q3_7, as_q4_0, as_q4_1, as_q4_2, as_q4_3, as_q4_5, as_q4_6, as_q4_7, as_q5_0, as_q5_1, as_q5_2, as_q5_3, as_q5_4, as_q5_6, as_q5_7, as_q6_0, as_q6_1, as_q6_2, as_q6_3, as_q6_4, as_q6_5, as_q6_7, as_q7_0, as_q7_1, as_q7_2, as_q7_3, as_q7_4, as_q7_5, as_q7_6, show ¬ j = 0 by omega, show ¬ j = 1 by omega, show ¬ j = 2 by omega, show ¬ j = 3 by omega, show ¬ j = 4 by omega, show ¬ j = 5 by omega, show ¬ j = 6 by omega, show ¬ j = 7 by omega, show ¬ j = 8 by omega, show ¬ j = 9 by omega, show ¬ j = 10 by omega, show ¬ j = 11 by omega, show ¬ j = 30 by omega, show ¬ j = 32 by omega, show ¬ j = 38 by omega]), by first | rfl | exact h51, (fun j h1 h2 h3 h4 => by simp only [en_at, h1, h2, h3, h4, ↓reduceIte]), by omega, by omega, (by rw [List.append_nil]; exact tm_A (tm_2 (tm_Z hT (fun j hj => by simp only [en_at, show ¬ j = 30 by omega, show ¬ j = 32 by omega, ↓reduceIte, if_false]))) rfl rfl), pl.length, hc, hl, by simp⟩

theorem it_3 {X : List Int32} {I : Nat → Nat → Int32} {A : Nat → List Int32} {L : Nat → List Int64} {V : Nat → List Value} {Q : am_Mem} {J : Nat → Nat → Int32} {B : Nat → List Int32} {K : Nat → List Int64} {U : Nat → List Value} {Wm : Value} {R : am_Mem} {t n p : Nat} {pl : List Nat} {pd : List (Nat × Int32)} {x0 x1 : Int32} (ht8 : t < 8) (h160 : (L (4 + 2 * t)).length = 160) (hsz : I (3 + 2 * t) 2 = Int32.ofNat n) (hn : n ≤ 160) (hp : I 33 2 = Int32.ofNat p) (h45 : (K 45).length = 1280) (hb : J 36 29 = Int32.ofNat (160 * t)) (he : J 36 31 = Int32.ofNat n) (hel : ∀ q, q < n → ((K 45).getD (160 * t + q) 0).toInt32 = (md_e (L (4 + 2 * t)) n) q) (hq : J 36 30 = Int32.ofNat p) (hpn : p ≤ n) (h51 : B 51 = [x0, x1]) (hT : md_TM (I 26) (J 36) (A 28) (B 40) B (V 27) Q pl pd) (g0 : ¬ (md_tx (md_e (L (4 + 2 * t)) n) [112, 108, 97, 121, 101, 114] p) = 6) (g1 : ¬ (md_tx (md_e (L (4 + 2 * t)) n) [111, 110] p) = 2) (g2 : ¬ (md_tx (md_e (L (4 + 2 * t)) n) [116, 117, 114, 110] p) = 4) (gw : (md_tx (md_e (L (4 + 2 * t)) n) [98, 108, 111, 99, 107] p) = 5) : it_F X t I A L V Q J B K U Wm R ∨ it_K X t p I A L V Q J B K U Wm R := by
  have heo : ∀ q, n ≤ q → (md_e (L (4 + 2 * t)) n) q = -1 := fun q h => md_e_o h
  have hT0 := hT
  obtain ⟨hEQ, hrg, h40, hfl, hpd, hV, hc, hps⟩ := hT0
  have hE0 : J 36 0 = I 26 2 := hEQ.1
  have hl : pl.length ≤ 12 := by rw [hps.1]; exact hpd.2.2.1
  have hf6 : (A 28).length = 6 := hfl.1
  have hfm : md_FL (B 40) pd := by rw [h40]; exact hfl
  have hm6 : (B 40).length = 6 := hfm.1
  have hc2 : J 36 0 = Int32.ofNat pl.length := by rw [hE0, hc]
  have h83 := ce_83_3 (X := X) (I := I) (A := A) (L := L) (V := V) (Q := Q) ht8 h160 hsz hn hp (by omega) g0 g1 g2 gw
  have hno : ¬ (md_tx (md_e (L (4 + 2 * t)) n) [112, 108, 97, 121, 101, 114] p = 6 ∧ J 36 0 = 12) := fun h => g0 h.1
  by_cases h32 : (md_e (L (4 + 2 * t)) n) (p + 5) = 32
  case neg =>
    have hn1 : md_n1 (md_e (L (4 + 2 * t)) n) (p + 5) 0 61 = none := by unfold md_n1; rw [if_neg (fun h => h32 h.1)]
    have hx := lk_x3 gw h32
    obtain ⟨k0, k1, k2, k3, k4, k5, k6, k7, kf⟩ := hx
    have hw := mt_202_n (X := X) (I := J) (A := B) (L := K) (V := U) (W := Wm) (Q := R) h45 ht8 hn hb he hel heo hq (by omega) k0 k1 k2 k3 k4 k5 k6 k7
    rw [kf] at hw
    have hnf : md_nf (md_e (L (4 + 2 * t)) n) (p + 5) = (p + 5) := by unfold md_nf; rw [if_neg h32]
    have c8 := ce_82_31 (X := X) (I := I) (A := A) (L := L) (V := V) (Q := Q) ht8 h160 hsz hn hp (by omega) hV hl hc h83 hn1
    rw [hnf] at c8
    exact .inl ⟨(p + 5), _, _, B 51, c8, rfl, (it_b (mt_199_n (X := X) (I := J) (A := B) (L := K) (V := U) (W := Wm) (Q := R) h45 ht8 hn hb he hel heo hq (by omega) hno hw)), rfl, (fun j hj => by simp only [en_at, show ¬ j = 30 by omega, show ¬ j = 32 by omega, show ¬ j = 33 by omega, ↓reduceIte, if_false]), by first | rfl | (rw [h51]; rfl), by omega⟩
  have hw := mt_202_w3 (X := X) (I := J) (A := B) (L := K) (V := U) (W := Wm) (Q := R) h45 ht8 hn hb he hel heo hq (by omega) (lk_l0 g0) (lk_l1 g1) (lk_l2 g2) (lk_k3 gw h32)
  have hnf : md_nf (md_e (L (4 + 2 * t)) n) (p + 5) = (p + 6) := by unfold md_nf; rw [if_pos h32]
  rcases hr1 : md_dg (md_e (L (4 + 2 * t)) n) 4 (p + 6) 0 with ⟨k, a⟩
  have hq1 : md_dg (md_e (L (4 + 2 * t)) n) 4 ((p + 5) + 1) 0 = (k, a) := hr1
  have b4 := md_dg_4 (el := (md_e (L (4 + 2 * t)) n)) (p + 6)
  rw [hr1] at b4
  dsimp only at b4
  by_cases hk : k = 0
  · skip
    have hn1 : md_n1 (md_e (L (4 + 2 * t)) n) (p + 5) 0 61 = none := by
      unfold md_n1
      rw [hq1, if_neg (fun h => h.2 (.inl hk))]
    have c8 := ce_82_31 (X := X) (I := I) (A := A) (L := L) (V := V) (Q := Q) ht8 h160 hsz hn hp (by omega) hV hl hc h83 hn1
    rw [hnf] at c8
    exact .inl ⟨(p + 6), _, _, B 51, c8, rfl, (it_b (mt_199_3_1a (X := X) (I := J) (A := B) (L := K) (V := U) (W := Wm) (Q := R) h45 ht8 hn hb he hel heo hq (by omega) (by omega) hno hw h51 hr1 hk)), rfl, (fun j hj => by simp only [en_at, show ¬ j = 30 by omega, show ¬ j = 32 by omega, show ¬ j = 33 by omega, ↓reduceIte, if_false]), by first | rfl | (rw [h51]; rfl), by omega⟩
  by_cases ho : (0 ≤ a ∧ a < 61)
  case neg =>
    have hn1 : md_n1 (md_e (L (4 + 2 * t)) n) (p + 5) 0 61 = none := by
      unfold md_n1
      rw [hq1, if_neg (fun h => h.2 (by dsimp only; omega))]
    have c8 := ce_82_31 (X := X) (I := I) (A := A) (L := L) (V := V) (Q := Q) ht8 h160 hsz hn hp (by omega) hV hl hc h83 hn1
    rw [hnf] at c8
    exact .inl ⟨(p + 6), _, _, B 51, c8, rfl, (it_b (mt_199_3_1b (X := X) (I := J) (A := B) (L := K) (V := U) (W := Wm) (Q := R) h45 ht8 hn hb he hel heo hq (by omega) (by omega) hno hw h51 hr1 hk ho)), rfl, (fun j hj => by simp only [en_at, show ¬ j = 30 by omega, show ¬ j = 32 by omega, show ¬ j = 33 by omega, ↓reduceIte, if_false]), by first | rfl | (rw [h51]; rfl), by omega⟩
  have hn1 : md_n1 (md_e (L (4 + 2 * t)) n) (p + 5) 0 61 = some (a, (p + 5) + 1 + k) := by
    unfold md_n1
    rw [hq1, if_pos ⟨h32, by dsimp only; omega⟩]
  refine .inr ?_
  exact ⟨((p + 6) + k), _, _, _, _, _, _, _, _, _, pl, pd, (ce_82_3k (X := X) (I := I) (A := A) (L := L) (V := V) (Q := Q) ht8 h160 hsz hn hp (by omega) hV hl hc h83 hn1), it_c1 (ce_93_3 rfl rfl), rfl, rfl, by simp, (fun x hx => by simp at hx), (mt_199_3_k (X := X) (I := J) (A := B) (L := K) (V := U) (W := Wm) (Q := R) h45 ht8 hn hb he hel heo hq (by omega) (by omega) hno hw h51 hr1 hk ho), by simp only [md_tl, as_10, as_01, en_at, ↓reduceIte, Nat.reduceEqDiff, Nat.reduceAdd, as_q0_2, as_q0_3, as_q0_4, as_q0_5, as_q0_6, as_q0_7, as_q1_2, as_q1_3, as_q1_4, as_q1_5, as_q1_6, as_q1_7, as_q2_0, as_q2_1, as_q2_3, as_q2_4, as_q2_5, as_q2_6, as_q2_7, as_q3_0, as_q3_1, as_q3_2, as_q3_4, as_q3_5, as_q3_6, as_q3_7, as_q4_0, as_q4_1, as_q4_2, as_q4_3, as_q4_5, as_q4_6, as_q4_7, as_q5_0, as_q5_1, as_q5_2, as_q5_3, as_q5_4, as_q5_6, as_q5_7, as_q6_0, as_q6_1, as_q6_2, as_q6_3, as_q6_4, as_q6_5, as_q6_7, as_q7_0, as_q7_1, as_q7_2, as_q7_3, as_q7_4, as_q7_5, as_q7_6], by simp only [md_tl, as_10, as_01, en_at, ↓reduceIte, Nat.reduceEqDiff, Nat.reduceAdd, as_q0_2, as_q0_3, as_q0_4, as_q0_5, as_q0_6, as_q0_7, as_q1_2, as_q1_3, as_q1_4, as_q1_5, as_q1_6, as_q1_7, as_q2_0, as_q2_1, as_q2_3, as_q2_4, as_q2_5, as_q2_6, as_q2_7, as_q3_0, as_q3_1, as_q3_2, as_q3_4, as_q3_5, as_q3_6, as_q3_7, as_q4_0, as_q4_1, as_q4_2, as_q4_3, as_q4_5, as_q4_6, as_q4_7, as_q5_0, as_q5_1, as_q5_2, as_q5_3, as_q5_4, as_q5_6, as_q5_7, as_q6_0, as_q6_1, as_q6_2, as_q6_3, as_q6_4, as_q6_5, as_q6_7, as_q7_0, as_q7_1, as_q7_2, as_q7_3, as_q7_4, as_q7_5, as_q7_6], by simp only [md_tl, as_10, as_01, en_at, ↓reduceIte, Nat.reduceEqDiff, Nat.reduceAdd, as_q0_2, as_q0_3, as_q0_4, as_q0_5, as_q0_6, as_q0_7, as_q1_2, as_q1_3, as_q1_4, as_q1_5, as_q1_6, as_q1_7, as_q2_0, as_q2_1, as_q2_3, as_q2_4, as_q2_5, as_q2_6, as_q2_7, as_q3_0, as_q3_1, as_q3_2, as_q3_4, as_q3_5, as_q3_6, as_q3_7, as_q4_0, as_q4_1, as_q4_2, as_q4_3, as_q4_5, as_q4_6, as_q4_7, as_q5_0, as_q5_1, as_q5_2, as_q5_3, as_q5_4, as_q5_6, as_q5_7, as_q6_0, as_q6_1, as_q6_2, as_q6_3, as_q6_4, as_q6_5, as_q6_7, as_q7_0, as_q7_1, as_q7_2, as_q7_3, as_q7_4, as_q7_5, as_q7_6], by simp only [md_tl, as_10, as_01, en_at, ↓reduceIte, Nat.reduceEqDiff, Nat.reduceAdd, as_q0_2, as_q0_3, as_q0_4, as_q0_5, as_q0_6, as_q0_7, as_q1_2, as_q1_3, as_q1_4, as_q1_5, as_q1_6, as_q1_7, as_q2_0, as_q2_1, as_q2_3, as_q2_4, as_q2_5, as_q2_6, as_q2_7, as_q3_0, as_q3_1, as_q3_2, as_q3_4, as_q3_5, as_q3_6, as_q3_7, as_q4_0, as_q4_1, as_q4_2, as_q4_3, as_q4_5, as_q4_6, as_q4_7, as_q5_0, as_q5_1, as_q5_2, as_q5_3, as_q5_4, as_q5_6, as_q5_7, as_q6_0, as_q6_1, as_q6_2, as_q6_3, as_q6_4, as_q6_5, as_q6_7, as_q7_0, as_q7_1, as_q7_2, as_q7_3, as_q7_4, as_q7_5, as_q7_6], (fun j hj => by simp only [md_tl, as_10, as_01, en_at, ↓reduceIte, Nat.reduceEqDiff, Nat.reduceAdd, as_q0_2, as_q0_3, as_q0_4, as_q0_5, as_q0_6, as_q0_7, as_q1_2, as_q1_3, as_q1_4, as_q1_5, as_q1_6, as_q1_7, as_q2_0, as_q2_1, as_q2_3, as_q2_4, as_q2_5, as_q2_6, as_q2_7, as_q3_0, as_q3_1, as_q3_2, as_q3_4, as_q3_5, as_q3_6, as_q3_7, as_q4_0, as_q4_1, as_q4_2, as_q4_3, as_q4_5, as_q4_6, as_q4_7, as_q5_0, as_q5_1, as_q5_2, as_q5_3, as_q5_4, as_q5_6, as_q5_7, as_q6_0, as_q6_1, as_q6_2, as_q6_3, as_q6_4, as_q6_5, as_q6_7, as_q7_0, as_q7_1, as_q7_2, as_q7_3, as_q7_4, as_q7_5, as_q7_6, show ¬ j = 0 by omega, show ¬ j = 1 by omega, show ¬ j = 2 by omega, show ¬ j = 3 by omega, show ¬ j = 4 by omega, show ¬ j = 5 by omega, show ¬ j = 6 by omega, show ¬ j = 7 by omega, show ¬ j = 8 by omega, show ¬ j = 9 by omega, show ¬ j = 10 by omega, show ¬ j = 11 by omega, show ¬ j = 30 by omega, show ¬ j = 32 by omega, show ¬ j = 38 by omega]), by first | rfl | exact h51, (fun j h1 h2 h3 h4 => by simp only [en_at, h1, h2, h3, h4, ↓reduceIte]), by omega, by omega, (by rw [List.append_nil]; exact tm_A (tm_a0 (tm_Z hT (fun j hj => by simp only [en_at, show ¬ j = 30 by omega, show ¬ j = 32 by omega, ↓reduceIte, if_false])) (by omega)) rfl rfl), pl.length, hc, hl, by simp⟩

theorem it_4 {X : List Int32} {I : Nat → Nat → Int32} {A : Nat → List Int32} {L : Nat → List Int64} {V : Nat → List Value} {Q : am_Mem} {J : Nat → Nat → Int32} {B : Nat → List Int32} {K : Nat → List Int64} {U : Nat → List Value} {Wm : Value} {R : am_Mem} {t n p : Nat} {pl : List Nat} {pd : List (Nat × Int32)} {x0 x1 : Int32} (ht8 : t < 8) (h160 : (L (4 + 2 * t)).length = 160) (hsz : I (3 + 2 * t) 2 = Int32.ofNat n) (hn : n ≤ 160) (hp : I 33 2 = Int32.ofNat p) (h45 : (K 45).length = 1280) (hb : J 36 29 = Int32.ofNat (160 * t)) (he : J 36 31 = Int32.ofNat n) (hel : ∀ q, q < n → ((K 45).getD (160 * t + q) 0).toInt32 = (md_e (L (4 + 2 * t)) n) q) (hq : J 36 30 = Int32.ofNat p) (hpn : p ≤ n) (h51 : B 51 = [x0, x1]) (hT : md_TM (I 26) (J 36) (A 28) (B 40) B (V 27) Q pl pd) (g0 : ¬ (md_tx (md_e (L (4 + 2 * t)) n) [112, 108, 97, 121, 101, 114] p) = 6) (g1 : ¬ (md_tx (md_e (L (4 + 2 * t)) n) [111, 110] p) = 2) (g2 : ¬ (md_tx (md_e (L (4 + 2 * t)) n) [116, 117, 114, 110] p) = 4) (g3 : ¬ (md_tx (md_e (L (4 + 2 * t)) n) [98, 108, 111, 99, 107] p) = 5) (gw : (md_tx (md_e (L (4 + 2 * t)) n) [115, 101, 114, 118, 101] p) = 5) : it_F X t I A L V Q J B K U Wm R ∨ it_K X t p I A L V Q J B K U Wm R := by
  have heo : ∀ q, n ≤ q → (md_e (L (4 + 2 * t)) n) q = -1 := fun q h => md_e_o h
  have hT0 := hT
  obtain ⟨hEQ, hrg, h40, hfl, hpd, hV, hc, hps⟩ := hT0
  have hE0 : J 36 0 = I 26 2 := hEQ.1
  have hl : pl.length ≤ 12 := by rw [hps.1]; exact hpd.2.2.1
  have hf6 : (A 28).length = 6 := hfl.1
  have hfm : md_FL (B 40) pd := by rw [h40]; exact hfl
  have hm6 : (B 40).length = 6 := hfm.1
  have hc2 : J 36 0 = Int32.ofNat pl.length := by rw [hE0, hc]
  have h83 := ce_83_4 (X := X) (I := I) (A := A) (L := L) (V := V) (Q := Q) ht8 h160 hsz hn hp (by omega) g0 g1 g2 g3 gw
  have hno : ¬ (md_tx (md_e (L (4 + 2 * t)) n) [112, 108, 97, 121, 101, 114] p = 6 ∧ J 36 0 = 12) := fun h => g0 h.1
  by_cases h32 : (md_e (L (4 + 2 * t)) n) (p + 5) = 32
  case neg =>
    have hn1 : md_n1 (md_e (L (4 + 2 * t)) n) (p + 5) 0 6 = none := by unfold md_n1; rw [if_neg (fun h => h32 h.1)]
    have hx := lk_x4 gw h32
    obtain ⟨k0, k1, k2, k3, k4, k5, k6, k7, kf⟩ := hx
    have hw := mt_202_n (X := X) (I := J) (A := B) (L := K) (V := U) (W := Wm) (Q := R) h45 ht8 hn hb he hel heo hq (by omega) k0 k1 k2 k3 k4 k5 k6 k7
    rw [kf] at hw
    have hnf : md_nf (md_e (L (4 + 2 * t)) n) (p + 5) = (p + 5) := by unfold md_nf; rw [if_neg h32]
    have c8 := ce_82_41 (X := X) (I := I) (A := A) (L := L) (V := V) (Q := Q) ht8 h160 hsz hn hp (by omega) hV hl hc h83 hn1
    rw [hnf] at c8
    exact .inl ⟨(p + 5), _, _, B 51, c8, rfl, (it_b (mt_199_n (X := X) (I := J) (A := B) (L := K) (V := U) (W := Wm) (Q := R) h45 ht8 hn hb he hel heo hq (by omega) hno hw)), rfl, (fun j hj => by simp only [en_at, show ¬ j = 30 by omega, show ¬ j = 32 by omega, show ¬ j = 33 by omega, ↓reduceIte, if_false]), by first | rfl | (rw [h51]; rfl), by omega⟩
  have hw := mt_202_w4 (X := X) (I := J) (A := B) (L := K) (V := U) (W := Wm) (Q := R) h45 ht8 hn hb he hel heo hq (by omega) (lk_l0 g0) (lk_l1 g1) (lk_l2 g2) (lk_l3 g3) (lk_k4 gw h32)
  have hnf : md_nf (md_e (L (4 + 2 * t)) n) (p + 5) = (p + 6) := by unfold md_nf; rw [if_pos h32]
  rcases hr1 : md_dg (md_e (L (4 + 2 * t)) n) 4 (p + 6) 0 with ⟨k, a⟩
  have hq1 : md_dg (md_e (L (4 + 2 * t)) n) 4 ((p + 5) + 1) 0 = (k, a) := hr1
  have b4 := md_dg_4 (el := (md_e (L (4 + 2 * t)) n)) (p + 6)
  rw [hr1] at b4
  dsimp only at b4
  by_cases hk : k = 0
  · skip
    have hn1 : md_n1 (md_e (L (4 + 2 * t)) n) (p + 5) 0 6 = none := by
      unfold md_n1
      rw [hq1, if_neg (fun h => h.2 (.inl hk))]
    have c8 := ce_82_41 (X := X) (I := I) (A := A) (L := L) (V := V) (Q := Q) ht8 h160 hsz hn hp (by omega) hV hl hc h83 hn1
    rw [hnf] at c8
    exact .inl ⟨(p + 6), _, _, B 51, c8, rfl, (it_b (mt_199_4_1a (X := X) (I := J) (A := B) (L := K) (V := U) (W := Wm) (Q := R) h45 ht8 hn hb he hel heo hq (by omega) (by omega) hno hw h51 hr1 hk)), rfl, (fun j hj => by simp only [en_at, show ¬ j = 30 by omega, show ¬ j = 32 by omega, show ¬ j = 33 by omega, ↓reduceIte, if_false]), by first | rfl | (rw [h51]; rfl), by omega⟩
  by_cases ho : (0 ≤ a ∧ a < 6)
  case neg =>
    have hn1 : md_n1 (md_e (L (4 + 2 * t)) n) (p + 5) 0 6 = none := by
      unfold md_n1
      rw [hq1, if_neg (fun h => h.2 (by dsimp only; omega))]
    have c8 := ce_82_41 (X := X) (I := I) (A := A) (L := L) (V := V) (Q := Q) ht8 h160 hsz hn hp (by omega) hV hl hc h83 hn1
    rw [hnf] at c8
    exact .inl ⟨(p + 6), _, _, B 51, c8, rfl, (it_b (mt_199_4_1b (X := X) (I := J) (A := B) (L := K) (V := U) (W := Wm) (Q := R) h45 ht8 hn hb he hel heo hq (by omega) (by omega) hno hw h51 hr1 hk ho)), rfl, (fun j hj => by simp only [en_at, show ¬ j = 30 by omega, show ¬ j = 32 by omega, show ¬ j = 33 by omega, ↓reduceIte, if_false]), by first | rfl | (rw [h51]; rfl), by omega⟩
  have hn1 : md_n1 (md_e (L (4 + 2 * t)) n) (p + 5) 0 6 = some (a, (p + 5) + 1 + k) := by
    unfold md_n1
    rw [hq1, if_pos ⟨h32, by dsimp only; omega⟩]
  by_cases h33 : (md_e (L (4 + 2 * t)) n) ((p + 6) + k) = 32
  case neg =>
    have hnf2 : md_nf (md_e (L (4 + 2 * t)) n) ((p + 5) + 1 + k) = (p + 6) + k := by unfold md_nf; rw [if_neg h33]
    have hn2 : md_n1 (md_e (L (4 + 2 * t)) n) ((p + 5) + 1 + k) 0 10 = none := by
      unfold md_n1
      rw [if_neg (fun h => h33 h.1)]
    have c8 := ce_82_42 (X := X) (I := I) (A := A) (L := L) (V := V) (Q := Q) ht8 h160 hsz hn hp (by omega) hV hl hc h83 hn1 hn2
    rw [hnf2] at c8
    exact .inl ⟨((p + 6) + k), _, _, [Int32.ofNat a, x1], c8, rfl, (mt_199_4_2c (X := X) (I := J) (A := B) (L := K) (V := U) (W := Wm) (Q := R) h45 ht8 hn hb he hel heo hq (by omega) (by omega) hno hw h51 hr1 hk ho h33), rfl, (fun j hj => by simp only [en_at, show ¬ j = 30 by omega, show ¬ j = 32 by omega, show ¬ j = 33 by omega, ↓reduceIte, if_false]), by first | rfl | (rw [h51]; rfl), by omega⟩
  have hnf2 : md_nf (md_e (L (4 + 2 * t)) n) ((p + 5) + 1 + k) = (p + 6) + k + 1 := by unfold md_nf; rw [if_pos h33]
  rcases hr2 : md_dg (md_e (L (4 + 2 * t)) n) 4 ((p + 6) + k + 1) 0 with ⟨k2, b⟩
  have hq2 : md_dg (md_e (L (4 + 2 * t)) n) 4 ((p + 5) + 1 + k + 1) 0 = (k2, b) := hr2
  have b5 := md_dg_4 (el := (md_e (L (4 + 2 * t)) n)) ((p + 6) + k + 1)
  rw [hr2] at b5
  dsimp only at b5
  by_cases hk2 : k2 = 0
  · skip
    have hn2 : md_n1 (md_e (L (4 + 2 * t)) n) ((p + 5) + 1 + k) 0 10 = none := by
      unfold md_n1
      rw [hq2, if_neg (fun h => h.2 (.inl hk2))]
    have c8 := ce_82_42 (X := X) (I := I) (A := A) (L := L) (V := V) (Q := Q) ht8 h160 hsz hn hp (by omega) hV hl hc h83 hn1 hn2
    rw [hnf2] at c8
    exact .inl ⟨((p + 6) + k + 1), _, _, [Int32.ofNat a, x1], c8, rfl, (mt_199_4_2a (X := X) (I := J) (A := B) (L := K) (V := U) (W := Wm) (Q := R) h45 ht8 hn hb he hel heo hq (by omega) (by omega) hno hw h51 hr1 hk ho h33 hr2 hk2), rfl, (fun j hj => by simp only [en_at, show ¬ j = 30 by omega, show ¬ j = 32 by omega, show ¬ j = 33 by omega, ↓reduceIte, if_false]), by first | rfl | (rw [h51]; rfl), by omega⟩
  by_cases ho2 : (0 ≤ b ∧ b < 10)
  case neg =>
    have hn2 : md_n1 (md_e (L (4 + 2 * t)) n) ((p + 5) + 1 + k) 0 10 = none := by
      unfold md_n1
      rw [hq2, if_neg (fun h => h.2 (by dsimp only; omega))]
    have c8 := ce_82_42 (X := X) (I := I) (A := A) (L := L) (V := V) (Q := Q) ht8 h160 hsz hn hp (by omega) hV hl hc h83 hn1 hn2
    rw [hnf2] at c8
    exact .inl ⟨((p + 6) + k + 1), _, _, [Int32.ofNat a, x1], c8, rfl, (mt_199_4_2b (X := X) (I := J) (A := B) (L := K) (V := U) (W := Wm) (Q := R) h45 ht8 hn hb he hel heo hq (by omega) (by omega) hno hw h51 hr1 hk ho h33 hr2 hk2 ho2), rfl, (fun j hj => by simp only [en_at, show ¬ j = 30 by omega, show ¬ j = 32 by omega, show ¬ j = 33 by omega, ↓reduceIte, if_false]), by first | rfl | (rw [h51]; rfl), by omega⟩
  have hn2 : md_n1 (md_e (L (4 + 2 * t)) n) ((p + 5) + 1 + k) 0 10 = some (b, (p + 6) + k + 1 + k2) := by
    unfold md_n1
    rw [hq2, if_pos ⟨h33, by dsimp only; omega⟩]
  refine .inr ?_
  exact ⟨((p + 6) + k + 1 + k2), _, _, _, _, _, _, _, _, _, pl, pd, (ce_82_4k (X := X) (I := I) (A := A) (L := L) (V := V) (Q := Q) ht8 h160 hsz hn hp (by omega) hV hl hc h83 hn1 hn2), it_c1 (ce_93_4 rfl rfl rfl), rfl, rfl, by simp, (fun x hx => by simp at hx), (mt_199_4_k (X := X) (I := J) (A := B) (L := K) (V := U) (W := Wm) (Q := R) h45 ht8 hn hb he hel heo hq (by omega) (by omega) hno hw h51 hr1 hk ho h33 hr2 hk2 ho2), by simp only [md_tl, as_10, as_01, en_at, ↓reduceIte, Nat.reduceEqDiff, Nat.reduceAdd, as_q0_2, as_q0_3, as_q0_4, as_q0_5, as_q0_6, as_q0_7, as_q1_2, as_q1_3, as_q1_4, as_q1_5, as_q1_6, as_q1_7, as_q2_0, as_q2_1, as_q2_3, as_q2_4, as_q2_5, as_q2_6, as_q2_7, as_q3_0, as_q3_1, as_q3_2, as_q3_4, as_q3_5, as_q3_6, as_q3_7, as_q4_0, as_q4_1, as_q4_2, as_q4_3, as_q4_5, as_q4_6, as_q4_7, as_q5_0, as_q5_1, as_q5_2, as_q5_3, as_q5_4, as_q5_6, as_q5_7, as_q6_0, as_q6_1, as_q6_2, as_q6_3, as_q6_4, as_q6_5, as_q6_7, as_q7_0, as_q7_1, as_q7_2, as_q7_3, as_q7_4, as_q7_5, as_q7_6], by simp only [md_tl, as_10, as_01, en_at, ↓reduceIte, Nat.reduceEqDiff, Nat.reduceAdd, as_q0_2, as_q0_3, as_q0_4, as_q0_5, as_q0_6, as_q0_7, as_q1_2, as_q1_3, as_q1_4, as_q1_5, as_q1_6, as_q1_7, as_q2_0, as_q2_1, as_q2_3, as_q2_4, as_q2_5, as_q2_6, as_q2_7, as_q3_0, as_q3_1, as_q3_2, as_q3_4, as_q3_5, as_q3_6, as_q3_7, as_q4_0, as_q4_1, as_q4_2, as_q4_3, as_q4_5, as_q4_6, as_q4_7, as_q5_0, as_q5_1, as_q5_2, as_q5_3, as_q5_4, as_q5_6, as_q5_7, as_q6_0, as_q6_1, as_q6_2, as_q6_3, as_q6_4, as_q6_5, as_q6_7, as_q7_0, as_q7_1, as_q7_2, as_q7_3, as_q7_4, as_q7_5, as_q7_6], by simp only [md_tl, as_10, as_01, en_at, ↓reduceIte, Nat.reduceEqDiff, Nat.reduceAdd, as_q0_2, as_q0_3, as_q0_4, as_q0_5, as_q0_6, as_q0_7, as_q1_2, as_q1_3, as_q1_4, as_q1_5, as_q1_6, as_q1_7, as_q2_0, as_q2_1, as_q2_3, as_q2_4, as_q2_5, as_q2_6, as_q2_7, as_q3_0, as_q3_1, as_q3_2, as_q3_4, as_q3_5, as_q3_6, as_q3_7, as_q4_0, as_q4_1, as_q4_2, as_q4_3, as_q4_5, as_q4_6, as_q4_7, as_q5_0, as_q5_1, as_q5_2, as_q5_3, as_q5_4, as_q5_6, as_q5_7, as_q6_0, as_q6_1, as_q6_2, as_q6_3, as_q6_4, as_q6_5, as_q6_7, as_q7_0, as_q7_1, as_q7_2, as_q7_3, as_q7_4, as_q7_5, as_q7_6], by simp only [md_tl, as_10, as_01, en_at, ↓reduceIte, Nat.reduceEqDiff, Nat.reduceAdd, as_q0_2, as_q0_3, as_q0_4, as_q0_5, as_q0_6, as_q0_7, as_q1_2, as_q1_3, as_q1_4, as_q1_5, as_q1_6, as_q1_7, as_q2_0, as_q2_1, as_q2_3, as_q2_4, as_q2_5, as_q2_6, as_q2_7, as_q3_0, as_q3_1, as_q3_2, as_q3_4, as_q3_5, as_q3_6, as_q3_7, as_q4_0, as_q4_1, as_q4_2, as_q4_3, as_q4_5, as_q4_6, as_q4_7, as_q5_0, as_q5_1, as_q5_2, as_q5_3, as_q5_4, as_q5_6, as_q5_7, as_q6_0, as_q6_1, as_q6_2, as_q6_3, as_q6_4, as_q6_5, as_q6_7, as_q7_0, as_q7_1, as_q7_2, as_q7_3, as_q7_4, as_q7_5, as_q7_6], (fun j hj => by simp only [md_tl, as_10, as_01, en_at, ↓reduceIte, Nat.reduceEqDiff, Nat.reduceAdd, as_q0_2, as_q0_3, as_q0_4, as_q0_5, as_q0_6, as_q0_7, as_q1_2, as_q1_3, as_q1_4, as_q1_5, as_q1_6, as_q1_7, as_q2_0, as_q2_1, as_q2_3, as_q2_4, as_q2_5, as_q2_6, as_q2_7, as_q3_0, as_q3_1, as_q3_2, as_q3_4, as_q3_5, as_q3_6, as_q3_7, as_q4_0, as_q4_1, as_q4_2, as_q4_3, as_q4_5, as_q4_6, as_q4_7, as_q5_0, as_q5_1, as_q5_2, as_q5_3, as_q5_4, as_q5_6, as_q5_7, as_q6_0, as_q6_1, as_q6_2, as_q6_3, as_q6_4, as_q6_5, as_q6_7, as_q7_0, as_q7_1, as_q7_2, as_q7_3, as_q7_4, as_q7_5, as_q7_6, show ¬ j = 0 by omega, show ¬ j = 1 by omega, show ¬ j = 2 by omega, show ¬ j = 3 by omega, show ¬ j = 4 by omega, show ¬ j = 5 by omega, show ¬ j = 6 by omega, show ¬ j = 7 by omega, show ¬ j = 8 by omega, show ¬ j = 9 by omega, show ¬ j = 10 by omega, show ¬ j = 11 by omega, show ¬ j = 30 by omega, show ¬ j = 32 by omega, show ¬ j = 38 by omega]), by first | rfl | exact h51, (fun j h1 h2 h3 h4 => by simp only [en_at, h1, h2, h3, h4, ↓reduceIte]), by omega, by omega, (by rw [List.append_nil]; exact tm_A (tm_a2 (tm_a1 (tm_Z hT (fun j hj => by simp only [en_at, show ¬ j = 30 by omega, show ¬ j = 32 by omega, ↓reduceIte, if_false])) ho.2) (by omega)) rfl rfl), pl.length, hc, hl, by simp⟩

theorem it_5 {X : List Int32} {I : Nat → Nat → Int32} {A : Nat → List Int32} {L : Nat → List Int64} {V : Nat → List Value} {Q : am_Mem} {J : Nat → Nat → Int32} {B : Nat → List Int32} {K : Nat → List Int64} {U : Nat → List Value} {Wm : Value} {R : am_Mem} {t n p : Nat} {pl : List Nat} {pd : List (Nat × Int32)} {x0 x1 : Int32} (ht8 : t < 8) (h160 : (L (4 + 2 * t)).length = 160) (hsz : I (3 + 2 * t) 2 = Int32.ofNat n) (hn : n ≤ 160) (hp : I 33 2 = Int32.ofNat p) (h45 : (K 45).length = 1280) (hb : J 36 29 = Int32.ofNat (160 * t)) (he : J 36 31 = Int32.ofNat n) (hel : ∀ q, q < n → ((K 45).getD (160 * t + q) 0).toInt32 = (md_e (L (4 + 2 * t)) n) q) (hq : J 36 30 = Int32.ofNat p) (hpn : p ≤ n) (h51 : B 51 = [x0, x1]) (hT : md_TM (I 26) (J 36) (A 28) (B 40) B (V 27) Q pl pd) (g0 : ¬ (md_tx (md_e (L (4 + 2 * t)) n) [112, 108, 97, 121, 101, 114] p) = 6) (g1 : ¬ (md_tx (md_e (L (4 + 2 * t)) n) [111, 110] p) = 2) (g2 : ¬ (md_tx (md_e (L (4 + 2 * t)) n) [116, 117, 114, 110] p) = 4) (g3 : ¬ (md_tx (md_e (L (4 + 2 * t)) n) [98, 108, 111, 99, 107] p) = 5) (g4 : ¬ (md_tx (md_e (L (4 + 2 * t)) n) [115, 101, 114, 118, 101] p) = 5) (gw : (md_tx (md_e (L (4 + 2 * t)) n) [98, 114, 101, 97, 107] p) = 5) : it_F X t I A L V Q J B K U Wm R ∨ it_K X t p I A L V Q J B K U Wm R := by
  have heo : ∀ q, n ≤ q → (md_e (L (4 + 2 * t)) n) q = -1 := fun q h => md_e_o h
  have hT0 := hT
  obtain ⟨hEQ, hrg, h40, hfl, hpd, hV, hc, hps⟩ := hT0
  have hE0 : J 36 0 = I 26 2 := hEQ.1
  have hl : pl.length ≤ 12 := by rw [hps.1]; exact hpd.2.2.1
  have hf6 : (A 28).length = 6 := hfl.1
  have hfm : md_FL (B 40) pd := by rw [h40]; exact hfl
  have hm6 : (B 40).length = 6 := hfm.1
  have hc2 : J 36 0 = Int32.ofNat pl.length := by rw [hE0, hc]
  have h83 := ce_83_5 (X := X) (I := I) (A := A) (L := L) (V := V) (Q := Q) ht8 h160 hsz hn hp (by omega) g0 g1 g2 g3 g4 gw
  have hno : ¬ (md_tx (md_e (L (4 + 2 * t)) n) [112, 108, 97, 121, 101, 114] p = 6 ∧ J 36 0 = 12) := fun h => g0 h.1
  by_cases h32 : (md_e (L (4 + 2 * t)) n) (p + 5) = 32
  case neg =>
    have hn1 : md_n1 (md_e (L (4 + 2 * t)) n) (p + 5) 0 1001 = none := by unfold md_n1; rw [if_neg (fun h => h32 h.1)]
    have hx := lk_x5 gw h32
    obtain ⟨k0, k1, k2, k3, k4, k5, k6, k7, kf⟩ := hx
    have hw := mt_202_n (X := X) (I := J) (A := B) (L := K) (V := U) (W := Wm) (Q := R) h45 ht8 hn hb he hel heo hq (by omega) k0 k1 k2 k3 k4 k5 k6 k7
    rw [kf] at hw
    have hnf : md_nf (md_e (L (4 + 2 * t)) n) (p + 5) = (p + 5) := by unfold md_nf; rw [if_neg h32]
    have c8 := ce_82_51 (X := X) (I := I) (A := A) (L := L) (V := V) (Q := Q) ht8 h160 hsz hn hp (by omega) hV hl hc h83 hn1
    rw [hnf] at c8
    exact .inl ⟨(p + 5), _, _, B 51, c8, rfl, (it_b (mt_199_n (X := X) (I := J) (A := B) (L := K) (V := U) (W := Wm) (Q := R) h45 ht8 hn hb he hel heo hq (by omega) hno hw)), rfl, (fun j hj => by simp only [en_at, show ¬ j = 30 by omega, show ¬ j = 32 by omega, show ¬ j = 33 by omega, ↓reduceIte, if_false]), by first | rfl | (rw [h51]; rfl), by omega⟩
  have hw := mt_202_w5 (X := X) (I := J) (A := B) (L := K) (V := U) (W := Wm) (Q := R) h45 ht8 hn hb he hel heo hq (by omega) (lk_l0 g0) (lk_l1 g1) (lk_l2 g2) (lk_l3 g3) (lk_l4 g4) (lk_k5 gw h32)
  have hnf : md_nf (md_e (L (4 + 2 * t)) n) (p + 5) = (p + 6) := by unfold md_nf; rw [if_pos h32]
  rcases hr1 : md_dg (md_e (L (4 + 2 * t)) n) 4 (p + 6) 0 with ⟨k, a⟩
  have hq1 : md_dg (md_e (L (4 + 2 * t)) n) 4 ((p + 5) + 1) 0 = (k, a) := hr1
  have b4 := md_dg_4 (el := (md_e (L (4 + 2 * t)) n)) (p + 6)
  rw [hr1] at b4
  dsimp only at b4
  by_cases hk : k = 0
  · skip
    have hn1 : md_n1 (md_e (L (4 + 2 * t)) n) (p + 5) 0 1001 = none := by
      unfold md_n1
      rw [hq1, if_neg (fun h => h.2 (.inl hk))]
    have c8 := ce_82_51 (X := X) (I := I) (A := A) (L := L) (V := V) (Q := Q) ht8 h160 hsz hn hp (by omega) hV hl hc h83 hn1
    rw [hnf] at c8
    exact .inl ⟨(p + 6), _, _, B 51, c8, rfl, (it_b (mt_199_5_1a (X := X) (I := J) (A := B) (L := K) (V := U) (W := Wm) (Q := R) h45 ht8 hn hb he hel heo hq (by omega) (by omega) hno hw h51 hr1 hk)), rfl, (fun j hj => by simp only [en_at, show ¬ j = 30 by omega, show ¬ j = 32 by omega, show ¬ j = 33 by omega, ↓reduceIte, if_false]), by first | rfl | (rw [h51]; rfl), by omega⟩
  by_cases ho : (0 ≤ a ∧ a < 1001)
  case neg =>
    have hn1 : md_n1 (md_e (L (4 + 2 * t)) n) (p + 5) 0 1001 = none := by
      unfold md_n1
      rw [hq1, if_neg (fun h => h.2 (by dsimp only; omega))]
    have c8 := ce_82_51 (X := X) (I := I) (A := A) (L := L) (V := V) (Q := Q) ht8 h160 hsz hn hp (by omega) hV hl hc h83 hn1
    rw [hnf] at c8
    exact .inl ⟨(p + 6), _, _, B 51, c8, rfl, (it_b (mt_199_5_1b (X := X) (I := J) (A := B) (L := K) (V := U) (W := Wm) (Q := R) h45 ht8 hn hb he hel heo hq (by omega) (by omega) hno hw h51 hr1 hk ho)), rfl, (fun j hj => by simp only [en_at, show ¬ j = 30 by omega, show ¬ j = 32 by omega, show ¬ j = 33 by omega, ↓reduceIte, if_false]), by first | rfl | (rw [h51]; rfl), by omega⟩
  have hn1 : md_n1 (md_e (L (4 + 2 * t)) n) (p + 5) 0 1001 = some (a, (p + 5) + 1 + k) := by
    unfold md_n1
    rw [hq1, if_pos ⟨h32, by dsimp only; omega⟩]
  refine .inr ?_
  exact ⟨((p + 6) + k), _, _, _, _, _, _, _, _, _, pl, pd, (ce_82_5k (X := X) (I := I) (A := A) (L := L) (V := V) (Q := Q) ht8 h160 hsz hn hp (by omega) hV hl hc h83 hn1), it_c1 (ce_93_5 rfl rfl), rfl, rfl, by simp, (fun x hx => by simp at hx), (mt_199_5_k (X := X) (I := J) (A := B) (L := K) (V := U) (W := Wm) (Q := R) h45 ht8 hn hb he hel heo hq (by omega) (by omega) hno hw h51 hr1 hk ho), by simp only [md_tl, as_10, as_01, en_at, ↓reduceIte, Nat.reduceEqDiff, Nat.reduceAdd, as_q0_2, as_q0_3, as_q0_4, as_q0_5, as_q0_6, as_q0_7, as_q1_2, as_q1_3, as_q1_4, as_q1_5, as_q1_6, as_q1_7, as_q2_0, as_q2_1, as_q2_3, as_q2_4, as_q2_5, as_q2_6, as_q2_7, as_q3_0, as_q3_1, as_q3_2, as_q3_4, as_q3_5, as_q3_6, as_q3_7, as_q4_0, as_q4_1, as_q4_2, as_q4_3, as_q4_5, as_q4_6, as_q4_7, as_q5_0, as_q5_1, as_q5_2, as_q5_3, as_q5_4, as_q5_6, as_q5_7, as_q6_0, as_q6_1, as_q6_2, as_q6_3, as_q6_4, as_q6_5, as_q6_7, as_q7_0, as_q7_1, as_q7_2, as_q7_3, as_q7_4, as_q7_5, as_q7_6], by simp only [md_tl, as_10, as_01, en_at, ↓reduceIte, Nat.reduceEqDiff, Nat.reduceAdd, as_q0_2, as_q0_3, as_q0_4, as_q0_5, as_q0_6, as_q0_7, as_q1_2, as_q1_3, as_q1_4, as_q1_5, as_q1_6, as_q1_7, as_q2_0, as_q2_1, as_q2_3, as_q2_4, as_q2_5, as_q2_6, as_q2_7, as_q3_0, as_q3_1, as_q3_2, as_q3_4, as_q3_5, as_q3_6, as_q3_7, as_q4_0, as_q4_1, as_q4_2, as_q4_3, as_q4_5, as_q4_6, as_q4_7, as_q5_0, as_q5_1, as_q5_2, as_q5_3, as_q5_4, as_q5_6, as_q5_7, as_q6_0, as_q6_1, as_q6_2, as_q6_3, as_q6_4, as_q6_5, as_q6_7, as_q7_0, as_q7_1, as_q7_2, as_q7_3, as_q7_4, as_q7_5, as_q7_6], by simp only [md_tl, as_10, as_01, en_at, ↓reduceIte, Nat.reduceEqDiff, Nat.reduceAdd, as_q0_2, as_q0_3, as_q0_4, as_q0_5, as_q0_6, as_q0_7, as_q1_2, as_q1_3, as_q1_4, as_q1_5, as_q1_6, as_q1_7, as_q2_0, as_q2_1, as_q2_3, as_q2_4, as_q2_5, as_q2_6, as_q2_7, as_q3_0, as_q3_1, as_q3_2, as_q3_4, as_q3_5, as_q3_6, as_q3_7, as_q4_0, as_q4_1, as_q4_2, as_q4_3, as_q4_5, as_q4_6, as_q4_7, as_q5_0, as_q5_1, as_q5_2, as_q5_3, as_q5_4, as_q5_6, as_q5_7, as_q6_0, as_q6_1, as_q6_2, as_q6_3, as_q6_4, as_q6_5, as_q6_7, as_q7_0, as_q7_1, as_q7_2, as_q7_3, as_q7_4, as_q7_5, as_q7_6], by simp only [md_tl, as_10, as_01, en_at, ↓reduceIte, Nat.reduceEqDiff, Nat.reduceAdd, as_q0_2, as_q0_3, as_q0_4, as_q0_5, as_q0_6, as_q0_7, as_q1_2, as_q1_3, as_q1_4, as_q1_5, as_q1_6, as_q1_7, as_q2_0, as_q2_1, as_q2_3, as_q2_4, as_q2_5, as_q2_6, as_q2_7, as_q3_0, as_q3_1, as_q3_2, as_q3_4, as_q3_5, as_q3_6, as_q3_7, as_q4_0, as_q4_1, as_q4_2, as_q4_3, as_q4_5, as_q4_6, as_q4_7, as_q5_0, as_q5_1, as_q5_2, as_q5_3, as_q5_4, as_q5_6, as_q5_7, as_q6_0, as_q6_1, as_q6_2, as_q6_3, as_q6_4, as_q6_5, as_q6_7, as_q7_0, as_q7_1, as_q7_2, as_q7_3, as_q7_4, as_q7_5, as_q7_6], (fun j hj => by simp only [md_tl, as_10, as_01, en_at, ↓reduceIte, Nat.reduceEqDiff, Nat.reduceAdd, as_q0_2, as_q0_3, as_q0_4, as_q0_5, as_q0_6, as_q0_7, as_q1_2, as_q1_3, as_q1_4, as_q1_5, as_q1_6, as_q1_7, as_q2_0, as_q2_1, as_q2_3, as_q2_4, as_q2_5, as_q2_6, as_q2_7, as_q3_0, as_q3_1, as_q3_2, as_q3_4, as_q3_5, as_q3_6, as_q3_7, as_q4_0, as_q4_1, as_q4_2, as_q4_3, as_q4_5, as_q4_6, as_q4_7, as_q5_0, as_q5_1, as_q5_2, as_q5_3, as_q5_4, as_q5_6, as_q5_7, as_q6_0, as_q6_1, as_q6_2, as_q6_3, as_q6_4, as_q6_5, as_q6_7, as_q7_0, as_q7_1, as_q7_2, as_q7_3, as_q7_4, as_q7_5, as_q7_6, show ¬ j = 0 by omega, show ¬ j = 1 by omega, show ¬ j = 2 by omega, show ¬ j = 3 by omega, show ¬ j = 4 by omega, show ¬ j = 5 by omega, show ¬ j = 6 by omega, show ¬ j = 7 by omega, show ¬ j = 8 by omega, show ¬ j = 9 by omega, show ¬ j = 10 by omega, show ¬ j = 11 by omega, show ¬ j = 30 by omega, show ¬ j = 32 by omega, show ¬ j = 38 by omega]), by first | rfl | exact h51, (fun j h1 h2 h3 h4 => by simp only [en_at, h1, h2, h3, h4, ↓reduceIte]), by omega, by omega, (by rw [List.append_nil]; exact tm_A (tm_a3 (tm_Z hT (fun j hj => by simp only [en_at, show ¬ j = 30 by omega, show ¬ j = 32 by omega, ↓reduceIte, if_false])) (by omega)) rfl rfl), pl.length, hc, hl, by simp⟩

theorem it_6 {X : List Int32} {I : Nat → Nat → Int32} {A : Nat → List Int32} {L : Nat → List Int64} {V : Nat → List Value} {Q : am_Mem} {J : Nat → Nat → Int32} {B : Nat → List Int32} {K : Nat → List Int64} {U : Nat → List Value} {Wm : Value} {R : am_Mem} {t n p : Nat} {pl : List Nat} {pd : List (Nat × Int32)} {x0 x1 : Int32} (ht8 : t < 8) (h160 : (L (4 + 2 * t)).length = 160) (hsz : I (3 + 2 * t) 2 = Int32.ofNat n) (hn : n ≤ 160) (hp : I 33 2 = Int32.ofNat p) (h45 : (K 45).length = 1280) (hb : J 36 29 = Int32.ofNat (160 * t)) (he : J 36 31 = Int32.ofNat n) (hel : ∀ q, q < n → ((K 45).getD (160 * t + q) 0).toInt32 = (md_e (L (4 + 2 * t)) n) q) (hq : J 36 30 = Int32.ofNat p) (hpn : p ≤ n) (h51 : B 51 = [x0, x1]) (hT : md_TM (I 26) (J 36) (A 28) (B 40) B (V 27) Q pl pd) (g0 : ¬ (md_tx (md_e (L (4 + 2 * t)) n) [112, 108, 97, 121, 101, 114] p) = 6) (g1 : ¬ (md_tx (md_e (L (4 + 2 * t)) n) [111, 110] p) = 2) (g2 : ¬ (md_tx (md_e (L (4 + 2 * t)) n) [116, 117, 114, 110] p) = 4) (g3 : ¬ (md_tx (md_e (L (4 + 2 * t)) n) [98, 108, 111, 99, 107] p) = 5) (g4 : ¬ (md_tx (md_e (L (4 + 2 * t)) n) [115, 101, 114, 118, 101] p) = 5) (g5 : ¬ (md_tx (md_e (L (4 + 2 * t)) n) [98, 114, 101, 97, 107] p) = 5) (gw : (md_tx (md_e (L (4 + 2 * t)) n) [103, 111, 97, 108] p) = 4) : it_F X t I A L V Q J B K U Wm R ∨ it_K X t p I A L V Q J B K U Wm R := by
  have heo : ∀ q, n ≤ q → (md_e (L (4 + 2 * t)) n) q = -1 := fun q h => md_e_o h
  have hT0 := hT
  obtain ⟨hEQ, hrg, h40, hfl, hpd, hV, hc, hps⟩ := hT0
  have hE0 : J 36 0 = I 26 2 := hEQ.1
  have hl : pl.length ≤ 12 := by rw [hps.1]; exact hpd.2.2.1
  have hf6 : (A 28).length = 6 := hfl.1
  have hfm : md_FL (B 40) pd := by rw [h40]; exact hfl
  have hm6 : (B 40).length = 6 := hfm.1
  have hc2 : J 36 0 = Int32.ofNat pl.length := by rw [hE0, hc]
  have h83 := ce_83_6 (X := X) (I := I) (A := A) (L := L) (V := V) (Q := Q) ht8 h160 hsz hn hp (by omega) g0 g1 g2 g3 g4 g5 gw
  have hno : ¬ (md_tx (md_e (L (4 + 2 * t)) n) [112, 108, 97, 121, 101, 114] p = 6 ∧ J 36 0 = 12) := fun h => g0 h.1
  by_cases h32 : (md_e (L (4 + 2 * t)) n) (p + 4) = 32
  case neg =>
    have hn1 : md_n1 (md_e (L (4 + 2 * t)) n) (p + 4) 1 26 = none := by unfold md_n1; rw [if_neg (fun h => h32 h.1)]
    have hx := lk_x6 gw h32
    obtain ⟨k0, k1, k2, k3, k4, k5, k6, k7, kf⟩ := hx
    have hw := mt_202_n (X := X) (I := J) (A := B) (L := K) (V := U) (W := Wm) (Q := R) h45 ht8 hn hb he hel heo hq (by omega) k0 k1 k2 k3 k4 k5 k6 k7
    rw [kf] at hw
    have hnf : md_nf (md_e (L (4 + 2 * t)) n) (p + 4) = (p + 4) := by unfold md_nf; rw [if_neg h32]
    have c8 := ce_82_61 (X := X) (I := I) (A := A) (L := L) (V := V) (Q := Q) ht8 h160 hsz hn hp (by omega) hV hl hc h83 hn1
    rw [hnf] at c8
    exact .inl ⟨(p + 4), _, _, B 51, c8, rfl, (it_b (mt_199_n (X := X) (I := J) (A := B) (L := K) (V := U) (W := Wm) (Q := R) h45 ht8 hn hb he hel heo hq (by omega) hno hw)), rfl, (fun j hj => by simp only [en_at, show ¬ j = 30 by omega, show ¬ j = 32 by omega, show ¬ j = 33 by omega, ↓reduceIte, if_false]), by first | rfl | (rw [h51]; rfl), by omega⟩
  have hw := mt_202_w6 (X := X) (I := J) (A := B) (L := K) (V := U) (W := Wm) (Q := R) h45 ht8 hn hb he hel heo hq (by omega) (lk_l0 g0) (lk_l1 g1) (lk_l2 g2) (lk_l3 g3) (lk_l4 g4) (lk_l5 g5) (lk_k6 gw h32)
  have hnf : md_nf (md_e (L (4 + 2 * t)) n) (p + 4) = (p + 5) := by unfold md_nf; rw [if_pos h32]
  rcases hr1 : md_dg (md_e (L (4 + 2 * t)) n) 4 (p + 5) 0 with ⟨k, a⟩
  have hq1 : md_dg (md_e (L (4 + 2 * t)) n) 4 ((p + 4) + 1) 0 = (k, a) := hr1
  have b4 := md_dg_4 (el := (md_e (L (4 + 2 * t)) n)) (p + 5)
  rw [hr1] at b4
  dsimp only at b4
  by_cases hk : k = 0
  · skip
    have hn1 : md_n1 (md_e (L (4 + 2 * t)) n) (p + 4) 1 26 = none := by
      unfold md_n1
      rw [hq1, if_neg (fun h => h.2 (.inl hk))]
    have c8 := ce_82_61 (X := X) (I := I) (A := A) (L := L) (V := V) (Q := Q) ht8 h160 hsz hn hp (by omega) hV hl hc h83 hn1
    rw [hnf] at c8
    exact .inl ⟨(p + 5), _, _, B 51, c8, rfl, (it_b (mt_199_6_1a (X := X) (I := J) (A := B) (L := K) (V := U) (W := Wm) (Q := R) h45 ht8 hn hb he hel heo hq (by omega) (by omega) hno hw h51 hr1 hk)), rfl, (fun j hj => by simp only [en_at, show ¬ j = 30 by omega, show ¬ j = 32 by omega, show ¬ j = 33 by omega, ↓reduceIte, if_false]), by first | rfl | (rw [h51]; rfl), by omega⟩
  by_cases ho : (1 ≤ a ∧ a < 26)
  case neg =>
    have hn1 : md_n1 (md_e (L (4 + 2 * t)) n) (p + 4) 1 26 = none := by
      unfold md_n1
      rw [hq1, if_neg (fun h => h.2 (by dsimp only; omega))]
    have c8 := ce_82_61 (X := X) (I := I) (A := A) (L := L) (V := V) (Q := Q) ht8 h160 hsz hn hp (by omega) hV hl hc h83 hn1
    rw [hnf] at c8
    exact .inl ⟨(p + 5), _, _, B 51, c8, rfl, (it_b (mt_199_6_1b (X := X) (I := J) (A := B) (L := K) (V := U) (W := Wm) (Q := R) h45 ht8 hn hb he hel heo hq (by omega) (by omega) hno hw h51 hr1 hk ho)), rfl, (fun j hj => by simp only [en_at, show ¬ j = 30 by omega, show ¬ j = 32 by omega, show ¬ j = 33 by omega, ↓reduceIte, if_false]), by first | rfl | (rw [h51]; rfl), by omega⟩
  have hn1 : md_n1 (md_e (L (4 + 2 * t)) n) (p + 4) 1 26 = some (a, (p + 4) + 1 + k) := by
    unfold md_n1
    rw [hq1, if_pos ⟨h32, by dsimp only; omega⟩]
  refine .inr ?_
  exact ⟨((p + 5) + k), _, _, _, _, _, _, _, _, _, pl, pd, (ce_82_6k (X := X) (I := I) (A := A) (L := L) (V := V) (Q := Q) ht8 h160 hsz hn hp (by omega) hV hl hc h83 hn1), it_c1 (ce_93_6 rfl rfl), rfl, rfl, by simp, (fun x hx => by simp at hx), (mt_199_6_k (X := X) (I := J) (A := B) (L := K) (V := U) (W := Wm) (Q := R) h45 ht8 hn hb he hel heo hq (by omega) (by omega) hno hw h51 hr1 hk ho), by simp only [md_tl, as_10, as_01, en_at, ↓reduceIte, Nat.reduceEqDiff, Nat.reduceAdd, as_q0_2, as_q0_3, as_q0_4, as_q0_5, as_q0_6, as_q0_7, as_q1_2, as_q1_3, as_q1_4, as_q1_5, as_q1_6, as_q1_7, as_q2_0, as_q2_1, as_q2_3, as_q2_4, as_q2_5, as_q2_6, as_q2_7, as_q3_0, as_q3_1, as_q3_2, as_q3_4, as_q3_5, as_q3_6, as_q3_7, as_q4_0, as_q4_1, as_q4_2, as_q4_3, as_q4_5, as_q4_6, as_q4_7, as_q5_0, as_q5_1, as_q5_2, as_q5_3, as_q5_4, as_q5_6, as_q5_7, as_q6_0, as_q6_1, as_q6_2, as_q6_3, as_q6_4, as_q6_5, as_q6_7, as_q7_0, as_q7_1, as_q7_2, as_q7_3, as_q7_4, as_q7_5, as_q7_6], by simp only [md_tl, as_10, as_01, en_at, ↓reduceIte, Nat.reduceEqDiff, Nat.reduceAdd, as_q0_2, as_q0_3, as_q0_4, as_q0_5, as_q0_6, as_q0_7, as_q1_2, as_q1_3, as_q1_4, as_q1_5, as_q1_6, as_q1_7, as_q2_0, as_q2_1, as_q2_3, as_q2_4, as_q2_5, as_q2_6, as_q2_7, as_q3_0, as_q3_1, as_q3_2, as_q3_4, as_q3_5, as_q3_6, as_q3_7, as_q4_0, as_q4_1, as_q4_2, as_q4_3, as_q4_5, as_q4_6, as_q4_7, as_q5_0, as_q5_1, as_q5_2, as_q5_3, as_q5_4, as_q5_6, as_q5_7, as_q6_0, as_q6_1, as_q6_2, as_q6_3, as_q6_4, as_q6_5, as_q6_7, as_q7_0, as_q7_1, as_q7_2, as_q7_3, as_q7_4, as_q7_5, as_q7_6], by simp only [md_tl, as_10, as_01, en_at, ↓reduceIte, Nat.reduceEqDiff, Nat.reduceAdd, as_q0_2, as_q0_3, as_q0_4, as_q0_5, as_q0_6, as_q0_7, as_q1_2, as_q1_3, as_q1_4, as_q1_5, as_q1_6, as_q1_7, as_q2_0, as_q2_1, as_q2_3, as_q2_4, as_q2_5, as_q2_6, as_q2_7, as_q3_0, as_q3_1, as_q3_2, as_q3_4, as_q3_5, as_q3_6, as_q3_7, as_q4_0, as_q4_1, as_q4_2, as_q4_3, as_q4_5, as_q4_6, as_q4_7, as_q5_0, as_q5_1, as_q5_2, as_q5_3, as_q5_4, as_q5_6, as_q5_7, as_q6_0, as_q6_1, as_q6_2, as_q6_3, as_q6_4, as_q6_5, as_q6_7, as_q7_0, as_q7_1, as_q7_2, as_q7_3, as_q7_4, as_q7_5, as_q7_6], by simp only [md_tl, as_10, as_01, en_at, ↓reduceIte, Nat.reduceEqDiff, Nat.reduceAdd, as_q0_2, as_q0_3, as_q0_4, as_q0_5, as_q0_6, as_q0_7, as_q1_2, as_q1_3, as_q1_4, as_q1_5, as_q1_6, as_q1_7, as_q2_0, as_q2_1, as_q2_3, as_q2_4, as_q2_5, as_q2_6, as_q2_7, as_q3_0, as_q3_1, as_q3_2, as_q3_4, as_q3_5, as_q3_6, as_q3_7, as_q4_0, as_q4_1, as_q4_2, as_q4_3, as_q4_5, as_q4_6, as_q4_7, as_q5_0, as_q5_1, as_q5_2, as_q5_3, as_q5_4, as_q5_6, as_q5_7, as_q6_0, as_q6_1, as_q6_2, as_q6_3, as_q6_4, as_q6_5, as_q6_7, as_q7_0, as_q7_1, as_q7_2, as_q7_3, as_q7_4, as_q7_5, as_q7_6], (fun j hj => by simp only [md_tl, as_10, as_01, en_at, ↓reduceIte, Nat.reduceEqDiff, Nat.reduceAdd, as_q0_2, as_q0_3, as_q0_4, as_q0_5, as_q0_6, as_q0_7, as_q1_2, as_q1_3, as_q1_4, as_q1_5, as_q1_6, as_q1_7, as_q2_0, as_q2_1, as_q2_3, as_q2_4, as_q2_5, as_q2_6, as_q2_7, as_q3_0, as_q3_1, as_q3_2, as_q3_4, as_q3_5, as_q3_6, as_q3_7, as_q4_0, as_q4_1, as_q4_2, as_q4_3, as_q4_5, as_q4_6, as_q4_7, as_q5_0, as_q5_1, as_q5_2, as_q5_3, as_q5_4, as_q5_6, as_q5_7, as_q6_0, as_q6_1, as_q6_2, as_q6_3, as_q6_4, as_q6_5, as_q6_7, as_q7_0, as_q7_1, as_q7_2, as_q7_3, as_q7_4, as_q7_5, as_q7_6, show ¬ j = 0 by omega, show ¬ j = 1 by omega, show ¬ j = 2 by omega, show ¬ j = 3 by omega, show ¬ j = 4 by omega, show ¬ j = 5 by omega, show ¬ j = 6 by omega, show ¬ j = 7 by omega, show ¬ j = 8 by omega, show ¬ j = 9 by omega, show ¬ j = 10 by omega, show ¬ j = 11 by omega, show ¬ j = 30 by omega, show ¬ j = 32 by omega, show ¬ j = 38 by omega]), by first | rfl | exact h51, (fun j h1 h2 h3 h4 => by simp only [en_at, h1, h2, h3, h4, ↓reduceIte]), by omega, by omega, (by rw [List.append_nil]; exact tm_A (tm_a4 (tm_Z hT (fun j hj => by simp only [en_at, show ¬ j = 30 by omega, show ¬ j = 32 by omega, ↓reduceIte, if_false])) (by omega)) rfl rfl), pl.length, hc, hl, by simp⟩

theorem it_7 {X : List Int32} {I : Nat → Nat → Int32} {A : Nat → List Int32} {L : Nat → List Int64} {V : Nat → List Value} {Q : am_Mem} {J : Nat → Nat → Int32} {B : Nat → List Int32} {K : Nat → List Int64} {U : Nat → List Value} {Wm : Value} {R : am_Mem} {t n p : Nat} {pl : List Nat} {pd : List (Nat × Int32)} {x0 x1 : Int32} (ht8 : t < 8) (h160 : (L (4 + 2 * t)).length = 160) (hsz : I (3 + 2 * t) 2 = Int32.ofNat n) (hn : n ≤ 160) (hp : I 33 2 = Int32.ofNat p) (h45 : (K 45).length = 1280) (hb : J 36 29 = Int32.ofNat (160 * t)) (he : J 36 31 = Int32.ofNat n) (hel : ∀ q, q < n → ((K 45).getD (160 * t + q) 0).toInt32 = (md_e (L (4 + 2 * t)) n) q) (hq : J 36 30 = Int32.ofNat p) (hpn : p ≤ n) (h51 : B 51 = [x0, x1]) (hT : md_TM (I 26) (J 36) (A 28) (B 40) B (V 27) Q pl pd) (g0 : ¬ (md_tx (md_e (L (4 + 2 * t)) n) [112, 108, 97, 121, 101, 114] p) = 6) (g1 : ¬ (md_tx (md_e (L (4 + 2 * t)) n) [111, 110] p) = 2) (g2 : ¬ (md_tx (md_e (L (4 + 2 * t)) n) [116, 117, 114, 110] p) = 4) (g3 : ¬ (md_tx (md_e (L (4 + 2 * t)) n) [98, 108, 111, 99, 107] p) = 5) (g4 : ¬ (md_tx (md_e (L (4 + 2 * t)) n) [115, 101, 114, 118, 101] p) = 5) (g5 : ¬ (md_tx (md_e (L (4 + 2 * t)) n) [98, 114, 101, 97, 107] p) = 5) (g6 : ¬ (md_tx (md_e (L (4 + 2 * t)) n) [103, 111, 97, 108] p) = 4) (gw : (md_tx (md_e (L (4 + 2 * t)) n) [114, 97, 108, 108, 121] p) = 5) : it_F X t I A L V Q J B K U Wm R ∨ it_K X t p I A L V Q J B K U Wm R := by
  have heo : ∀ q, n ≤ q → (md_e (L (4 + 2 * t)) n) q = -1 := fun q h => md_e_o h
  have hT0 := hT
  obtain ⟨hEQ, hrg, h40, hfl, hpd, hV, hc, hps⟩ := hT0
  have hE0 : J 36 0 = I 26 2 := hEQ.1
  have hl : pl.length ≤ 12 := by rw [hps.1]; exact hpd.2.2.1
  have hf6 : (A 28).length = 6 := hfl.1
  have hfm : md_FL (B 40) pd := by rw [h40]; exact hfl
  have hm6 : (B 40).length = 6 := hfm.1
  have hc2 : J 36 0 = Int32.ofNat pl.length := by rw [hE0, hc]
  have h83 := ce_83_7 (X := X) (I := I) (A := A) (L := L) (V := V) (Q := Q) ht8 h160 hsz hn hp (by omega) g0 g1 g2 g3 g4 g5 g6 gw
  have hno : ¬ (md_tx (md_e (L (4 + 2 * t)) n) [112, 108, 97, 121, 101, 114] p = 6 ∧ J 36 0 = 12) := fun h => g0 h.1
  by_cases h32 : (md_e (L (4 + 2 * t)) n) (p + 5) = 32
  case neg =>
    have hn1 : md_n1 (md_e (L (4 + 2 * t)) n) (p + 5) 0 2 = none := by unfold md_n1; rw [if_neg (fun h => h32 h.1)]
    have hx := lk_x7 gw h32
    obtain ⟨k0, k1, k2, k3, k4, k5, k6, k7, kf⟩ := hx
    have hw := mt_202_n (X := X) (I := J) (A := B) (L := K) (V := U) (W := Wm) (Q := R) h45 ht8 hn hb he hel heo hq (by omega) k0 k1 k2 k3 k4 k5 k6 k7
    rw [kf] at hw
    have hnf : md_nf (md_e (L (4 + 2 * t)) n) (p + 5) = (p + 5) := by unfold md_nf; rw [if_neg h32]
    have c8 := ce_82_71 (X := X) (I := I) (A := A) (L := L) (V := V) (Q := Q) ht8 h160 hsz hn hp (by omega) hV hl hc h83 hn1
    rw [hnf] at c8
    exact .inl ⟨(p + 5), _, _, B 51, c8, rfl, (it_b (mt_199_n (X := X) (I := J) (A := B) (L := K) (V := U) (W := Wm) (Q := R) h45 ht8 hn hb he hel heo hq (by omega) hno hw)), rfl, (fun j hj => by simp only [en_at, show ¬ j = 30 by omega, show ¬ j = 32 by omega, show ¬ j = 33 by omega, ↓reduceIte, if_false]), by first | rfl | (rw [h51]; rfl), by omega⟩
  have hw := mt_202_w7 (X := X) (I := J) (A := B) (L := K) (V := U) (W := Wm) (Q := R) h45 ht8 hn hb he hel heo hq (by omega) (lk_l0 g0) (lk_l1 g1) (lk_l2 g2) (lk_l3 g3) (lk_l4 g4) (lk_l5 g5) (lk_l6 g6) (lk_k7 gw h32)
  have hnf : md_nf (md_e (L (4 + 2 * t)) n) (p + 5) = (p + 6) := by unfold md_nf; rw [if_pos h32]
  rcases hr1 : md_dg (md_e (L (4 + 2 * t)) n) 4 (p + 6) 0 with ⟨k, a⟩
  have hq1 : md_dg (md_e (L (4 + 2 * t)) n) 4 ((p + 5) + 1) 0 = (k, a) := hr1
  have b4 := md_dg_4 (el := (md_e (L (4 + 2 * t)) n)) (p + 6)
  rw [hr1] at b4
  dsimp only at b4
  by_cases hk : k = 0
  · skip
    have hn1 : md_n1 (md_e (L (4 + 2 * t)) n) (p + 5) 0 2 = none := by
      unfold md_n1
      rw [hq1, if_neg (fun h => h.2 (.inl hk))]
    have c8 := ce_82_71 (X := X) (I := I) (A := A) (L := L) (V := V) (Q := Q) ht8 h160 hsz hn hp (by omega) hV hl hc h83 hn1
    rw [hnf] at c8
    exact .inl ⟨(p + 6), _, _, B 51, c8, rfl, (it_b (mt_199_7_1a (X := X) (I := J) (A := B) (L := K) (V := U) (W := Wm) (Q := R) h45 ht8 hn hb he hel heo hq (by omega) (by omega) hno hw h51 hr1 hk)), rfl, (fun j hj => by simp only [en_at, show ¬ j = 30 by omega, show ¬ j = 32 by omega, show ¬ j = 33 by omega, ↓reduceIte, if_false]), by first | rfl | (rw [h51]; rfl), by omega⟩
  by_cases ho : (0 ≤ a ∧ a < 2)
  case neg =>
    have hn1 : md_n1 (md_e (L (4 + 2 * t)) n) (p + 5) 0 2 = none := by
      unfold md_n1
      rw [hq1, if_neg (fun h => h.2 (by dsimp only; omega))]
    have c8 := ce_82_71 (X := X) (I := I) (A := A) (L := L) (V := V) (Q := Q) ht8 h160 hsz hn hp (by omega) hV hl hc h83 hn1
    rw [hnf] at c8
    exact .inl ⟨(p + 6), _, _, B 51, c8, rfl, (it_b (mt_199_7_1b (X := X) (I := J) (A := B) (L := K) (V := U) (W := Wm) (Q := R) h45 ht8 hn hb he hel heo hq (by omega) (by omega) hno hw h51 hr1 hk ho)), rfl, (fun j hj => by simp only [en_at, show ¬ j = 30 by omega, show ¬ j = 32 by omega, show ¬ j = 33 by omega, ↓reduceIte, if_false]), by first | rfl | (rw [h51]; rfl), by omega⟩
  have hn1 : md_n1 (md_e (L (4 + 2 * t)) n) (p + 5) 0 2 = some (a, (p + 5) + 1 + k) := by
    unfold md_n1
    rw [hq1, if_pos ⟨h32, by dsimp only; omega⟩]
  refine .inr ?_
  by_cases hv : a = 0
  · exact ⟨((p + 6) + k), _, _, _, _, _, _, _, _, _, pl, pd, (ce_82_7k (X := X) (I := I) (A := A) (L := L) (V := V) (Q := Q) ht8 h160 hsz hn hp (by omega) hV hl hc h83 hn1), it_c3 (ce_93_7 rfl rfl hf6), rfl, rfl, by simp, (fun x hx => by simp at hx), (mt_199_7_k0 (X := X) (I := J) (A := B) (L := K) (V := U) (W := Wm) (Q := R) h45 ht8 hn hb he hel heo hq (by omega) (by omega) hno hw h51 hr1 hk ho hm6 hv), by simp only [md_wT, as_10, as_01, en_at, ↓reduceIte, Nat.reduceEqDiff, Nat.reduceAdd, as_q0_2, as_q0_3, as_q0_4, as_q0_5, as_q0_6, as_q0_7, as_q1_2, as_q1_3, as_q1_4, as_q1_5, as_q1_6, as_q1_7, as_q2_0, as_q2_1, as_q2_3, as_q2_4, as_q2_5, as_q2_6, as_q2_7, as_q3_0, as_q3_1, as_q3_2, as_q3_4, as_q3_5, as_q3_6, as_q3_7, as_q4_0, as_q4_1, as_q4_2, as_q4_3, as_q4_5, as_q4_6, as_q4_7, as_q5_0, as_q5_1, as_q5_2, as_q5_3, as_q5_4, as_q5_6, as_q5_7, as_q6_0, as_q6_1, as_q6_2, as_q6_3, as_q6_4, as_q6_5, as_q6_7, as_q7_0, as_q7_1, as_q7_2, as_q7_3, as_q7_4, as_q7_5, as_q7_6], by simp only [md_wT, as_10, as_01, en_at, ↓reduceIte, Nat.reduceEqDiff, Nat.reduceAdd, as_q0_2, as_q0_3, as_q0_4, as_q0_5, as_q0_6, as_q0_7, as_q1_2, as_q1_3, as_q1_4, as_q1_5, as_q1_6, as_q1_7, as_q2_0, as_q2_1, as_q2_3, as_q2_4, as_q2_5, as_q2_6, as_q2_7, as_q3_0, as_q3_1, as_q3_2, as_q3_4, as_q3_5, as_q3_6, as_q3_7, as_q4_0, as_q4_1, as_q4_2, as_q4_3, as_q4_5, as_q4_6, as_q4_7, as_q5_0, as_q5_1, as_q5_2, as_q5_3, as_q5_4, as_q5_6, as_q5_7, as_q6_0, as_q6_1, as_q6_2, as_q6_3, as_q6_4, as_q6_5, as_q6_7, as_q7_0, as_q7_1, as_q7_2, as_q7_3, as_q7_4, as_q7_5, as_q7_6], by simp only [md_wT, as_10, as_01, en_at, ↓reduceIte, Nat.reduceEqDiff, Nat.reduceAdd, as_q0_2, as_q0_3, as_q0_4, as_q0_5, as_q0_6, as_q0_7, as_q1_2, as_q1_3, as_q1_4, as_q1_5, as_q1_6, as_q1_7, as_q2_0, as_q2_1, as_q2_3, as_q2_4, as_q2_5, as_q2_6, as_q2_7, as_q3_0, as_q3_1, as_q3_2, as_q3_4, as_q3_5, as_q3_6, as_q3_7, as_q4_0, as_q4_1, as_q4_2, as_q4_3, as_q4_5, as_q4_6, as_q4_7, as_q5_0, as_q5_1, as_q5_2, as_q5_3, as_q5_4, as_q5_6, as_q5_7, as_q6_0, as_q6_1, as_q6_2, as_q6_3, as_q6_4, as_q6_5, as_q6_7, as_q7_0, as_q7_1, as_q7_2, as_q7_3, as_q7_4, as_q7_5, as_q7_6], by simp only [md_wT, as_10, as_01, en_at, ↓reduceIte, Nat.reduceEqDiff, Nat.reduceAdd, as_q0_2, as_q0_3, as_q0_4, as_q0_5, as_q0_6, as_q0_7, as_q1_2, as_q1_3, as_q1_4, as_q1_5, as_q1_6, as_q1_7, as_q2_0, as_q2_1, as_q2_3, as_q2_4, as_q2_5, as_q2_6, as_q2_7, as_q3_0, as_q3_1, as_q3_2, as_q3_4, as_q3_5, as_q3_6, as_q3_7, as_q4_0, as_q4_1, as_q4_2, as_q4_3, as_q4_5, as_q4_6, as_q4_7, as_q5_0, as_q5_1, as_q5_2, as_q5_3, as_q5_4, as_q5_6, as_q5_7, as_q6_0, as_q6_1, as_q6_2, as_q6_3, as_q6_4, as_q6_5, as_q6_7, as_q7_0, as_q7_1, as_q7_2, as_q7_3, as_q7_4, as_q7_5, as_q7_6], (fun j hj => by simp only [md_wT, as_10, as_01, en_at, ↓reduceIte, Nat.reduceEqDiff, Nat.reduceAdd, as_q0_2, as_q0_3, as_q0_4, as_q0_5, as_q0_6, as_q0_7, as_q1_2, as_q1_3, as_q1_4, as_q1_5, as_q1_6, as_q1_7, as_q2_0, as_q2_1, as_q2_3, as_q2_4, as_q2_5, as_q2_6, as_q2_7, as_q3_0, as_q3_1, as_q3_2, as_q3_4, as_q3_5, as_q3_6, as_q3_7, as_q4_0, as_q4_1, as_q4_2, as_q4_3, as_q4_5, as_q4_6, as_q4_7, as_q5_0, as_q5_1, as_q5_2, as_q5_3, as_q5_4, as_q5_6, as_q5_7, as_q6_0, as_q6_1, as_q6_2, as_q6_3, as_q6_4, as_q6_5, as_q6_7, as_q7_0, as_q7_1, as_q7_2, as_q7_3, as_q7_4, as_q7_5, as_q7_6, show ¬ j = 0 by omega, show ¬ j = 1 by omega, show ¬ j = 2 by omega, show ¬ j = 3 by omega, show ¬ j = 4 by omega, show ¬ j = 5 by omega, show ¬ j = 6 by omega, show ¬ j = 7 by omega, show ¬ j = 8 by omega, show ¬ j = 9 by omega, show ¬ j = 10 by omega, show ¬ j = 11 by omega, show ¬ j = 30 by omega, show ¬ j = 32 by omega, show ¬ j = 38 by omega]), by first | rfl | exact h51, (fun j h1 h2 h3 h4 => by simp only [en_at, h1, h2, h3, h4, ↓reduceIte]), by omega, by omega, (by rw [List.append_nil]; exact tm_A (tm_70 (tm_Z hT (fun j hj => by simp only [en_at, show ¬ j = 30 by omega, show ¬ j = 32 by omega, ↓reduceIte, if_false])) (show Int32.ofNat a = 0 by rw [hv]; rfl)) rfl rfl), pl.length, hc, hl, by simp⟩
  by_cases hv : a = 1
  · exact ⟨((p + 6) + k), _, _, _, _, _, _, _, _, _, pl, pd, (ce_82_7k (X := X) (I := I) (A := A) (L := L) (V := V) (Q := Q) ht8 h160 hsz hn hp (by omega) hV hl hc h83 hn1), it_c3 (ce_93_7 rfl rfl hf6), rfl, rfl, by simp, (fun x hx => by simp at hx), (mt_199_7_k1 (X := X) (I := J) (A := B) (L := K) (V := U) (W := Wm) (Q := R) h45 ht8 hn hb he hel heo hq (by omega) (by omega) hno hw h51 hr1 hk ho hm6 hv), by simp only [md_wT, as_10, as_01, en_at, ↓reduceIte, Nat.reduceEqDiff, Nat.reduceAdd, as_q0_2, as_q0_3, as_q0_4, as_q0_5, as_q0_6, as_q0_7, as_q1_2, as_q1_3, as_q1_4, as_q1_5, as_q1_6, as_q1_7, as_q2_0, as_q2_1, as_q2_3, as_q2_4, as_q2_5, as_q2_6, as_q2_7, as_q3_0, as_q3_1, as_q3_2, as_q3_4, as_q3_5, as_q3_6, as_q3_7, as_q4_0, as_q4_1, as_q4_2, as_q4_3, as_q4_5, as_q4_6, as_q4_7, as_q5_0, as_q5_1, as_q5_2, as_q5_3, as_q5_4, as_q5_6, as_q5_7, as_q6_0, as_q6_1, as_q6_2, as_q6_3, as_q6_4, as_q6_5, as_q6_7, as_q7_0, as_q7_1, as_q7_2, as_q7_3, as_q7_4, as_q7_5, as_q7_6], by simp only [md_wT, as_10, as_01, en_at, ↓reduceIte, Nat.reduceEqDiff, Nat.reduceAdd, as_q0_2, as_q0_3, as_q0_4, as_q0_5, as_q0_6, as_q0_7, as_q1_2, as_q1_3, as_q1_4, as_q1_5, as_q1_6, as_q1_7, as_q2_0, as_q2_1, as_q2_3, as_q2_4, as_q2_5, as_q2_6, as_q2_7, as_q3_0, as_q3_1, as_q3_2, as_q3_4, as_q3_5, as_q3_6, as_q3_7, as_q4_0, as_q4_1, as_q4_2, as_q4_3, as_q4_5, as_q4_6, as_q4_7, as_q5_0, as_q5_1, as_q5_2, as_q5_3, as_q5_4, as_q5_6, as_q5_7, as_q6_0, as_q6_1, as_q6_2, as_q6_3, as_q6_4, as_q6_5, as_q6_7, as_q7_0, as_q7_1, as_q7_2, as_q7_3, as_q7_4, as_q7_5, as_q7_6], by simp only [md_wT, as_10, as_01, en_at, ↓reduceIte, Nat.reduceEqDiff, Nat.reduceAdd, as_q0_2, as_q0_3, as_q0_4, as_q0_5, as_q0_6, as_q0_7, as_q1_2, as_q1_3, as_q1_4, as_q1_5, as_q1_6, as_q1_7, as_q2_0, as_q2_1, as_q2_3, as_q2_4, as_q2_5, as_q2_6, as_q2_7, as_q3_0, as_q3_1, as_q3_2, as_q3_4, as_q3_5, as_q3_6, as_q3_7, as_q4_0, as_q4_1, as_q4_2, as_q4_3, as_q4_5, as_q4_6, as_q4_7, as_q5_0, as_q5_1, as_q5_2, as_q5_3, as_q5_4, as_q5_6, as_q5_7, as_q6_0, as_q6_1, as_q6_2, as_q6_3, as_q6_4, as_q6_5, as_q6_7, as_q7_0, as_q7_1, as_q7_2, as_q7_3, as_q7_4, as_q7_5, as_q7_6], by simp only [md_wT, as_10, as_01, en_at, ↓reduceIte, Nat.reduceEqDiff, Nat.reduceAdd, as_q0_2, as_q0_3, as_q0_4, as_q0_5, as_q0_6, as_q0_7, as_q1_2, as_q1_3, as_q1_4, as_q1_5, as_q1_6, as_q1_7, as_q2_0, as_q2_1, as_q2_3, as_q2_4, as_q2_5, as_q2_6, as_q2_7, as_q3_0, as_q3_1, as_q3_2, as_q3_4, as_q3_5, as_q3_6, as_q3_7, as_q4_0, as_q4_1, as_q4_2, as_q4_3, as_q4_5, as_q4_6, as_q4_7, as_q5_0, as_q5_1, as_q5_2, as_q5_3, as_q5_4, as_q5_6, as_q5_7, as_q6_0, as_q6_1, as_q6_2, as_q6_3, as_q6_4, as_q6_5, as_q6_7, as_q7_0, as_q7_1, as_q7_2, as_q7_3, as_q7_4, as_q7_5, as_q7_6], (fun j hj => by simp only [md_wT, as_10, as_01, en_at, ↓reduceIte, Nat.reduceEqDiff, Nat.reduceAdd, as_q0_2, as_q0_3, as_q0_4, as_q0_5, as_q0_6, as_q0_7, as_q1_2, as_q1_3, as_q1_4, as_q1_5, as_q1_6, as_q1_7, as_q2_0, as_q2_1, as_q2_3, as_q2_4, as_q2_5, as_q2_6, as_q2_7, as_q3_0, as_q3_1, as_q3_2, as_q3_4, as_q3_5, as_q3_6, as_q3_7, as_q4_0, as_q4_1, as_q4_2, as_q4_3, as_q4_5, as_q4_6, as_q4_7, as_q5_0, as_q5_1, as_q5_2, as_q5_3, as_q5_4, as_q5_6, as_q5_7, as_q6_0, as_q6_1, as_q6_2, as_q6_3, as_q6_4, as_q6_5, as_q6_7, as_q7_0, as_q7_1, as_q7_2, as_q7_3, as_q7_4, as_q7_5, as_q7_6, show ¬ j = 0 by omega, show ¬ j = 1 by omega, show ¬ j = 2 by omega, show ¬ j = 3 by omega, show ¬ j = 4 by omega, show ¬ j = 5 by omega, show ¬ j = 6 by omega, show ¬ j = 7 by omega, show ¬ j = 8 by omega, show ¬ j = 9 by omega, show ¬ j = 10 by omega, show ¬ j = 11 by omega, show ¬ j = 30 by omega, show ¬ j = 32 by omega, show ¬ j = 38 by omega]), by first | rfl | exact h51, (fun j h1 h2 h3 h4 => by simp only [en_at, h1, h2, h3, h4, ↓reduceIte]), by omega, by omega, (by rw [List.append_nil]; exact tm_A (tm_71 (tm_Z hT (fun j hj => by simp only [en_at, show ¬ j = 30 by omega, show ¬ j = 32 by omega, ↓reduceIte, if_false])) (show Int32.ofNat a = 1 by rw [hv]; rfl)) rfl rfl), pl.length, hc, hl, by simp⟩
  exact absurd ho (by omega)


theorem it_n {X : List Int32} {I : Nat → Nat → Int32} {A : Nat → List Int32} {L : Nat → List Int64} {V : Nat → List Value} {Q : am_Mem} {J : Nat → Nat → Int32} {B : Nat → List Int32} {K : Nat → List Int64} {U : Nat → List Value} {Wm : Value} {R : am_Mem} {t n p : Nat} {pl : List Nat} {pd : List (Nat × Int32)} {x0 x1 : Int32} (ht8 : t < 8) (h160 : (L (4 + 2 * t)).length = 160) (hsz : I (3 + 2 * t) 2 = Int32.ofNat n) (hn : n ≤ 160) (hp : I 33 2 = Int32.ofNat p) (h45 : (K 45).length = 1280) (hb : J 36 29 = Int32.ofNat (160 * t)) (he : J 36 31 = Int32.ofNat n) (hel : ∀ q, q < n → ((K 45).getD (160 * t + q) 0).toInt32 = (md_e (L (4 + 2 * t)) n) q) (hq : J 36 30 = Int32.ofNat p) (hpn : p ≤ n) (h51 : B 51 = [x0, x1]) (hT : md_TM (I 26) (J 36) (A 28) (B 40) B (V 27) Q pl pd) (g0 : ¬ (md_tx (md_e (L (4 + 2 * t)) n) [112, 108, 97, 121, 101, 114] p) = 6) (g1 : ¬ (md_tx (md_e (L (4 + 2 * t)) n) [111, 110] p) = 2) (g2 : ¬ (md_tx (md_e (L (4 + 2 * t)) n) [116, 117, 114, 110] p) = 4) (g3 : ¬ (md_tx (md_e (L (4 + 2 * t)) n) [98, 108, 111, 99, 107] p) = 5) (g4 : ¬ (md_tx (md_e (L (4 + 2 * t)) n) [115, 101, 114, 118, 101] p) = 5) (g5 : ¬ (md_tx (md_e (L (4 + 2 * t)) n) [98, 114, 101, 97, 107] p) = 5) (g6 : ¬ (md_tx (md_e (L (4 + 2 * t)) n) [103, 111, 97, 108] p) = 4) (g7 : ¬ (md_tx (md_e (L (4 + 2 * t)) n) [114, 97, 108, 108, 121] p) = 5) : it_F X t I A L V Q J B K U Wm R := by
  have heo : ∀ q, n ≤ q → (md_e (L (4 + 2 * t)) n) q = -1 := fun q h => md_e_o h
  have hT0 := hT
  obtain ⟨hEQ, hrg, h40, hfl, hpd, hV, hc, hps⟩ := hT0
  have hE0 : J 36 0 = I 26 2 := hEQ.1
  have hl : pl.length ≤ 12 := by rw [hps.1]; exact hpd.2.2.1
  have hf6 : (A 28).length = 6 := hfl.1
  have hfm : md_FL (B 40) pd := by rw [h40]; exact hfl
  have hm6 : (B 40).length = 6 := hfm.1
  have hc2 : J 36 0 = Int32.ofNat pl.length := by rw [hE0, hc]
  have h83 := ce_83_n (X := X) (I := I) (A := A) (L := L) (V := V) (Q := Q) ht8 h160 hsz hn hp (by omega) g0 g1 g2 g3 g4 g5 g6 g7
  have hno : ¬ (md_tx (md_e (L (4 + 2 * t)) n) [112, 108, 97, 121, 101, 114] p = 6 ∧ J 36 0 = 12) := fun h => g0 h.1
  have hw := mt_202_n (X := X) (I := J) (A := B) (L := K) (V := U) (W := Wm) (Q := R) h45 ht8 hn hb he hel heo hq (by omega) (lk_l0 g0) (lk_l1 g1) (lk_l2 g2) (lk_l3 g3) (lk_l4 g4) (lk_l5 g5) (lk_l6 g6) (lk_l7 g7)
  rw [lk_n g0 g1 g2 g3 g4 g5 g6 g7] at hw
  have b0 := lk_b0 (el := (md_e (L (4 + 2 * t)) n)) (p := p)
  have b1 := lk_b1 (el := (md_e (L (4 + 2 * t)) n)) (p := p)
  have b2 := lk_b2 (el := (md_e (L (4 + 2 * t)) n)) (p := p)
  have b3 := lk_b3 (el := (md_e (L (4 + 2 * t)) n)) (p := p)
  have b4 := lk_b4 (el := (md_e (L (4 + 2 * t)) n)) (p := p)
  have b5 := lk_b5 (el := (md_e (L (4 + 2 * t)) n)) (p := p)
  have b6 := lk_b6 (el := (md_e (L (4 + 2 * t)) n)) (p := p)
  have b7 := lk_b7 (el := (md_e (L (4 + 2 * t)) n)) (p := p)
  exact ⟨p + (max (max (max (max (max (max (max (max 0 (md_tx (md_e (L (4 + 2 * t)) n) [112, 108, 97, 121, 101, 114] p)) (md_tx (md_e (L (4 + 2 * t)) n) [111, 110] p)) (md_tx (md_e (L (4 + 2 * t)) n) [116, 117, 114, 110] p)) (md_tx (md_e (L (4 + 2 * t)) n) [98, 108, 111, 99, 107] p)) (md_tx (md_e (L (4 + 2 * t)) n) [115, 101, 114, 118, 101] p)) (md_tx (md_e (L (4 + 2 * t)) n) [98, 114, 101, 97, 107] p)) (md_tx (md_e (L (4 + 2 * t)) n) [103, 111, 97, 108] p)) (md_tx (md_e (L (4 + 2 * t)) n) [114, 97, 108, 108, 121] p)), _, _, B 51, ce_82_n (n := n) hp h83, rfl, it_b (mt_199_n (X := X) (I := J) (A := B) (L := K) (V := U) (W := Wm) (Q := R) h45 ht8 hn hb he hel heo hq (by omega) hno hw), rfl, (fun j hj => by simp only [en_at, show ¬ j = 30 by omega, show ¬ j = 32 by omega, show ¬ j = 33 by omega, ↓reduceIte, if_false]), by rw [h51]; rfl, by omega⟩

theorem it_any {X : List Int32} {I : Nat → Nat → Int32} {A : Nat → List Int32} {L : Nat → List Int64} {V : Nat → List Value} {Q : am_Mem} {J : Nat → Nat → Int32} {B : Nat → List Int32} {K : Nat → List Int64} {U : Nat → List Value} {Wm : Value} {R : am_Mem} {t n p : Nat} {pl : List Nat} {pd : List (Nat × Int32)} {x0 x1 : Int32} (ht8 : t < 8) (h160 : (L (4 + 2 * t)).length = 160) (hsz : I (3 + 2 * t) 2 = Int32.ofNat n) (hn : n ≤ 160) (hp : I 33 2 = Int32.ofNat p) (h45 : (K 45).length = 1280) (hb : J 36 29 = Int32.ofNat (160 * t)) (he : J 36 31 = Int32.ofNat n) (hel : ∀ q, q < n → ((K 45).getD (160 * t + q) 0).toInt32 = (md_e (L (4 + 2 * t)) n) q) (hq : J 36 30 = Int32.ofNat p) (hpn : p ≤ n) (h51 : B 51 = [x0, x1]) (hT : md_TM (I 26) (J 36) (A 28) (B 40) B (V 27) Q pl pd) : it_F X t I A L V Q J B K U Wm R ∨ it_K X t p I A L V Q J B K U Wm R := by
  by_cases g0 : (md_tx (md_e (L (4 + 2 * t)) n) [112, 108, 97, 121, 101, 114] p) = 6
  · exact it_0 ht8 h160 hsz hn hp h45 hb he hel hq hpn h51 hT g0
  by_cases g1 : (md_tx (md_e (L (4 + 2 * t)) n) [111, 110] p) = 2
  · exact it_1 ht8 h160 hsz hn hp h45 hb he hel hq hpn h51 hT g0 g1
  by_cases g2 : (md_tx (md_e (L (4 + 2 * t)) n) [116, 117, 114, 110] p) = 4
  · exact it_2 ht8 h160 hsz hn hp h45 hb he hel hq hpn h51 hT g0 g1 g2
  by_cases g3 : (md_tx (md_e (L (4 + 2 * t)) n) [98, 108, 111, 99, 107] p) = 5
  · exact it_3 ht8 h160 hsz hn hp h45 hb he hel hq hpn h51 hT g0 g1 g2 g3
  by_cases g4 : (md_tx (md_e (L (4 + 2 * t)) n) [115, 101, 114, 118, 101] p) = 5
  · exact it_4 ht8 h160 hsz hn hp h45 hb he hel hq hpn h51 hT g0 g1 g2 g3 g4
  by_cases g5 : (md_tx (md_e (L (4 + 2 * t)) n) [98, 114, 101, 97, 107] p) = 5
  · exact it_5 ht8 h160 hsz hn hp h45 hb he hel hq hpn h51 hT g0 g1 g2 g3 g4 g5
  by_cases g6 : (md_tx (md_e (L (4 + 2 * t)) n) [103, 111, 97, 108] p) = 4
  · exact it_6 ht8 h160 hsz hn hp h45 hb he hel hq hpn h51 hT g0 g1 g2 g3 g4 g5 g6
  by_cases g7 : (md_tx (md_e (L (4 + 2 * t)) n) [114, 97, 108, 108, 121] p) = 5
  · exact it_7 ht8 h160 hsz hn hp h45 hb he hel hq hpn h51 hT g0 g1 g2 g3 g4 g5 g6 g7
  exact .inl (it_n ht8 h160 hsz hn hp h45 hb he hel hq hpn h51 hT g0 g1 g2 g3 g4 g5 g6 g7)

theorem it_e {α : Type} {I : Nat → α} {Y T P Z S : α} : en_u (en_u (en_u (en_u (en_u I 33 Y) 26 T) 33 P) 33 Z) 26 S = en_u (en_u I 33 Z) 26 S := by
  funext j
  simp only [en_at]
  by_cases h1 : j = 26
  · simp only [h1, ↓reduceIte]
  · by_cases h2 : j = 33
    · simp only [h2, ↓reduceIte, Nat.reduceEqDiff]
    · simp only [h1, h2, ↓reduceIte]
theorem it_f {α : Type} {I : Nat → α} {Y T P : α} : en_u (en_u (en_u I 33 Y) 26 T) 33 P = en_u (en_u I 33 P) 26 T := by
  funext j
  simp only [en_at]
  by_cases h1 : j = 26
  · simp only [h1, ↓reduceIte, Nat.reduceEqDiff]
  · by_cases h2 : j = 33
    · simp only [h2, ↓reduceIte, Nat.reduceEqDiff]
    · simp only [h1, h2, ↓reduceIte]
theorem tl_cf {X : List Int32} {I : Nat → Nat → Int32} {A : Nat → List Int32} {L : Nat → List Int64} {V : Nat → List Value} {Q : am_Mem} {t n : Nat} {c : Nat} {E2 : am_Mem} (hc : c ≤ 160) (h82 : am_mt X 82 [.ref 33] (en_E I A L V (.ref (3 + 2 * t)) Q) = some (some (.int 0), E2)) : am_go X 81 19 [some (.ref 33), some (.ref (3 + 2 * t)), some (.int (Int32.ofNat c)), some (.int 1)] [] (en_E I A L V (.ref (3 + 2 * t)) Q) = some (some (.int (Int32.ofNat c)), E2) := by
  have e1 : (160 < Int32.ofNat c) ↔ 161 ≤ c := as_li (g := 160) (by decide) (by omega)
  have h1 : ¬ 161 ≤ c := by omega
  simp only [q81_19, q81_20, q81_23, q81_24, q81_27, q81_30, q81_31, q81_34, q81_35, q81_36, q81_39, q81_40, q81_43, q81_46, q81_47, q81_50, q81_51, q81_54, q81_55, e1, h1, h82, en_c33, en_f33_0, en_f33_1, en_f33_2, en_p33_2, en_f33_3, en_p33_3, en_f33_4, en_p33_4, en_f33_5, en_p33_5, en_f33_6, en_p33_6, en_c26, en_f26_0, en_f26_1, en_f26_2, en_p26_2, en_f26_3, en_p26_3, en_f26_4, en_p26_4, en_f26_5, en_p26_5, en_f26_6, en_p26_6, en_f26_7, en_p26_7, en_f26_8, en_p26_8, en_f26_9, en_p26_9, en_f26_10, en_p26_10, en_f26_11, en_p26_11, en_f26_12, en_p26_12, en_f26_13, en_p26_13, en_f26_14, en_p26_14, as_10, as_01, Nat.reduceBEq, Nat.reduceEqDiff, ↓reduceIte, Option.bind_some, Option.getD_some, Option.isSome_some, Option.isSome_none, Bool.false_eq_true, Option.toList, List.nil_append, List.cons_append, List.lookup, Option.isSome, List.getElem?_cons_zero, List.getElem?_cons_succ, beq_self_eq_true, if_true, true_or, or_true, or_false, false_or, am_kl, true_and, and_true, and_false, false_and, if_false, not_true_eq_false, not_false_eq_true, as_b0, as_b1, as_em, as_ne, List.length_cons, List.length_nil, Nat.reduceAdd, Int32.reduceLT, Int32.reduceLE, Int32.reduceAdd, Int32.reduceSub, Int32.neg_neg, Int32.reduceMul, Int32.reduceToNatClampNeg, Nat.reduceLeDiff, Nat.reduceLT, List.set_cons_zero, List.set_cons_succ, List.length_set, en_at, en_uu, en_gd]
theorem tl_cs {X : List Int32} {I : Nat → Nat → Int32} {A : Nat → List Int32} {L : Nat → List Int64} {V : Nat → List Value} {Q : am_Mem} {t n : Nat} {c : Nat} {I1 : Nat → Nat → Int32} {I2 : Nat → Nat → Int32} {A2 : Nat → List Int32} {V2 : Nat → List Value} {Q2 E3 : am_Mem} (hc : c ≤ 160) (h82 : am_mt X 82 [.ref 33] (en_E I A L V (.ref (3 + 2 * t)) Q) = some (some (.int 1), en_E I1 A L V (.ref (3 + 2 * t)) Q)) (h93 : am_mt X 93 [.ref 33] (en_E I1 A L V (.ref (3 + 2 * t)) Q) = some (none, en_E I2 A2 L V2 (.ref (3 + 2 * t)) Q2)) (h95 : am_mt X 95 [.ref 33] (en_E I2 A2 L V2 (.ref (3 + 2 * t)) Q2) = some (some (.int 0), E3)) : am_go X 81 19 [some (.ref 33), some (.ref (3 + 2 * t)), some (.int (Int32.ofNat c)), some (.int 1)] [] (en_E I A L V (.ref (3 + 2 * t)) Q) = some (some (.int (Int32.ofNat (c + 1))), E3) := by
  have e1 : (160 < Int32.ofNat c) ↔ 161 ≤ c := as_li (g := 160) (by decide) (by omega)
  have h1 : ¬ 161 ≤ c := by omega
  have e2 : Int32.ofNat c + 1 = Int32.ofNat (c + 1) := as_add (b := 1)
  simp only [q81_19, q81_20, q81_23, q81_24, q81_27, q81_30, q81_31, q81_34, q81_35, q81_36, q81_39, q81_40, q81_43, q81_46, q81_47, q81_50, q81_51, q81_54, q81_55, e1, h1, e2, h82, h93, h95, en_c33, en_f33_0, en_f33_1, en_f33_2, en_p33_2, en_f33_3, en_p33_3, en_f33_4, en_p33_4, en_f33_5, en_p33_5, en_f33_6, en_p33_6, en_c26, en_f26_0, en_f26_1, en_f26_2, en_p26_2, en_f26_3, en_p26_3, en_f26_4, en_p26_4, en_f26_5, en_p26_5, en_f26_6, en_p26_6, en_f26_7, en_p26_7, en_f26_8, en_p26_8, en_f26_9, en_p26_9, en_f26_10, en_p26_10, en_f26_11, en_p26_11, en_f26_12, en_p26_12, en_f26_13, en_p26_13, en_f26_14, en_p26_14, as_10, as_01, Nat.reduceBEq, Nat.reduceEqDiff, ↓reduceIte, Option.bind_some, Option.getD_some, Option.isSome_some, Option.isSome_none, Bool.false_eq_true, Option.toList, List.nil_append, List.cons_append, List.lookup, Option.isSome, List.getElem?_cons_zero, List.getElem?_cons_succ, beq_self_eq_true, if_true, true_or, or_true, or_false, false_or, am_kl, true_and, and_true, and_false, false_and, if_false, not_true_eq_false, not_false_eq_true, as_b0, as_b1, as_em, as_ne, List.length_cons, List.length_nil, Nat.reduceAdd, Int32.reduceLT, Int32.reduceLE, Int32.reduceAdd, Int32.reduceSub, Int32.neg_neg, Int32.reduceMul, Int32.reduceToNatClampNeg, Nat.reduceLeDiff, Nat.reduceLT, List.set_cons_zero, List.set_cons_succ, List.length_set, en_at, en_uu, en_gd]
theorem tl_cg {X : List Int32} {I : Nat → Nat → Int32} {A : Nat → List Int32} {L : Nat → List Int64} {V : Nat → List Value} {Q : am_Mem} {t n : Nat} {c : Nat} {I1 : Nat → Nat → Int32} {I2 : Nat → Nat → Int32} {A2 : Nat → List Int32} {V2 : Nat → List Value} {Q2 E3 : am_Mem} (hc : c ≤ 160) (h82 : am_mt X 82 [.ref 33] (en_E I A L V (.ref (3 + 2 * t)) Q) = some (some (.int 1), en_E I1 A L V (.ref (3 + 2 * t)) Q)) (h93 : am_mt X 93 [.ref 33] (en_E I1 A L V (.ref (3 + 2 * t)) Q) = some (none, en_E I2 A2 L V2 (.ref (3 + 2 * t)) Q2)) (h95 : am_mt X 95 [.ref 33] (en_E I2 A2 L V2 (.ref (3 + 2 * t)) Q2) = some (some (.int 1), E3)) : am_go X 81 19 [some (.ref 33), some (.ref (3 + 2 * t)), some (.int (Int32.ofNat c)), some (.int 1)] [] (en_E I A L V (.ref (3 + 2 * t)) Q) = am_go X 81 19 [some (.ref 33), some (.ref (3 + 2 * t)), some (.int (Int32.ofNat (c + 1))), some (.int 1)] [] E3 := by
  have e1 : (160 < Int32.ofNat c) ↔ 161 ≤ c := as_li (g := 160) (by decide) (by omega)
  have h1 : ¬ 161 ≤ c := by omega
  have e2 : Int32.ofNat c + 1 = Int32.ofNat (c + 1) := as_add (b := 1)
  rw [q81_19]
  simp only [q81_20, q81_23, q81_24, q81_27, q81_30, q81_31, q81_34, q81_35, q81_36, q81_39, q81_40, q81_43, q81_46, q81_47, q81_50, q81_51, q81_54, q81_55, e1, h1, e2, h82, h93, h95, en_c33, en_f33_0, en_f33_1, en_f33_2, en_p33_2, en_f33_3, en_p33_3, en_f33_4, en_p33_4, en_f33_5, en_p33_5, en_f33_6, en_p33_6, en_c26, en_f26_0, en_f26_1, en_f26_2, en_p26_2, en_f26_3, en_p26_3, en_f26_4, en_p26_4, en_f26_5, en_p26_5, en_f26_6, en_p26_6, en_f26_7, en_p26_7, en_f26_8, en_p26_8, en_f26_9, en_p26_9, en_f26_10, en_p26_10, en_f26_11, en_p26_11, en_f26_12, en_p26_12, en_f26_13, en_p26_13, en_f26_14, en_p26_14, as_10, as_01, Nat.reduceBEq, Nat.reduceEqDiff, ↓reduceIte, Option.bind_some, Option.getD_some, Option.isSome_some, Option.isSome_none, Bool.false_eq_true, Option.toList, List.nil_append, List.cons_append, List.lookup, Option.isSome, List.getElem?_cons_zero, List.getElem?_cons_succ, beq_self_eq_true, if_true, true_or, or_true, or_false, false_or, am_kl, true_and, and_true, and_false, false_and, if_false, not_true_eq_false, not_false_eq_true, as_b0, as_b1, as_em, as_ne, List.length_cons, List.length_nil, Nat.reduceAdd, Int32.reduceLT, Int32.reduceLE, Int32.reduceAdd, Int32.reduceSub, Int32.neg_neg, Int32.reduceMul, Int32.reduceToNatClampNeg, Nat.reduceLeDiff, Nat.reduceLT, List.set_cons_zero, List.set_cons_succ, List.length_set, en_at, en_uu, en_gd]
theorem tl_mf56 {X : List Int32} {I : Nat → Nat → Int32} {A : Nat → List Int32} {L : Nat → List Int64} {V : Nat → List Value} {W : Value} {Q E2 : am_Mem} {s bz nn : Int32} {x4 : Option Value} (h199 : am_mt X 199 [.ref 36] (en_E I A L V W Q) = some (some (.int 0), E2)) : am_go X 195 56 [some (.ref 36), some (.int s), some (.int bz), some (.int nn), x4] [] (en_E I A L V W Q) = am_go X 195 133 [some (.ref 36), some (.int s), some (.int bz), some (.int nn), some (.int 0)] [] E2 := by
  simp only [q195_56, q195_57, q195_60, q195_62, q195_64, q195_67, q195_68, q195_71, q195_72, q195_75, q195_78, q195_79, q195_82, q195_83, q195_86, q195_87, q195_90, q195_91, q195_92, q195_93, q195_95, q195_98, q195_99, q195_100, q195_103, q195_106, q195_108, q195_111, q195_112, q195_113, q195_116, q195_117, q195_118, q195_121, q195_124, q195_125, q195_128, q195_130, h199, en_c36, as_10, as_01, Nat.reduceBEq, Nat.reduceEqDiff, ↓reduceIte, Option.bind_some, Option.getD_some, Option.isSome_some, Option.isSome_none, Bool.false_eq_true, Option.toList, List.nil_append, List.cons_append, List.lookup, Option.isSome, List.getElem?_cons_zero, List.getElem?_cons_succ, beq_self_eq_true, if_true, true_or, or_true, or_false, false_or, am_kl, true_and, and_true, and_false, false_and, if_false, not_true_eq_false, not_false_eq_true, as_b0, as_b1, as_em, as_ne, List.length_cons, List.length_nil, Nat.reduceAdd, Int32.reduceLT, Int32.reduceLE, Int32.reduceAdd, Int32.reduceSub, Int32.neg_neg, Int32.reduceMul, Int32.reduceToNatClampNeg, Nat.reduceLeDiff, Nat.reduceLT, List.set_cons_zero, List.set_cons_succ, List.length_set, en_at, en_uu, en_gd]
theorem tl_me56 {X : List Int32} {I : Nat → Nat → Int32} {A : Nat → List Int32} {L : Nat → List Int64} {V : Nat → List Value} {W : Value} {Q : am_Mem} {t n : Nat} {el : Nat → Int32} {p : Nat} {E1 : am_Mem} {s bz nn : Int32} {x4 : Option Value} (h45 : (L 45).length = 1280) (ht8 : t < 8) (hn : n ≤ 160) (hb : I 36 29 = Int32.ofNat (160 * t)) (he : I 36 31 = Int32.ofNat n) (hel : ∀ q, q < n → ((L 45).getD (160 * t + q) 0).toInt32 = el q) (heo : ∀ q, n ≤ q → el q = -1) (hp : I 36 30 = Int32.ofNat p) (hp2 : p ≤ 300) (h : ¬ p < n) (h1c : am_cls E1 36 = some 12) (h199 : am_mt X 199 [.ref 36] E1 = some (some (.int 1), en_E I A L V W Q)) : am_go X 195 56 [some (.ref 36), some (.int s), some (.int bz), some (.int nn), x4] [] E1 = am_go X 195 133 [some (.ref 36), some (.int s), some (.int bz), some (.int nn), some (.int 1)] [] (en_E I A L V W Q) := by
  have e1 := as_lt (show p < 2147483648 by omega) (show n < 2147483648 by omega)
  have z : Int32.ofNat p + 1 = Int32.ofNat (p + 1) := as_add (b := 1)
  simp only [q195_56, q195_57, q195_60, q195_62, q195_64, q195_67, q195_68, q195_71, q195_72, q195_75, q195_78, q195_79, q195_82, q195_83, q195_86, q195_87, q195_90, q195_91, q195_92, q195_93, q195_95, q195_98, q195_99, q195_100, q195_103, q195_106, q195_108, q195_111, q195_112, q195_113, q195_116, q195_117, q195_118, q195_121, q195_124, q195_125, q195_128, q195_130, h199, h1c, hp, hb, he, e1, z, ct_201, h, en_c36, en_f36_0, en_p36_0, en_f36_1, en_p36_1, en_f36_2, en_p36_2, en_f36_3, en_p36_3, en_f36_4, en_p36_4, en_f36_5, en_p36_5, en_f36_6, en_p36_6, en_f36_7, en_p36_7, en_f36_8, en_p36_8, en_f36_9, en_p36_9, en_f36_10, en_p36_10, en_f36_11, en_p36_11, en_f36_12, en_p36_12, en_f36_13, en_p36_13, en_f36_14, en_f36_15, en_f36_16, en_f36_17, en_f36_18, en_f36_19, en_f36_20, en_f36_21, en_f36_22, en_f36_23, en_f36_24, en_f36_25, en_f36_26, en_f36_27, en_f36_28, en_f36_29, en_p36_29, en_f36_30, en_p36_30, en_f36_31, en_p36_31, en_f36_32, en_p36_32, en_f36_33, en_p36_33, en_f36_34, en_f36_35, en_f36_36, en_f36_37, en_f36_38, en_p36_38, en_f36_39, en_f36_40, en_p36_40, en_f36_41, en_p36_41, en_a45, en_l45, en_s45, as_10, as_01, Nat.reduceBEq, Nat.reduceEqDiff, ↓reduceIte, Option.bind_some, Option.getD_some, Option.isSome_some, Option.isSome_none, Bool.false_eq_true, Option.toList, List.nil_append, List.cons_append, List.lookup, Option.isSome, List.getElem?_cons_zero, List.getElem?_cons_succ, beq_self_eq_true, if_true, true_or, or_true, or_false, false_or, am_kl, true_and, and_true, and_false, false_and, if_false, not_true_eq_false, not_false_eq_true, as_b0, as_b1, as_em, as_ne, List.length_cons, List.length_nil, Nat.reduceAdd, Int32.reduceLT, Int32.reduceLE, Int32.reduceAdd, Int32.reduceSub, Int32.neg_neg, Int32.reduceMul, Int32.reduceToNatClampNeg, Nat.reduceLeDiff, Nat.reduceLT, List.set_cons_zero, List.set_cons_succ, List.length_set, en_at, en_uu, en_gd]
theorem tl_mx56 {X : List Int32} {I : Nat → Nat → Int32} {A : Nat → List Int32} {L : Nat → List Int64} {V : Nat → List Value} {W : Value} {Q : am_Mem} {t n : Nat} {el : Nat → Int32} {p : Nat} {E1 : am_Mem} {s bz nn : Int32} {x4 : Option Value} (h45 : (L 45).length = 1280) (ht8 : t < 8) (hn : n ≤ 160) (hb : I 36 29 = Int32.ofNat (160 * t)) (he : I 36 31 = Int32.ofNat n) (hel : ∀ q, q < n → ((L 45).getD (160 * t + q) 0).toInt32 = el q) (heo : ∀ q, n ≤ q → el q = -1) (hp : I 36 30 = Int32.ofNat p) (hp2 : p ≤ 300) (h : p < n) (h2 : ¬ el p = 59) (h1c : am_cls E1 36 = some 12) (h199 : am_mt X 199 [.ref 36] E1 = some (some (.int 1), en_E I A L V W Q)) : am_go X 195 56 [some (.ref 36), some (.int s), some (.int bz), some (.int nn), x4] [] E1 = am_go X 195 133 [some (.ref 36), some (.int s), some (.int bz), some (.int nn), some (.int 0)] [] (en_E (en_u I 36 (en_u (I 36) 33 (Int32.ofNat p))) A L V W Q) := by
  have e1 := as_lt (show p < 2147483648 by omega) (show n < 2147483648 by omega)
  have z : Int32.ofNat p + 1 = Int32.ofNat (p + 1) := as_add (b := 1)
  have xc := md_x45 (t := t) (q := p) h45 ht8 (by omega)
  have xe := hel p h
  have xs : Int32.ofNat (160 * t) + Int32.ofNat p = Int32.ofNat (160 * t + p) := as_add
  have xn := as_nat (show 160 * t + p < 2147483648 by omega)
  have xp := as_pos (show 160 * t + p < 2147483648 by omega)
  simp only [q195_56, q195_57, q195_60, q195_62, q195_64, q195_67, q195_68, q195_71, q195_72, q195_75, q195_78, q195_79, q195_82, q195_83, q195_86, q195_87, q195_90, q195_91, q195_92, q195_93, q195_95, q195_98, q195_99, q195_100, q195_103, q195_106, q195_108, q195_111, q195_112, q195_113, q195_116, q195_117, q195_118, q195_121, q195_124, q195_125, q195_128, q195_130, h199, h1c, hp, hb, he, e1, z, ct_201, h, h2, xc, xe, xs, xn, xp, en_c36, en_f36_0, en_p36_0, en_f36_1, en_p36_1, en_f36_2, en_p36_2, en_f36_3, en_p36_3, en_f36_4, en_p36_4, en_f36_5, en_p36_5, en_f36_6, en_p36_6, en_f36_7, en_p36_7, en_f36_8, en_p36_8, en_f36_9, en_p36_9, en_f36_10, en_p36_10, en_f36_11, en_p36_11, en_f36_12, en_p36_12, en_f36_13, en_p36_13, en_f36_14, en_f36_15, en_f36_16, en_f36_17, en_f36_18, en_f36_19, en_f36_20, en_f36_21, en_f36_22, en_f36_23, en_f36_24, en_f36_25, en_f36_26, en_f36_27, en_f36_28, en_f36_29, en_p36_29, en_f36_30, en_p36_30, en_f36_31, en_p36_31, en_f36_32, en_p36_32, en_f36_33, en_p36_33, en_f36_34, en_f36_35, en_f36_36, en_f36_37, en_f36_38, en_p36_38, en_f36_39, en_f36_40, en_p36_40, en_f36_41, en_p36_41, en_a45, en_l45, en_s45, as_10, as_01, Nat.reduceBEq, Nat.reduceEqDiff, ↓reduceIte, Option.bind_some, Option.getD_some, Option.isSome_some, Option.isSome_none, Bool.false_eq_true, Option.toList, List.nil_append, List.cons_append, List.lookup, Option.isSome, List.getElem?_cons_zero, List.getElem?_cons_succ, beq_self_eq_true, if_true, true_or, or_true, or_false, false_or, am_kl, true_and, and_true, and_false, false_and, if_false, not_true_eq_false, not_false_eq_true, as_b0, as_b1, as_em, as_ne, List.length_cons, List.length_nil, Nat.reduceAdd, Int32.reduceLT, Int32.reduceLE, Int32.reduceAdd, Int32.reduceSub, Int32.neg_neg, Int32.reduceMul, Int32.reduceToNatClampNeg, Nat.reduceLeDiff, Nat.reduceLT, List.set_cons_zero, List.set_cons_succ, List.length_set, en_at, en_uu, en_gd]
theorem tl_mc56 {X : List Int32} {I : Nat → Nat → Int32} {A : Nat → List Int32} {L : Nat → List Int64} {V : Nat → List Value} {W : Value} {Q : am_Mem} {t n : Nat} {el : Nat → Int32} {p : Nat} {E1 : am_Mem} {s bz nn : Int32} {x4 : Option Value} (h45 : (L 45).length = 1280) (ht8 : t < 8) (hn : n ≤ 160) (hb : I 36 29 = Int32.ofNat (160 * t)) (he : I 36 31 = Int32.ofNat n) (hel : ∀ q, q < n → ((L 45).getD (160 * t + q) 0).toInt32 = el q) (heo : ∀ q, n ≤ q → el q = -1) (hp : I 36 30 = Int32.ofNat p) (hp2 : p ≤ 300) (h : p < n) (h2 : el p = 59) (h1c : am_cls E1 36 = some 12) (h199 : am_mt X 199 [.ref 36] E1 = some (some (.int 1), en_E I A L V W Q)) : am_go X 195 56 [some (.ref 36), some (.int s), some (.int bz), some (.int nn), x4] [] E1 = am_go X 195 124 [some (.ref 36), some (.int s), some (.int bz), some (.int (nn + 1)), some (.int 1)] [] (en_E (en_u I 36 (en_u (I 36) 30 (Int32.ofNat (p + 1)))) A L V W Q) := by
  have e1 := as_lt (show p < 2147483648 by omega) (show n < 2147483648 by omega)
  have z : Int32.ofNat p + 1 = Int32.ofNat (p + 1) := as_add (b := 1)
  have xc := md_x45 (t := t) (q := p) h45 ht8 (by omega)
  have xe := hel p h
  have xs : Int32.ofNat (160 * t) + Int32.ofNat p = Int32.ofNat (160 * t + p) := as_add
  have xn := as_nat (show 160 * t + p < 2147483648 by omega)
  have xp := as_pos (show 160 * t + p < 2147483648 by omega)
  simp only [q195_56, q195_57, q195_60, q195_62, q195_64, q195_67, q195_68, q195_71, q195_72, q195_75, q195_78, q195_79, q195_82, q195_83, q195_86, q195_87, q195_90, q195_91, q195_92, q195_93, q195_95, q195_98, q195_99, q195_100, q195_103, q195_106, q195_108, q195_111, q195_112, q195_113, q195_116, q195_117, q195_118, q195_121, h199, h1c, hp, hb, he, e1, z, ct_201, h, h2, xc, xe, xs, xn, xp, en_c36, en_f36_0, en_p36_0, en_f36_1, en_p36_1, en_f36_2, en_p36_2, en_f36_3, en_p36_3, en_f36_4, en_p36_4, en_f36_5, en_p36_5, en_f36_6, en_p36_6, en_f36_7, en_p36_7, en_f36_8, en_p36_8, en_f36_9, en_p36_9, en_f36_10, en_p36_10, en_f36_11, en_p36_11, en_f36_12, en_p36_12, en_f36_13, en_p36_13, en_f36_14, en_f36_15, en_f36_16, en_f36_17, en_f36_18, en_f36_19, en_f36_20, en_f36_21, en_f36_22, en_f36_23, en_f36_24, en_f36_25, en_f36_26, en_f36_27, en_f36_28, en_f36_29, en_p36_29, en_f36_30, en_p36_30, en_f36_31, en_p36_31, en_f36_32, en_p36_32, en_f36_33, en_p36_33, en_f36_34, en_f36_35, en_f36_36, en_f36_37, en_f36_38, en_p36_38, en_f36_39, en_f36_40, en_p36_40, en_f36_41, en_p36_41, en_a45, en_l45, en_s45, as_10, as_01, Nat.reduceBEq, Nat.reduceEqDiff, ↓reduceIte, Option.bind_some, Option.getD_some, Option.isSome_some, Option.isSome_none, Bool.false_eq_true, Option.toList, List.nil_append, List.cons_append, List.lookup, Option.isSome, List.getElem?_cons_zero, List.getElem?_cons_succ, beq_self_eq_true, if_true, true_or, or_true, or_false, false_or, am_kl, true_and, and_true, and_false, false_and, if_false, not_true_eq_false, not_false_eq_true, as_b0, as_b1, as_em, as_ne, List.length_cons, List.length_nil, Nat.reduceAdd, Int32.reduceLT, Int32.reduceLE, Int32.reduceAdd, Int32.reduceSub, Int32.neg_neg, Int32.reduceMul, Int32.reduceToNatClampNeg, Nat.reduceLeDiff, Nat.reduceLT, List.set_cons_zero, List.set_cons_succ, List.length_set, en_at, en_uu, en_gd]
theorem tl_mf124 {X : List Int32} {I : Nat → Nat → Int32} {A : Nat → List Int32} {L : Nat → List Int64} {V : Nat → List Value} {W : Value} {Q E2 : am_Mem} {s bz nn : Int32} {x4 : Option Value} (h199 : am_mt X 199 [.ref 36] (en_E I A L V W Q) = some (some (.int 0), E2)) : am_go X 195 124 [some (.ref 36), some (.int s), some (.int bz), some (.int nn), x4] [] (en_E I A L V W Q) = am_go X 195 133 [some (.ref 36), some (.int s), some (.int bz), some (.int nn), some (.int 0)] [] E2 := by
  simp only [q195_56, q195_57, q195_60, q195_62, q195_64, q195_67, q195_68, q195_71, q195_72, q195_75, q195_78, q195_79, q195_82, q195_83, q195_86, q195_87, q195_90, q195_91, q195_92, q195_93, q195_95, q195_98, q195_99, q195_100, q195_103, q195_106, q195_108, q195_111, q195_112, q195_113, q195_116, q195_117, q195_118, q195_121, q195_124, q195_125, q195_128, q195_130, h199, en_c36, as_10, as_01, Nat.reduceBEq, Nat.reduceEqDiff, ↓reduceIte, Option.bind_some, Option.getD_some, Option.isSome_some, Option.isSome_none, Bool.false_eq_true, Option.toList, List.nil_append, List.cons_append, List.lookup, Option.isSome, List.getElem?_cons_zero, List.getElem?_cons_succ, beq_self_eq_true, if_true, true_or, or_true, or_false, false_or, am_kl, true_and, and_true, and_false, false_and, if_false, not_true_eq_false, not_false_eq_true, as_b0, as_b1, as_em, as_ne, List.length_cons, List.length_nil, Nat.reduceAdd, Int32.reduceLT, Int32.reduceLE, Int32.reduceAdd, Int32.reduceSub, Int32.neg_neg, Int32.reduceMul, Int32.reduceToNatClampNeg, Nat.reduceLeDiff, Nat.reduceLT, List.set_cons_zero, List.set_cons_succ, List.length_set, en_at, en_uu, en_gd]
theorem tl_me124 {X : List Int32} {I : Nat → Nat → Int32} {A : Nat → List Int32} {L : Nat → List Int64} {V : Nat → List Value} {W : Value} {Q : am_Mem} {t n : Nat} {el : Nat → Int32} {p : Nat} {E1 : am_Mem} {s bz nn : Int32} {x4 : Option Value} (h45 : (L 45).length = 1280) (ht8 : t < 8) (hn : n ≤ 160) (hb : I 36 29 = Int32.ofNat (160 * t)) (he : I 36 31 = Int32.ofNat n) (hel : ∀ q, q < n → ((L 45).getD (160 * t + q) 0).toInt32 = el q) (heo : ∀ q, n ≤ q → el q = -1) (hp : I 36 30 = Int32.ofNat p) (hp2 : p ≤ 300) (h : ¬ p < n) (h1c : am_cls E1 36 = some 12) (h199 : am_mt X 199 [.ref 36] E1 = some (some (.int 1), en_E I A L V W Q)) : am_go X 195 124 [some (.ref 36), some (.int s), some (.int bz), some (.int nn), x4] [] E1 = am_go X 195 133 [some (.ref 36), some (.int s), some (.int bz), some (.int nn), some (.int 1)] [] (en_E I A L V W Q) := by
  have e1 := as_lt (show p < 2147483648 by omega) (show n < 2147483648 by omega)
  have z : Int32.ofNat p + 1 = Int32.ofNat (p + 1) := as_add (b := 1)
  simp only [q195_56, q195_57, q195_60, q195_62, q195_64, q195_67, q195_68, q195_71, q195_72, q195_75, q195_78, q195_79, q195_82, q195_83, q195_86, q195_87, q195_90, q195_91, q195_92, q195_93, q195_95, q195_98, q195_99, q195_100, q195_103, q195_106, q195_108, q195_111, q195_112, q195_113, q195_116, q195_117, q195_118, q195_121, q195_124, q195_125, q195_128, q195_130, h199, h1c, hp, hb, he, e1, z, ct_201, h, en_c36, en_f36_0, en_p36_0, en_f36_1, en_p36_1, en_f36_2, en_p36_2, en_f36_3, en_p36_3, en_f36_4, en_p36_4, en_f36_5, en_p36_5, en_f36_6, en_p36_6, en_f36_7, en_p36_7, en_f36_8, en_p36_8, en_f36_9, en_p36_9, en_f36_10, en_p36_10, en_f36_11, en_p36_11, en_f36_12, en_p36_12, en_f36_13, en_p36_13, en_f36_14, en_f36_15, en_f36_16, en_f36_17, en_f36_18, en_f36_19, en_f36_20, en_f36_21, en_f36_22, en_f36_23, en_f36_24, en_f36_25, en_f36_26, en_f36_27, en_f36_28, en_f36_29, en_p36_29, en_f36_30, en_p36_30, en_f36_31, en_p36_31, en_f36_32, en_p36_32, en_f36_33, en_p36_33, en_f36_34, en_f36_35, en_f36_36, en_f36_37, en_f36_38, en_p36_38, en_f36_39, en_f36_40, en_p36_40, en_f36_41, en_p36_41, en_a45, en_l45, en_s45, as_10, as_01, Nat.reduceBEq, Nat.reduceEqDiff, ↓reduceIte, Option.bind_some, Option.getD_some, Option.isSome_some, Option.isSome_none, Bool.false_eq_true, Option.toList, List.nil_append, List.cons_append, List.lookup, Option.isSome, List.getElem?_cons_zero, List.getElem?_cons_succ, beq_self_eq_true, if_true, true_or, or_true, or_false, false_or, am_kl, true_and, and_true, and_false, false_and, if_false, not_true_eq_false, not_false_eq_true, as_b0, as_b1, as_em, as_ne, List.length_cons, List.length_nil, Nat.reduceAdd, Int32.reduceLT, Int32.reduceLE, Int32.reduceAdd, Int32.reduceSub, Int32.neg_neg, Int32.reduceMul, Int32.reduceToNatClampNeg, Nat.reduceLeDiff, Nat.reduceLT, List.set_cons_zero, List.set_cons_succ, List.length_set, en_at, en_uu, en_gd]
theorem tl_mx124 {X : List Int32} {I : Nat → Nat → Int32} {A : Nat → List Int32} {L : Nat → List Int64} {V : Nat → List Value} {W : Value} {Q : am_Mem} {t n : Nat} {el : Nat → Int32} {p : Nat} {E1 : am_Mem} {s bz nn : Int32} {x4 : Option Value} (h45 : (L 45).length = 1280) (ht8 : t < 8) (hn : n ≤ 160) (hb : I 36 29 = Int32.ofNat (160 * t)) (he : I 36 31 = Int32.ofNat n) (hel : ∀ q, q < n → ((L 45).getD (160 * t + q) 0).toInt32 = el q) (heo : ∀ q, n ≤ q → el q = -1) (hp : I 36 30 = Int32.ofNat p) (hp2 : p ≤ 300) (h : p < n) (h2 : ¬ el p = 59) (h1c : am_cls E1 36 = some 12) (h199 : am_mt X 199 [.ref 36] E1 = some (some (.int 1), en_E I A L V W Q)) : am_go X 195 124 [some (.ref 36), some (.int s), some (.int bz), some (.int nn), x4] [] E1 = am_go X 195 133 [some (.ref 36), some (.int s), some (.int bz), some (.int nn), some (.int 0)] [] (en_E (en_u I 36 (en_u (I 36) 33 (Int32.ofNat p))) A L V W Q) := by
  have e1 := as_lt (show p < 2147483648 by omega) (show n < 2147483648 by omega)
  have z : Int32.ofNat p + 1 = Int32.ofNat (p + 1) := as_add (b := 1)
  have xc := md_x45 (t := t) (q := p) h45 ht8 (by omega)
  have xe := hel p h
  have xs : Int32.ofNat (160 * t) + Int32.ofNat p = Int32.ofNat (160 * t + p) := as_add
  have xn := as_nat (show 160 * t + p < 2147483648 by omega)
  have xp := as_pos (show 160 * t + p < 2147483648 by omega)
  simp only [q195_56, q195_57, q195_60, q195_62, q195_64, q195_67, q195_68, q195_71, q195_72, q195_75, q195_78, q195_79, q195_82, q195_83, q195_86, q195_87, q195_90, q195_91, q195_92, q195_93, q195_95, q195_98, q195_99, q195_100, q195_103, q195_106, q195_108, q195_111, q195_112, q195_113, q195_116, q195_117, q195_118, q195_121, q195_124, q195_125, q195_128, q195_130, h199, h1c, hp, hb, he, e1, z, ct_201, h, h2, xc, xe, xs, xn, xp, en_c36, en_f36_0, en_p36_0, en_f36_1, en_p36_1, en_f36_2, en_p36_2, en_f36_3, en_p36_3, en_f36_4, en_p36_4, en_f36_5, en_p36_5, en_f36_6, en_p36_6, en_f36_7, en_p36_7, en_f36_8, en_p36_8, en_f36_9, en_p36_9, en_f36_10, en_p36_10, en_f36_11, en_p36_11, en_f36_12, en_p36_12, en_f36_13, en_p36_13, en_f36_14, en_f36_15, en_f36_16, en_f36_17, en_f36_18, en_f36_19, en_f36_20, en_f36_21, en_f36_22, en_f36_23, en_f36_24, en_f36_25, en_f36_26, en_f36_27, en_f36_28, en_f36_29, en_p36_29, en_f36_30, en_p36_30, en_f36_31, en_p36_31, en_f36_32, en_p36_32, en_f36_33, en_p36_33, en_f36_34, en_f36_35, en_f36_36, en_f36_37, en_f36_38, en_p36_38, en_f36_39, en_f36_40, en_p36_40, en_f36_41, en_p36_41, en_a45, en_l45, en_s45, as_10, as_01, Nat.reduceBEq, Nat.reduceEqDiff, ↓reduceIte, Option.bind_some, Option.getD_some, Option.isSome_some, Option.isSome_none, Bool.false_eq_true, Option.toList, List.nil_append, List.cons_append, List.lookup, Option.isSome, List.getElem?_cons_zero, List.getElem?_cons_succ, beq_self_eq_true, if_true, true_or, or_true, or_false, false_or, am_kl, true_and, and_true, and_false, false_and, if_false, not_true_eq_false, not_false_eq_true, as_b0, as_b1, as_em, as_ne, List.length_cons, List.length_nil, Nat.reduceAdd, Int32.reduceLT, Int32.reduceLE, Int32.reduceAdd, Int32.reduceSub, Int32.neg_neg, Int32.reduceMul, Int32.reduceToNatClampNeg, Nat.reduceLeDiff, Nat.reduceLT, List.set_cons_zero, List.set_cons_succ, List.length_set, en_at, en_uu, en_gd]
theorem tl_mc124 {X : List Int32} {I : Nat → Nat → Int32} {A : Nat → List Int32} {L : Nat → List Int64} {V : Nat → List Value} {W : Value} {Q : am_Mem} {t n : Nat} {el : Nat → Int32} {p : Nat} {E1 : am_Mem} {s bz nn : Int32} {x4 : Option Value} (h45 : (L 45).length = 1280) (ht8 : t < 8) (hn : n ≤ 160) (hb : I 36 29 = Int32.ofNat (160 * t)) (he : I 36 31 = Int32.ofNat n) (hel : ∀ q, q < n → ((L 45).getD (160 * t + q) 0).toInt32 = el q) (heo : ∀ q, n ≤ q → el q = -1) (hp : I 36 30 = Int32.ofNat p) (hp2 : p ≤ 300) (h : p < n) (h2 : el p = 59) (h1c : am_cls E1 36 = some 12) (h199 : am_mt X 199 [.ref 36] E1 = some (some (.int 1), en_E I A L V W Q)) : am_go X 195 124 [some (.ref 36), some (.int s), some (.int bz), some (.int nn), x4] [] E1 = am_go X 195 124 [some (.ref 36), some (.int s), some (.int bz), some (.int (nn + 1)), some (.int 1)] [] (en_E (en_u I 36 (en_u (I 36) 30 (Int32.ofNat (p + 1)))) A L V W Q) := by
  have e1 := as_lt (show p < 2147483648 by omega) (show n < 2147483648 by omega)
  have z : Int32.ofNat p + 1 = Int32.ofNat (p + 1) := as_add (b := 1)
  have xc := md_x45 (t := t) (q := p) h45 ht8 (by omega)
  have xe := hel p h
  have xs : Int32.ofNat (160 * t) + Int32.ofNat p = Int32.ofNat (160 * t + p) := as_add
  have xn := as_nat (show 160 * t + p < 2147483648 by omega)
  have xp := as_pos (show 160 * t + p < 2147483648 by omega)
  simp only [q195_124, q195_125, q195_128, q195_130, q195_62, q195_64, q195_67, q195_68, q195_71, q195_72, q195_75, q195_78, q195_79, q195_82, q195_83, q195_86, q195_87, q195_90, q195_91, q195_92, q195_93, q195_95, q195_98, q195_99, q195_100, q195_103, q195_106, q195_108, q195_111, q195_112, q195_113, q195_116, q195_117, q195_118, q195_121, h199, h1c, hp, hb, he, e1, z, ct_201, h, h2, xc, xe, xs, xn, xp, en_c36, en_f36_0, en_p36_0, en_f36_1, en_p36_1, en_f36_2, en_p36_2, en_f36_3, en_p36_3, en_f36_4, en_p36_4, en_f36_5, en_p36_5, en_f36_6, en_p36_6, en_f36_7, en_p36_7, en_f36_8, en_p36_8, en_f36_9, en_p36_9, en_f36_10, en_p36_10, en_f36_11, en_p36_11, en_f36_12, en_p36_12, en_f36_13, en_p36_13, en_f36_14, en_f36_15, en_f36_16, en_f36_17, en_f36_18, en_f36_19, en_f36_20, en_f36_21, en_f36_22, en_f36_23, en_f36_24, en_f36_25, en_f36_26, en_f36_27, en_f36_28, en_f36_29, en_p36_29, en_f36_30, en_p36_30, en_f36_31, en_p36_31, en_f36_32, en_p36_32, en_f36_33, en_p36_33, en_f36_34, en_f36_35, en_f36_36, en_f36_37, en_f36_38, en_p36_38, en_f36_39, en_f36_40, en_p36_40, en_f36_41, en_p36_41, en_a45, en_l45, en_s45, as_10, as_01, Nat.reduceBEq, Nat.reduceEqDiff, ↓reduceIte, Option.bind_some, Option.getD_some, Option.isSome_some, Option.isSome_none, Bool.false_eq_true, Option.toList, List.nil_append, List.cons_append, List.lookup, Option.isSome, List.getElem?_cons_zero, List.getElem?_cons_succ, beq_self_eq_true, if_true, true_or, or_true, or_false, false_or, am_kl, true_and, and_true, and_false, false_and, if_false, not_true_eq_false, not_false_eq_true, as_b0, as_b1, as_em, as_ne, List.length_cons, List.length_nil, Nat.reduceAdd, Int32.reduceLT, Int32.reduceLE, Int32.reduceAdd, Int32.reduceSub, Int32.neg_neg, Int32.reduceMul, Int32.reduceToNatClampNeg, Nat.reduceLeDiff, Nat.reduceLT, List.set_cons_zero, List.set_cons_succ, List.length_set, en_at, en_uu, en_gd]

def tl_C (X : List Int32) (t c k : Nat) (I : Nat → Nat → Int32) (A : Nat → List Int32) (L : Nat → List Int64) (V : Nat → List Value) (Q : am_Mem) (J : Nat → Nat → Int32) (B : Nat → List Int32) (K : Nat → List Int64) (U : Nat → List Value) (Wm : Value) (R : am_Mem) : Prop := ∃ (r : Nat) (Y T Z : Nat → Int32) (f : List Int32) (v : List Value) (S : am_Mem) (C : Nat → List Int32) (pl : List Nat) (pd : List (Nat × Int32)) (on : Int32),
  am_go X 81 19 [some (.ref 33), some (.ref (3 + 2 * t)), some (.int (Int32.ofNat c)), some (.int 1)] [] (en_E I A L V (.ref (3 + 2 * t)) Q) = some (some (.int (Int32.ofNat r)), en_E (en_u (en_u I 33 Y) 26 T) (en_u A 28 f) L (en_u V 27 v) (.ref (3 + 2 * t)) (Q ++ S)) ∧
  (∀ (s bz : Int32) (x4 : Option Value) (pc : Nat), pc = 56 ∨ pc = 124 → ∃ nn : Int32, am_go X 195 pc [some (.ref 36), some (.int s), some (.int bz), some (.int (Int32.ofNat (c + 1))), x4] [] (en_E J B K U Wm R) = am_go X 195 133 [some (.ref 36), some (.int s), some (.int bz), some (.int nn), some (.int on)] [] (en_E (en_u J 36 Z) C K U Wm R) ∧ (on = 1 → nn = Int32.ofNat r)) ∧
  md_TM T Z f (C 40) C v (Q ++ S) pl pd ∧ (on = 1 ∧ Y 3 = -1 ∨ on = 0 ∧ Y 3 = Z 33 ∧ ¬ Y 3 = -1) ∧ Z 13 = J 36 13 ∧ (∀ j, 38 < j → Z j = J 36 j) ∧ (∀ j, ¬ j = 38 → ¬ j = 39 → ¬ j = 40 → ¬ j = 51 → C j = B j) ∧ (C 51).length = 2 ∧ S.length ≤ k ∧ md_QS S ∧ ∃ m, I 26 2 = Int32.ofNat m ∧ m ≤ 12 ∧ m ≤ pl.length
theorem md_QS_2 {Q S : am_Mem} (h : md_QS Q) (h2 : md_QS S) : md_QS (Q ++ S) := fun x hx => by
  rcases List.mem_append.mp hx with h3 | h3
  · exact h x h3
  · exact h2 x h3
theorem tl_loop {X : List Int32} {L K : Nat → List Int64} {U : Nat → List Value} {Wm : Value} {R : am_Mem} {t n : Nat} (ht8 : t < 8) (h160 : (L (4 + 2 * t)).length = 160) (hn : n ≤ 160) (h45 : (K 45).length = 1280) (hel : ∀ q, q < n → ((K 45).getD (160 * t + q) 0).toInt32 = (md_e (L (4 + 2 * t)) n) q) : ∀ (m p c : Nat) (I : Nat → Nat → Int32) (A : Nat → List Int32) (V : Nat → List Value) (Q : am_Mem) (J : Nat → Nat → Int32) (B : Nat → List Int32) (pl : List Nat) (pd : List (Nat × Int32)) (x0 x1 : Int32), n + 1 ≤ p + m → p ≤ n → c ≤ p → I (3 + 2 * t) 2 = Int32.ofNat n → I 33 2 = Int32.ofNat p → I 33 3 = -1 → J 36 29 = Int32.ofNat (160 * t) → J 36 31 = Int32.ofNat n → J 36 30 = Int32.ofNat p → B 51 = [x0, x1] → md_TM (I 26) (J 36) (A 28) (B 40) B (V 27) Q pl pd → tl_C X t c m I A L V Q J B K U Wm R
  | 0, p, c, I, A, V, Q, J, B, pl, pd, x0, x1, hm, hpn, hcp, hsz, hp, hf, hb, he, hq, h51, hT => by omega
  | m + 1, p, c, I, A, V, Q, J, B, pl, pd, x0, x1, hm, hpn, hcp, hsz, hp, hf, hb, he, hq, h51, hT => by
    have heo : ∀ q, n ≤ q → (md_e (L (4 + 2 * t)) n) q = -1 := fun q h => md_e_o h
    have hc1 : c ≤ 160 := by omega
    rcases it_any (X := X) (Wm := Wm) (U := U) (R := R) ht8 h160 hsz hn hp h45 hb he hel hq hpn h51 hT with hF | hK
    · obtain ⟨f, Y, Z, l, h82, y3, h199, z33, zr, hl, hfb⟩ := hF
      refine ⟨c, Y, (en_u I 33 Y) 26, Z, A 28, V 27, [], en_u B 51 l, pl, pd, 0, ?_, ?_, ?_, .inr ⟨rfl, y3.trans z33.symm, by rw [y3]; exact fun e => (as_nm hfb).mp e⟩, zr 13 (by omega), fun j hj => zr j (.inr (by omega)), fun j h1 h2 h3 h4 => by rw [en_at, if_neg h4], hl, Nat.zero_le _, (fun x hx => by simp at hx), pl.length, hT.2.2.2.2.2.2.1, by rw [hT.2.2.2.2.2.2.2.1]; exact hT.2.2.2.2.1.2.2.1, Nat.le_refl _⟩
      · rw [tl_cf (n := n) hc1 h82]
        simp only [en_id, List.append_nil]
      · intro s bz x4 pc hpc
        refine ⟨Int32.ofNat (c + 1), ?_, fun h => absurd h (by decide)⟩
        rcases hpc with rfl | rfl
        · exact tl_mf56 h199
        · exact tl_mf124 h199
      · rw [List.append_nil]
        exact tm_A (tm_Z hT (fun j hj => zr j (by omega))) rfl rfl
    · obtain ⟨p2, Y, T, Z, f, v, S, C, y0, y1, pl', pd', h82, h93, y2, y3, hS, hSQ, h199, z30, z29, z31, z13, zr, c51, cr, hp2a, hp2b, hTM, hcn⟩ := hK
      have hl4 : pl'.length ≤ 12 := by rw [hTM.2.2.2.2.2.2.2.1]; exact hTM.2.2.2.2.1.2.2.1
      have hsz2 : (en_u (en_u I 33 Y) 26 T) (3 + 2 * t) 2 = Int32.ofNat n := by
        rw [en_at, if_neg (by omega), en_at, if_neg (by omega)]; exact hsz
      have hcl : am_cls (en_E J B K U Wm R) 36 = some 12 := en_c36
      by_cases hlt : p2 < n
      · by_cases h59 : (md_e (L (4 + 2 * t)) n) p2 = 59
        · have h95 := ce_95_c (X := X) (I := en_u (en_u I 33 Y) 26 T) (A := en_u A 28 f) (L := L) (V := en_u V 27 v) (Q := Q ++ S) ht8 h160 hsz2 hn y2 (by omega) hlt h59
          have hg := tl_cg (n := n) hc1 h82 h93 h95
          obtain ⟨r, Y', T', Z', f', v', S', C', pl2, pd2, on, g1, g2, g3, g4, g5, g6, g7, g8, g9, g10, m2, gm1, gm2, gm3⟩ := tl_loop ht8 h160 hn h45 hel m (p2 + 1) (c + 1) (en_u (en_u (en_u I 33 Y) 26 T) 33 (en_u ((en_u (en_u I 33 Y) 26 T) 33) 2 (Int32.ofNat (p2 + 1)))) (en_u A 28 f) (en_u V 27 v) (Q ++ S) (en_u (en_u J 36 Z) 36 (en_u ((en_u J 36 Z) 36) 30 (Int32.ofNat (p2 + 1)))) C pl' pd' y0 y1 (by omega) (by omega) (by omega) (by rw [en_at, if_neg (by omega)]; exact hsz2) rfl (y3.trans hf) (z29.trans hb) (z31.trans he) rfl c51 (tm_Z hTM (fun j hj => by simp only [en_at, show ¬ j = 30 by omega, ↓reduceIte]))
          rw [it_e, en_uu, en_uu, List.append_assoc] at g1
          refine ⟨r, Y', T', Z', f', v', S ++ S', C', pl2, pd2, on, hg.trans g1, ?_, by rw [← List.append_assoc]; exact g3, g4, g5.trans z13, fun j hj => (g6 j hj).trans ?_, fun j h1 h2 h3 h4 => (g7 j h1 h2 h3 h4).trans (cr j h1 h2 h3 h4), g8, by rw [List.length_append]; omega, md_QS_2 hSQ g10, ?_⟩
          · intro s bz x4 pc hpc
            obtain ⟨nn, k1, k2⟩ := g2 s bz (some (.int 1)) 124 (.inr rfl)
            refine ⟨nn, ?_, k2⟩
            have e2 : Int32.ofNat (c + 1) + 1 = Int32.ofNat (c + 1 + 1) := as_add (b := 1)
            rw [en_uu, en_uu] at k1
            rcases hpc with rfl | rfl
            · have k3 := tl_mc56 (s := s) (bz := bz) (nn := Int32.ofNat (c + 1)) (x4 := x4) h45 ht8 hn (z29.trans hb) (z31.trans he) hel heo z30 (by omega) hlt h59 hcl h199
              rw [en_uu, e2] at k3
              exact k3.trans k1
            · have k3 := tl_mc124 (s := s) (bz := bz) (nn := Int32.ofNat (c + 1)) (x4 := x4) h45 ht8 hn (z29.trans hb) (z31.trans he) hel heo z30 (by omega) hlt h59 hcl h199
              rw [en_uu, e2] at k3
              exact k3.trans k1
          · rw [en_uu, en_at, if_pos rfl, en_at, if_neg (by omega), en_at, if_pos rfl]; exact zr j hj
          · obtain ⟨m3, hm1, hm2, hm3⟩ := hcn
            have h8 : T 2 = Int32.ofNat m2 := gm1
            rw [hTM.2.2.2.2.2.2.1] at h8
            have h9 := (as_eq (by omega) (by omega)).mp h8
            exact ⟨m3, hm1, hm2, by omega⟩
        · have h95 := ce_95_f (X := X) (I := en_u (en_u I 33 Y) 26 T) (A := en_u A 28 f) (L := L) (V := en_u V 27 v) (Q := Q ++ S) ht8 h160 hsz2 hn y2 (by omega) hlt h59
          have hg := tl_cs (n := n) hc1 h82 h93 h95
          rw [it_f] at hg
          refine ⟨c + 1, _, T, en_u Z 33 (Int32.ofNat p2), f, v, S, C, pl', pd', 0, hg, ?_, tm_Z hTM (fun j hj => by rw [en_at, if_neg (by omega)]), .inr ⟨rfl, rfl, fun e => (as_nm (show p2 < 10000 by omega)).mp e⟩, z13, fun j hj => (by rw [en_at, if_neg (by omega)]; exact zr j hj), cr, by rw [c51]; rfl, by omega, hSQ, hcn⟩
          intro s bz x4 pc hpc
          refine ⟨Int32.ofNat (c + 1), ?_, fun h => absurd h (by decide)⟩
          rcases hpc with rfl | rfl
          · have k3 := tl_mx56 (s := s) (bz := bz) (nn := Int32.ofNat (c + 1)) (x4 := x4) h45 ht8 hn (z29.trans hb) (z31.trans he) hel heo z30 (by omega) hlt h59 hcl h199
            rw [en_uu] at k3
            exact k3
          · have k3 := tl_mx124 (s := s) (bz := bz) (nn := Int32.ofNat (c + 1)) (x4 := x4) h45 ht8 hn (z29.trans hb) (z31.trans he) hel heo z30 (by omega) hlt h59 hcl h199
            rw [en_uu] at k3
            exact k3
      · have h95 := ce_95_e (X := X) (I := en_u (en_u I 33 Y) 26 T) (A := en_u A 28 f) (L := L) (V := en_u V 27 v) (Q := Q ++ S) ht8 h160 hsz2 hn y2 (by omega) hlt
        have hg := tl_cs (n := n) hc1 h82 h93 h95
        refine ⟨c + 1, Y, T, Z, f, v, S, C, pl', pd', 1, hg, ?_, hTM, .inl ⟨rfl, y3.trans hf⟩, z13, zr, cr, by rw [c51]; rfl, by omega, hSQ, hcn⟩
        intro s bz x4 pc hpc
        refine ⟨Int32.ofNat (c + 1), ?_, fun _ => rfl⟩
        rcases hpc with rfl | rfl
        · exact tl_me56 h45 ht8 hn (z29.trans hb) (z31.trans he) hel heo z30 (by omega) hlt hcl h199
        · exact tl_me124 h45 ht8 hn (z29.trans hb) (z31.trans he) hel heo z30 (by omega) hlt hcl h199

theorem en_pW {I : Nat → Nat → Int32} {A : Nat → List Int32} {L : Nat → List Int64} {V : Nat → List Value} {W : Value} {Q : am_Mem} {r : Nat} : am_pf (en_E I A L V W Q) 33 [(10, 2)] 1 (.ref r) = some (en_E I A L V (.ref r) Q) := rfl
theorem en_pY {α : Type} {f : Nat → α} {v w : α} : en_u (en_u f 3 v) 2 w = en_u (en_u f 2 w) 3 v := en_cm (by decide)
theorem tl_81 {X : List Int32} {I : Nat → Nat → Int32} {A : Nat → List Int32} {L : Nat → List Int64} {V : Nat → List Value} {W : Value} {Q : am_Mem} {r : Nat} : am_mt X 81 [.ref 33, .ref r] (en_E I A L V W Q) = am_go X 81 19 [some (.ref 33), some (.ref r), some (.int (Int32.ofNat 0)), some (.int 1)] [] (en_E (en_u I 33 (en_u (en_u (I 33) 2 0) 3 (-1))) A L V (.ref r) Q) := by
  rw [as_mt (n := 4) (by decide +kernel), show am_ent 4 [.ref 33, .ref r] = [some (.ref 33), some (.ref r), none, none] from rfl]
  simp only [q81_0, q81_1, q81_1n, q81_2, q81_5, q81_6, q81_7, q81_10, q81_11, q81_12, q81_15, q81_16, q81_17, q81_18, en_pW, show Int32.ofNat 0 = 0 from rfl, en_c33, en_f33_0, en_f33_1, en_f33_2, en_p33_2, en_f33_3, en_p33_3, en_f33_4, en_p33_4, en_f33_5, en_p33_5, en_f33_6, en_p33_6, en_c26, en_f26_0, en_f26_1, en_f26_2, en_p26_2, en_f26_3, en_p26_3, en_f26_4, en_p26_4, en_f26_5, en_p26_5, en_f26_6, en_p26_6, en_f26_7, en_p26_7, en_f26_8, en_p26_8, en_f26_9, en_p26_9, en_f26_10, en_p26_10, en_f26_11, en_p26_11, en_f26_12, en_p26_12, en_f26_13, en_p26_13, en_f26_14, en_p26_14, as_10, as_01, Nat.reduceBEq, Nat.reduceEqDiff, ↓reduceIte, Option.bind_some, Option.getD_some, Option.isSome_some, Option.isSome_none, Bool.false_eq_true, Option.toList, List.nil_append, List.cons_append, List.lookup, Option.isSome, List.getElem?_cons_zero, List.getElem?_cons_succ, beq_self_eq_true, if_true, true_or, or_true, or_false, false_or, am_kl, true_and, and_true, and_false, false_and, if_false, not_true_eq_false, not_false_eq_true, as_b0, as_b1, as_em, as_ne, List.length_cons, List.length_nil, Nat.reduceAdd, Int32.reduceLT, Int32.reduceLE, Int32.reduceAdd, Int32.reduceSub, Int32.neg_neg, Int32.reduceMul, Int32.reduceToNatClampNeg, Nat.reduceLeDiff, Nat.reduceLT, List.set_cons_zero, List.set_cons_succ, List.length_set, en_at, en_uu, en_gd]
theorem tl_inj {I J : Nat → Nat → Int32} {A B : Nat → List Int32} {L K : Nat → List Int64} {V U : Nat → List Value} {W Wm : Value} {Q R : am_Mem} (h : en_E I A L V W Q = en_E J B K U Wm R) : I 33 3 = J 33 3 ∧ (∀ j, 2 ≤ j → j < 15 → I 26 j = J 26 j) ∧ A 28 = B 28 ∧ V 27 = U 27 ∧ Q = R := by
  have h33 : (en_E I A L V W Q)[33]? = (en_E J B K U Wm R)[33]? := by rw [h]
  have h26 : (en_E I A L V W Q)[26]? = (en_E J B K U Wm R)[26]? := by rw [h]
  have h28 : (en_E I A L V W Q)[28]? = (en_E J B K U Wm R)[28]? := by rw [h]
  have h27 : (en_E I A L V W Q)[27]? = (en_E J B K U Wm R)[27]? := by rw [h]
  have hQ : (en_E I A L V W Q).drop 57 = (en_E J B K U Wm R).drop 57 := by rw [h]
  rw [en_g33, en_g33] at h33
  rw [en_g26, en_g26] at h26
  rw [en_g28, en_g28] at h28
  rw [en_g27, en_g27] at h27
  simp only [Option.some.injEq, Sum.inr.injEq, Sum.inl.injEq, Prod.mk.injEq, List.cons.injEq, Value.int.injEq, true_and, and_true] at h33 h26 h28 h27
  refine ⟨by simp only [h33], fun j h2 h15 => ?_, h28, h27, hQ⟩
  have hj : j = 2 ∨ j = 3 ∨ j = 4 ∨ j = 5 ∨ j = 6 ∨ j = 7 ∨ j = 8 ∨ j = 9 ∨ j = 10 ∨ j = 11 ∨ j = 12 ∨ j = 13 ∨ j = 14 := by omega
  rcases hj with rfl | rfl | rfl | rfl | rfl | rfl | rfl | rfl | rfl | rfl | rfl | rfl | rfl <;> simp only [h26]
theorem tm_T {T D : Nat → Int32} {f g : List Int32} {A : Nat → List Int32} {v : List Value} {Q : am_Mem} {pl : List Nat} {pd : List (Nat × Int32)} (h : md_TM T D f g A v Q pl pd) {T2 : Nat → Int32} (hd : ∀ j, 2 ≤ j → j < 15 → T2 j = T j) : md_TM T2 D f g A v Q pl pd := by
  unfold md_TM md_EQ at h ⊢
  simp only [hd 2 (by decide) (by decide), hd 3 (by decide) (by decide), hd 4 (by decide) (by decide), hd 5 (by decide) (by decide), hd 6 (by decide) (by decide), hd 7 (by decide) (by decide), hd 8 (by decide) (by decide), hd 9 (by decide) (by decide), hd 10 (by decide) (by decide), hd 11 (by decide) (by decide), hd 12 (by decide) (by decide), hd 13 (by decide) (by decide), hd 14 (by decide) (by decide)]
  exact h

set_option maxRecDepth 100000 in
theorem ce_79_ok {X : List Int32} {I I1 I2 : Nat → Nat → Int32} {A A1 A2 : Nat → List Int32} {L : Nat → List Int64} {V V1 V2 : Nat → List Value} {W W2 : Value} {Q Q2 E4 : am_Mem} {t : Nat} {r : Int32} (ht8 : t < 8) (c14 : am_mt X 14 [.ref 0, .int (Int32.ofNat t)] (en_E I A L V W Q) = some (some (.int 0), en_E I A L V W Q)) (c80 : am_mt X 80 [.ref 26, .ref 20] (en_E I A L V W Q) = some (none, en_E I1 A1 L V1 W Q)) (c81 : am_mt X 81 [.ref 33, .ref (3 + 2 * t)] (en_E I1 A1 L V1 W Q) = some (some (.int r), en_E I2 A2 L V2 W2 Q2)) (y : I2 33 3 = -1) (c80b : am_mt X 80 [.ref 20, .ref 26] (en_E (en_u I2 0 (en_u (I2 0) 10 (-1))) A2 L V2 W2 Q2) = some (none, E4)) : am_mt X 79 [.ref 0, .int (Int32.ofNat t)] (en_E I A L V W Q) = some (some (.int r), E4) := by
  rw [as_mt (n := 4) (by decide +kernel), show am_ent 4 [.ref 0, .int (Int32.ofNat t)] = [some (.ref 0), some (.int (Int32.ofNat t)), none, none] from rfl]
  have hrow := md_row_s ht8
  simp only [q79_0, q79_1, q79_2, q79_5, q79_6, q79_7, q79_10, q79_11, q79_12, q79_15, q79_16, q79_17, q79_20, q79_21, q79_24, q79_24n, q79_27, q79_28, q79_31, q79_32, q79_33, q79_36, q79_36n, q79_39, q79_40, q79_41, q79_42, q79_45, q79_48, q79_51, q79_52, q79_55, q79_56, q79_59, q79_60, q79_62, q79_65, q79_66, q79_67, q79_70, q79_71, q79_74, q79_74n, q79_77, q79_78, c14, c80, c81, ce_11, hrow, y, c80b, as_nm11, en_c0, en_f0_0, en_f0_1, en_f0_2, en_f0_3, en_f0_4, en_f0_5, en_f0_6, en_f0_7, en_f0_8, en_f0_9, en_p0_9, en_f0_10, en_p0_10, en_a2, en_l2, en_s2, en_a19, en_l19, en_s19, en_c20, en_f20_0, en_f20_1, en_f20_2, en_p20_2, en_f20_3, en_p20_3, en_f20_4, en_p20_4, en_f20_5, en_p20_5, en_f20_6, en_p20_6, en_f20_7, en_p20_7, en_f20_8, en_p20_8, en_f20_9, en_p20_9, en_f20_10, en_p20_10, en_f20_11, en_p20_11, en_f20_12, en_p20_12, en_f20_13, en_p20_13, en_f20_14, en_p20_14, en_c26, en_f26_0, en_f26_1, en_f26_2, en_p26_2, en_f26_3, en_p26_3, en_f26_4, en_p26_4, en_f26_5, en_p26_5, en_f26_6, en_p26_6, en_f26_7, en_p26_7, en_f26_8, en_p26_8, en_f26_9, en_p26_9, en_f26_10, en_p26_10, en_f26_11, en_p26_11, en_f26_12, en_p26_12, en_f26_13, en_p26_13, en_f26_14, en_p26_14, en_c33, en_f33_0, en_f33_1, en_f33_2, en_p33_2, en_f33_3, en_p33_3, en_f33_4, en_p33_4, en_f33_5, en_p33_5, en_f33_6, en_p33_6, en_c34, en_f34_0, en_f34_1, en_p34_1, en_f34_2, en_p34_2, as_10, as_01, Nat.reduceBEq, Nat.reduceEqDiff, ↓reduceIte, Option.bind_some, Option.getD_some, Option.isSome_some, Option.isSome_none, Bool.false_eq_true, Option.toList, List.nil_append, List.cons_append, List.lookup, Option.isSome, List.getElem?_cons_zero, List.getElem?_cons_succ, beq_self_eq_true, if_true, true_or, or_true, or_false, false_or, am_kl, true_and, and_true, and_false, false_and, if_false, not_true_eq_false, not_false_eq_true, as_b0, as_b1, as_em, as_ne, List.length_cons, List.length_nil, Nat.reduceAdd, Int32.reduceLT, Int32.reduceLE, Int32.reduceAdd, Int32.reduceSub, Int32.neg_neg, Int32.reduceMul, Int32.reduceToNatClampNeg, Nat.reduceLeDiff, Nat.reduceLT, List.set_cons_zero, List.set_cons_succ, List.length_set, en_at, en_uu, en_gd]

set_option maxRecDepth 100000 in
theorem ce_79_bad {X : List Int32} {I I1 I2 : Nat → Nat → Int32} {A A1 A2 : Nat → List Int32} {L : Nat → List Int64} {V V1 V2 : Nat → List Value} {W W2 : Value} {Q Q2 E4 : am_Mem} {t : Nat} {r : Int32} (ht8 : t < 8) (c14 : am_mt X 14 [.ref 0, .int (Int32.ofNat t)] (en_E I A L V W Q) = some (some (.int 0), en_E I A L V W Q)) (c80 : am_mt X 80 [.ref 26, .ref 20] (en_E I A L V W Q) = some (none, en_E I1 A1 L V1 W Q)) (c81 : am_mt X 81 [.ref 33, .ref (3 + 2 * t)] (en_E I1 A1 L V1 W Q) = some (some (.int r), en_E I2 A2 L V2 W2 Q2)) (y : ¬ I2 33 3 = -1) (h19 : (A2 19).length = 7) : am_mt X 79 [.ref 0, .int (Int32.ofNat t)] (en_E I A L V W Q) = some (some (.int (-6)), en_E (en_u I2 0 (en_u (I2 0) 10 (I2 33 3))) (en_u A2 19 ((A2 19).set 5 ((A2 19).getD 5 0 + 1))) L V2 W2 Q2) := by
  rw [as_mt (n := 4) (by decide +kernel), show am_ent 4 [.ref 0, .int (Int32.ofNat t)] = [some (.ref 0), some (.int (Int32.ofNat t)), none, none] from rfl]
  have hrow := md_row_s ht8
  simp only [q79_0, q79_1, q79_2, q79_5, q79_6, q79_7, q79_10, q79_11, q79_12, q79_15, q79_16, q79_17, q79_20, q79_21, q79_24, q79_24n, q79_27, q79_28, q79_31, q79_32, q79_33, q79_36, q79_36n, q79_39, q79_40, q79_41, q79_42, q79_45, q79_48, q79_51, q79_52, q79_55, q79_56, q79_59, q79_60, q79_62, q79_65, q79_66, q79_67, q79_70, q79_71, q79_74, q79_74n, q79_77, q79_78, c14, c80, c81, ce_11, hrow, y, h19, ce_8_6, h19, en_c0, en_f0_0, en_f0_1, en_f0_2, en_f0_3, en_f0_4, en_f0_5, en_f0_6, en_f0_7, en_f0_8, en_f0_9, en_p0_9, en_f0_10, en_p0_10, en_a2, en_l2, en_s2, en_a19, en_l19, en_s19, en_c20, en_f20_0, en_f20_1, en_f20_2, en_p20_2, en_f20_3, en_p20_3, en_f20_4, en_p20_4, en_f20_5, en_p20_5, en_f20_6, en_p20_6, en_f20_7, en_p20_7, en_f20_8, en_p20_8, en_f20_9, en_p20_9, en_f20_10, en_p20_10, en_f20_11, en_p20_11, en_f20_12, en_p20_12, en_f20_13, en_p20_13, en_f20_14, en_p20_14, en_c26, en_f26_0, en_f26_1, en_f26_2, en_p26_2, en_f26_3, en_p26_3, en_f26_4, en_p26_4, en_f26_5, en_p26_5, en_f26_6, en_p26_6, en_f26_7, en_p26_7, en_f26_8, en_p26_8, en_f26_9, en_p26_9, en_f26_10, en_p26_10, en_f26_11, en_p26_11, en_f26_12, en_p26_12, en_f26_13, en_p26_13, en_f26_14, en_p26_14, en_c33, en_f33_0, en_f33_1, en_f33_2, en_p33_2, en_f33_3, en_p33_3, en_f33_4, en_p33_4, en_f33_5, en_p33_5, en_f33_6, en_p33_6, en_c34, en_f34_0, en_f34_1, en_p34_1, en_f34_2, en_p34_2, as_10, as_01, Nat.reduceBEq, Nat.reduceEqDiff, ↓reduceIte, Option.bind_some, Option.getD_some, Option.isSome_some, Option.isSome_none, Bool.false_eq_true, Option.toList, List.nil_append, List.cons_append, List.lookup, Option.isSome, List.getElem?_cons_zero, List.getElem?_cons_succ, beq_self_eq_true, if_true, true_or, or_true, or_false, false_or, am_kl, true_and, and_true, and_false, false_and, if_false, not_true_eq_false, not_false_eq_true, as_b0, as_b1, as_em, as_ne, List.length_cons, List.length_nil, Nat.reduceAdd, Int32.reduceLT, Int32.reduceLE, Int32.reduceAdd, Int32.reduceSub, Int32.neg_neg, Int32.reduceMul, Int32.reduceToNatClampNeg, Nat.reduceLeDiff, Nat.reduceLT, List.set_cons_zero, List.set_cons_succ, List.length_set, en_at, en_uu, en_gd]

theorem en_w2913 {α : Type} {f : Nat → α} {v w : α} : en_u (en_u f 29 v) 13 w = en_u (en_u f 13 w) 29 v := en_cm (by decide)
theorem en_w3013 {α : Type} {f : Nat → α} {v w : α} : en_u (en_u f 30 v) 13 w = en_u (en_u f 13 w) 30 v := en_cm (by decide)
theorem en_w3113 {α : Type} {f : Nat → α} {v w : α} : en_u (en_u f 31 v) 13 w = en_u (en_u f 13 w) 31 v := en_cm (by decide)
set_option maxRecDepth 100000 in
theorem mt_195_p {X : List Int32} {I : Nat → Nat → Int32} {A : Nat → List Int32} {L : Nat → List Int64} {V : Nat → List Value} {W : Value} {Q : am_Mem} {A1 : Nat → List Int32} {t n : Nat} (ht8 : t < 8) (c196 : am_mt X 196 [.ref 36, .int (Int32.ofNat t)] (en_E I A L V W Q) = some (some (.int 0), en_E I A L V W Q)) (c197 : am_mt X 197 [.ref 36, .ref 52, .int 0] (en_E I A L V W Q) = some (none, en_E I A1 L V W Q)) (h43 : (A1 43).length = 8) (hz : (A1 43).getD t 0 = Int32.ofNat n) : am_mt X 195 [.ref 36, .int (Int32.ofNat t)] (en_E I A L V W Q) = am_go X 195 56 [some (.ref 36), some (.int (Int32.ofNat t)), some (.int 0), some (.int (Int32.ofNat (0 + 1))), none] [] (en_E (en_u I 36 (en_u (en_u (en_u (en_u (I 36) 13 (-1)) 29 (Int32.ofNat (160 * t))) 30 (Int32.ofNat 0)) 31 (Int32.ofNat n))) A1 L V W Q) := by
  rw [as_mt (n := 5) (by decide +kernel), show am_ent 5 [.ref 36, .int (Int32.ofNat t)] = [some (.ref 36), some (.int (Int32.ofNat t)), none, none, none] from rfl]
  have nt := as_nat (show t < 2147483648 by omega)
  have pt := as_pos (show t < 2147483648 by omega)
  have e9 : 160 * Int32.ofNat t = Int32.ofNat (160 * t) := by rw [show (160 : Int32) = Int32.ofNat 160 from rfl, as_mul]
  have hx : (A1 43)[t]? = some (Int32.ofNat n) := by
    rw [← hz, List.getElem?_eq_getElem (by omega), List.getD_eq_getElem?_getD, List.getElem?_eq_getElem (by omega)]; rfl
  simp only [q195_0, q195_1, q195_2, q195_5, q195_6, q195_7, q195_10, q195_11, q195_12, q195_15, q195_16, q195_17, q195_18, q195_21, q195_22, q195_25, q195_26, q195_29, q195_30, q195_31, q195_34, q195_35, q195_36, q195_39, q195_40, q195_41, q195_44, q195_45, q195_46, q195_49, q195_50, q195_51, q195_54, q195_55, c196, c197, nt, pt, e9, hx, en_w2913, en_w3013, en_w3113, show Int32.ofNat (0 + 1) = 1 from rfl, show Int32.ofNat 0 = 0 from rfl, en_c36, en_f36_0, en_p36_0, en_f36_1, en_p36_1, en_f36_2, en_p36_2, en_f36_3, en_p36_3, en_f36_4, en_p36_4, en_f36_5, en_p36_5, en_f36_6, en_p36_6, en_f36_7, en_p36_7, en_f36_8, en_p36_8, en_f36_9, en_p36_9, en_f36_10, en_p36_10, en_f36_11, en_p36_11, en_f36_12, en_p36_12, en_f36_13, en_p36_13, en_f36_14, en_f36_15, en_f36_16, en_f36_17, en_f36_18, en_f36_19, en_f36_20, en_f36_21, en_f36_22, en_f36_23, en_f36_24, en_f36_25, en_f36_26, en_f36_27, en_f36_28, en_f36_29, en_p36_29, en_f36_30, en_p36_30, en_f36_31, en_p36_31, en_f36_32, en_p36_32, en_f36_33, en_p36_33, en_f36_34, en_f36_35, en_f36_36, en_f36_37, en_f36_38, en_p36_38, en_f36_39, en_f36_40, en_p36_40, en_f36_41, en_p36_41, en_a37, en_l37, en_s37, en_a38, en_l38, en_s38, en_a39, en_l39, en_s39, en_a40, en_l40, en_s40, en_a41, en_l41, en_s41, en_a42, en_l42, en_s42, en_a43, en_l43, en_s43, en_a44, en_l44, en_s44, en_a45, en_l45, en_s45, en_a46, en_l46, en_s46, en_a47, en_l47, en_a48, en_l48, en_a49, en_l49, en_a50, en_l50, en_a51, en_l51, en_s51, en_a52, en_l52, en_s52, en_a53, en_l53, en_s53, en_a54, en_l54, en_s54, en_a55, en_l55, en_s55, en_a56, en_l56, en_s56, as_10, as_01, Nat.reduceBEq, Nat.reduceEqDiff, ↓reduceIte, Option.bind_some, Option.getD_some, Option.isSome_some, Option.isSome_none, Bool.false_eq_true, Option.toList, List.nil_append, List.cons_append, List.lookup, Option.isSome, List.getElem?_cons_zero, List.getElem?_cons_succ, beq_self_eq_true, if_true, true_or, or_true, or_false, false_or, am_kl, true_and, and_true, and_false, false_and, if_false, not_true_eq_false, not_false_eq_true, as_b0, as_b1, as_em, as_ne, List.length_cons, List.length_nil, Nat.reduceAdd, Int32.reduceLT, Int32.reduceLE, Int32.reduceAdd, Int32.reduceSub, Int32.neg_neg, Int32.reduceMul, Int32.reduceToNatClampNeg, Nat.reduceLeDiff, Nat.reduceLT, List.set_cons_zero, List.set_cons_succ, List.length_set, en_at, en_uu, en_gd]
theorem mt_195_k {X : List Int32} {s bz nn : Int32} {M : am_Mem} : am_go X 195 133 [some (.ref 36), some (.int s), some (.int bz), some (.int nn), some (.int 1)] [] M = some (some (.int nn), M) := by
  simp only [q195_133, q195_135, q195_138, q195_139, q195_140, q195_141, q195_142, q195_145, q195_146, q195_149, q195_150, q195_151, q195_154, q195_157, q195_158, q195_160, q195_163, as_10, as_01, Nat.reduceBEq, Nat.reduceEqDiff, ↓reduceIte, Option.bind_some, Option.getD_some, Option.isSome_some, Option.isSome_none, Bool.false_eq_true, Option.toList, List.nil_append, List.cons_append, List.lookup, Option.isSome, List.getElem?_cons_zero, List.getElem?_cons_succ, beq_self_eq_true, if_true, true_or, or_true, or_false, false_or, am_kl, true_and, and_true, and_false, false_and, if_false, not_true_eq_false, not_false_eq_true, as_b0, as_b1, as_em, as_ne, List.length_cons, List.length_nil, Nat.reduceAdd, Int32.reduceLT, Int32.reduceLE, Int32.reduceAdd, Int32.reduceSub, Int32.neg_neg, Int32.reduceMul, Int32.reduceToNatClampNeg, Nat.reduceLeDiff, Nat.reduceLT, List.set_cons_zero, List.set_cons_succ, List.length_set, en_at, en_uu, en_gd]
theorem mt_195_b {X : List Int32} {I : Nat → Nat → Int32} {A : Nat → List Int32} {L : Nat → List Int64} {V : Nat → List Value} {W : Value} {Q : am_Mem} {I1 : Nat → Nat → Int32} {A1 : Nat → List Int32} {s bz nn : Int32} (c197 : am_mt X 197 [.ref 36, .ref 52, .int 1] (en_E I A L V W Q) = some (none, en_E I1 A1 L V W Q)) (h37 : (A1 37).length = 8) : am_go X 195 133 [some (.ref 36), some (.int s), some (.int bz), some (.int nn), some (.int 0)] [] (en_E I A L V W Q) = some (some (.int (-6)), en_E (en_u I1 36 (en_u (I1 36) 13 (I1 36 33))) (en_u A1 37 ((A1 37).set 6 ((A1 37).getD 6 0 + 1))) L V W Q) := by
  simp only [q195_133, q195_135, q195_138, q195_139, q195_140, q195_141, q195_142, q195_145, q195_146, q195_149, q195_150, q195_151, q195_154, q195_157, q195_158, q195_160, q195_163, c197, h37, ce_167_6, h37, en_c36, en_f36_0, en_p36_0, en_f36_1, en_p36_1, en_f36_2, en_p36_2, en_f36_3, en_p36_3, en_f36_4, en_p36_4, en_f36_5, en_p36_5, en_f36_6, en_p36_6, en_f36_7, en_p36_7, en_f36_8, en_p36_8, en_f36_9, en_p36_9, en_f36_10, en_p36_10, en_f36_11, en_p36_11, en_f36_12, en_p36_12, en_f36_13, en_p36_13, en_f36_14, en_f36_15, en_f36_16, en_f36_17, en_f36_18, en_f36_19, en_f36_20, en_f36_21, en_f36_22, en_f36_23, en_f36_24, en_f36_25, en_f36_26, en_f36_27, en_f36_28, en_f36_29, en_p36_29, en_f36_30, en_p36_30, en_f36_31, en_p36_31, en_f36_32, en_p36_32, en_f36_33, en_p36_33, en_f36_34, en_f36_35, en_f36_36, en_f36_37, en_f36_38, en_p36_38, en_f36_39, en_f36_40, en_p36_40, en_f36_41, en_p36_41, en_a37, en_l37, en_s37, en_a38, en_l38, en_s38, en_a39, en_l39, en_s39, en_a40, en_l40, en_s40, en_a41, en_l41, en_s41, en_a42, en_l42, en_s42, en_a43, en_l43, en_s43, en_a44, en_l44, en_s44, en_a45, en_l45, en_s45, en_a46, en_l46, en_s46, en_a47, en_l47, en_a48, en_l48, en_a49, en_l49, en_a50, en_l50, en_a51, en_l51, en_s51, en_a52, en_l52, en_s52, en_a53, en_l53, en_s53, en_a54, en_l54, en_s54, en_a55, en_l55, en_s55, en_a56, en_l56, en_s56, as_10, as_01, Nat.reduceBEq, Nat.reduceEqDiff, ↓reduceIte, Option.bind_some, Option.getD_some, Option.isSome_some, Option.isSome_none, Bool.false_eq_true, Option.toList, List.nil_append, List.cons_append, List.lookup, Option.isSome, List.getElem?_cons_zero, List.getElem?_cons_succ, beq_self_eq_true, if_true, true_or, or_true, or_false, false_or, am_kl, true_and, and_true, and_false, false_and, if_false, not_true_eq_false, not_false_eq_true, as_b0, as_b1, as_em, as_ne, List.length_cons, List.length_nil, Nat.reduceAdd, Int32.reduceLT, Int32.reduceLE, Int32.reduceAdd, Int32.reduceSub, Int32.neg_neg, Int32.reduceMul, Int32.reduceToNatClampNeg, Nat.reduceLeDiff, Nat.reduceLT, List.set_cons_zero, List.set_cons_succ, List.length_set, en_at, en_uu, en_gd]

theorem md_psQ_2 {Q : am_Mem} {pl : List Nat} {pd : List (Nat × Int32)} (h : md_psQ Q pl pd) : ∀ S : am_Mem, md_psQ (Q ++ S) pl pd
  | [] => by rw [List.append_nil]; exact h
  | o :: S => by
    have := md_psQ_2 (md_psQ_app (o := o) h) S
    rw [List.append_assoc] at this
    exact this
theorem md_IM_2 {tk ik : Int32} {T : Nat → Int32} {fl : List Int32} {v24 : List Value} {kp : List Int32} {Q S : am_Mem} {pl : List Nat} {pd : List (Nat × Int32)} (h : md_IM tk ik T fl v24 kp Q pl pd) : md_IM tk ik T fl v24 kp (Q ++ S) pl pd := by
  obtain ⟨h1, h2, h3, h4, h5, h6, h7, h8⟩ := h
  exact ⟨h1, h2, h3, h4, h5, h6, md_psQ_2 h7 S, h8⟩
theorem md_SHS_c {I I' : Nat → Nat → Int32} {A A' : Nat → List Int32} {L : Nat → List Int64} {c c' : Nat} (h : md_SHS I A L c) (hc : c ≤ c') (hI : ∀ s, s < 8 → I' (3 + 2 * s) = I (3 + 2 * s)) (h2 : A' 2 = A 2) (h41 : A' 41 = A 41) (h42 : A' 42 = A 42) (h43 : A' 43 = A 43) (h44 : A' 44 = A 44) : md_SHS I' A' L c' := by
  refine md_SHS_mono ?_ hc
  unfold md_SHS at h ⊢
  rw [h2, h41, h42, h43, h44]
  exact ⟨h.1, fun s hs => by rw [hI s hs]; exact h.2 s hs⟩
theorem team_class {X : List Int32} {I : Nat → Nat → Int32} {A : Nat → List Int32} {L : Nat → List Int64} {V : Nat → List Value} {W : Value} {Q : am_Mem} {t nz : Nat} {pl : List Nat} {pd : List (Nat × Int32)} {pl2 : List Nat} {pd2 : List (Nat × Int32)} (hR : md_R I A L V Q pl pd pl2 pd2) (t8 : t < 8) (e160 : (L (4 + 2 * t)).length = 160) (hnz : nz ≤ 160) (enz : I (3 + 2 * t) 2 = Int32.ofNat nz) (b7 : md_sl (L 45) t = L (4 + 2 * t)) {J : Nat → Nat → Int32} {B : Nat → List Int32} (U : Nat → List Value) (Wm : Value) (R : am_Mem) (hJ : J 36 = (en_u (en_u (en_u (en_u (I 36) 13 (-1)) 29 (Int32.ofNat (160 * t))) 30 (Int32.ofNat 0)) 31 (Int32.ofNat nz))) (b38 : B 38 = A 38) (b39 : B 39 = A 39) (b40 : B 40 = A 40) (b51 : B 51 = A 51) : tl_C X t 0 (nz + 1) (en_u (en_u I 26 (en_t (I 20 2) (I 20 3) (I 20 4) (I 20 5) (I 20 6) (I 20 7) (I 20 8) (I 20 9) (I 20 10) (I 20 11) (I 20 12) (I 20 13) (I 20 14))) 33 (en_u (en_u ((en_u I 26 (en_t (I 20 2) (I 20 3) (I 20 4) (I 20 5) (I 20 6) (I 20 7) (I 20 8) (I 20 9) (I 20 10) (I 20 11) (I 20 12) (I 20 13) (I 20 14))) 33) 2 0) 3 (-1))) (en_u A 28 (A 22)) L (en_u V 27 (V 21)) Q J B L U Wm R := by
  obtain ⟨r1, r2, r3, r4, r5, r6, r7, r8⟩ := hR
  obtain ⟨⟨q2, q41, q42, q43, q44, q45⟩, hSH⟩ := r3
  obtain ⟨w1, w2, w3, w4, w5, w6, w7, w8, w9, w10⟩ := r7
  have hel : ∀ q, q < nz → ((L 45).getD (160 * t + q) 0).toInt32 = md_e (L (4 + 2 * t)) nz q := fun q hq => by
    unfold md_e
    rw [if_pos hq, ← b7, md_sl_get (by omega)]
  have h51 : ∃ x0 x1, A 51 = [x0, x1] := by
    match hm : A 51, w4 with
    | [x0, x1], _ => exact ⟨x0, x1, rfl⟩
  obtain ⟨x0, x1, h51⟩ := h51
  have hT : md_TM ((en_u (en_u I 26 (en_t (I 20 2) (I 20 3) (I 20 4) (I 20 5) (I 20 6) (I 20 7) (I 20 8) (I 20 9) (I 20 10) (I 20 11) (I 20 12) (I 20 13) (I 20 14))) 33 (en_u (en_u ((en_u I 26 (en_t (I 20 2) (I 20 3) (I 20 4) (I 20 5) (I 20 6) (I 20 7) (I 20 8) (I 20 9) (I 20 10) (I 20 11) (I 20 12) (I 20 13) (I 20 14))) 33) 2 0) 3 (-1))) 26) (J 36) ((en_u A 28 (A 22)) 28) (B 40) B ((en_u V 27 (V 21)) 27) Q pl pd := by
    rw [b40, hJ]
    refine tm_A (tm_Z (tm_T r1 (fun j h2 h15 => ?_)) (fun j hj => ?_)) b38 b39
    · have hj : j = 2 ∨ j = 3 ∨ j = 4 ∨ j = 5 ∨ j = 6 ∨ j = 7 ∨ j = 8 ∨ j = 9 ∨ j = 10 ∨ j = 11 ∨ j = 12 ∨ j = 13 ∨ j = 14 := by omega
      rcases hj with rfl | rfl | rfl | rfl | rfl | rfl | rfl | rfl | rfl | rfl | rfl | rfl | rfl <;> rfl
    · simp only [en_at, show ¬ j = 13 by omega, show ¬ j = 29 by omega, show ¬ j = 30 by omega, show ¬ j = 31 by omega, ↓reduceIte]
  exact tl_loop t8 e160 hnz q45 hel (nz + 1) 0 0 (en_u (en_u I 26 (en_t (I 20 2) (I 20 3) (I 20 4) (I 20 5) (I 20 6) (I 20 7) (I 20 8) (I 20 9) (I 20 10) (I 20 11) (I 20 12) (I 20 13) (I 20 14))) 33 (en_u (en_u ((en_u I 26 (en_t (I 20 2) (I 20 3) (I 20 4) (I 20 5) (I 20 6) (I 20 7) (I 20 8) (I 20 9) (I 20 10) (I 20 11) (I 20 12) (I 20 13) (I 20 14))) 33) 2 0) 3 (-1))) (en_u A 28 (A 22)) (en_u V 27 (V 21)) Q J B pl pd x0 x1 (by omega) (Nat.zero_le _) (Nat.le_refl _) (by rw [en_at, if_neg (by omega), en_at, if_neg (by omega)]; exact enz) rfl rfl (by rw [hJ]; rfl) (by rw [hJ]; rfl) (by rw [hJ]; rfl) (b51.trans h51) hT
