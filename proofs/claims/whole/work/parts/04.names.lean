/-! ===== the classes: names, fields, types (from the printed names) ===== -/
def RX0 : String := "ToLiftToStrike$Chances"
def TX0 : u_T := fun k => match k with
  | 0 => ("ToLiftToStrike$Chances", "sides", "[I", true)
  | 1 => ("ToLiftToStrike$Chances", "weServe", "[I", true)
  | _ => ("ToLiftToStrike$Chances", "theyServe", "[I", true)
def tyX0 : Nat → FieldType := fun k => match k with
  | 0 => .array .int
  | 1 => .array .int
  | _ => .array .int
abbrev wsX00 : List Cond := u_ws RX0 TX0 3
theorem nmX0 : ∀ a, a < 3 → ∀ b, b < 3 → a ≠ b → (TX0 a).2.1 ≠ (TX0 b).2.1 := by decide +kernel
theorem tyX0_ok : ∀ k, k < 3 → parseFieldDescriptor (TX0 k).2.2.1 = some (tyX0 k) := by decide +kernel
def RX1 : String := "ToLiftToStrike$Libero"
def TX1 : u_T := fun k => match k with
  | 0 => ("ToLiftToStrike$Player", "number", "I", true)
  | _ => ("ToLiftToStrike$Player", "a", "I", true)
def tyX1 : Nat → FieldType := fun k => match k with
  | 0 => .int
  | _ => .int
abbrev wsX10 : List Cond := u_ws RX1 TX1 2
theorem nmX1 : ∀ a, a < 2 → ∀ b, b < 2 → a ≠ b → (TX1 a).2.1 ≠ (TX1 b).2.1 := by decide +kernel
theorem tyX1_ok : ∀ k, k < 2 → parseFieldDescriptor (TX1 k).2.2.1 = some (tyX1 k) := by decide +kernel
def RX2 : String := "ToLiftToStrike$Lifter"
def TX2 : u_T := fun k => match k with
  | 0 => ("ToLiftToStrike$Player", "number", "I", true)
  | _ => ("ToLiftToStrike$Player", "a", "I", true)
def tyX2 : Nat → FieldType := fun k => match k with
  | 0 => .int
  | _ => .int
abbrev wsX20 : List Cond := u_ws RX2 TX2 2
theorem nmX2 : ∀ a, a < 2 → ∀ b, b < 2 → a ≠ b → (TX2 a).2.1 ≠ (TX2 b).2.1 := by decide +kernel
theorem tyX2_ok : ∀ k, k < 2 → parseFieldDescriptor (TX2 k).2.2.1 = some (tyX2 k) := by decide +kernel
def RX3 : String := "ToLiftToStrike$Player"
def TX3 : u_T := fun k => match k with
  | 0 => ("ToLiftToStrike$Player", "number", "I", true)
  | _ => ("ToLiftToStrike$Player", "a", "I", true)
def tyX3 : Nat → FieldType := fun k => match k with
  | 0 => .int
  | _ => .int
abbrev wsX30 : List Cond := u_ws RX3 TX3 2
theorem nmX3 : ∀ a, a < 2 → ∀ b, b < 2 → a ≠ b → (TX3 a).2.1 ≠ (TX3 b).2.1 := by decide +kernel
theorem tyX3_ok : ∀ k, k < 2 → parseFieldDescriptor (TX3 k).2.2.1 = some (tyX3 k) := by decide +kernel
def RX4 : String := "ToLiftToStrike$Quick"
def TX4 : u_T := fun k => match k with
  | 0 => ("ToLiftToStrike$Player", "number", "I", true)
  | _ => ("ToLiftToStrike$Player", "a", "I", true)
def tyX4 : Nat → FieldType := fun k => match k with
  | 0 => .int
  | _ => .int
abbrev wsX40 : List Cond := u_ws RX4 TX4 2
theorem nmX4 : ∀ a, a < 2 → ∀ b, b < 2 → a ≠ b → (TX4 a).2.1 ≠ (TX4 b).2.1 := by decide +kernel
theorem tyX4_ok : ∀ k, k < 2 → parseFieldDescriptor (TX4 k).2.2.1 = some (tyX4 k) := by decide +kernel
def RX5 : String := "ToLiftToStrike$Row"
def TX5 : u_T := fun k => match k with
  | 0 => ("ToLiftToStrike$Row", "elements", "[J", true)
  | 1 => ("ToLiftToStrike$Row", "sort", "I", false)
  | _ => ("ToLiftToStrike$Row", "size", "I", false)
def tyX5 : Nat → FieldType := fun k => match k with
  | 0 => .array .long
  | 1 => .int
  | _ => .int
abbrev wsX50 : List Cond := u_ws RX5 TX5 3
theorem nmX5 : ∀ a, a < 3 → ∀ b, b < 3 → a ≠ b → (TX5 a).2.1 ≠ (TX5 b).2.1 := by decide +kernel
theorem tyX5_ok : ∀ k, k < 3 → parseFieldDescriptor (TX5 k).2.2.1 = some (tyX5 k) := by decide +kernel
def RX6 : String := "ToLiftToStrike$Small"
def TX6 : u_T := fun k => match k with
  | 0 => ("ToLiftToStrike$Player", "number", "I", true)
  | _ => ("ToLiftToStrike$Player", "a", "I", true)
def tyX6 : Nat → FieldType := fun k => match k with
  | 0 => .int
  | _ => .int
abbrev wsX60 : List Cond := u_ws RX6 TX6 2
theorem nmX6 : ∀ a, a < 2 → ∀ b, b < 2 → a ≠ b → (TX6 a).2.1 ≠ (TX6 b).2.1 := by decide +kernel
theorem tyX6_ok : ∀ k, k < 2 → parseFieldDescriptor (TX6 k).2.2.1 = some (tyX6 k) := by decide +kernel
def RX7 : String := "ToLiftToStrike$Striker"
def TX7 : u_T := fun k => match k with
  | 0 => ("ToLiftToStrike$Player", "number", "I", true)
  | _ => ("ToLiftToStrike$Player", "a", "I", true)
def tyX7 : Nat → FieldType := fun k => match k with
  | 0 => .int
  | _ => .int
abbrev wsX70 : List Cond := u_ws RX7 TX7 2
theorem nmX7 : ∀ a, a < 2 → ∀ b, b < 2 → a ≠ b → (TX7 a).2.1 ≠ (TX7 b).2.1 := by decide +kernel
theorem tyX7_ok : ∀ k, k < 2 → parseFieldDescriptor (TX7 k).2.2.1 = some (tyX7 k) := by decide +kernel
def RX8 : String := "ToLiftToStrike$Tall"
def TX8 : u_T := fun k => match k with
  | 0 => ("ToLiftToStrike$Player", "number", "I", true)
  | _ => ("ToLiftToStrike$Player", "a", "I", true)
def tyX8 : Nat → FieldType := fun k => match k with
  | 0 => .int
  | _ => .int
abbrev wsX80 : List Cond := u_ws RX8 TX8 2
theorem nmX8 : ∀ a, a < 2 → ∀ b, b < 2 → a ≠ b → (TX8 a).2.1 ≠ (TX8 b).2.1 := by decide +kernel
theorem tyX8_ok : ∀ k, k < 2 → parseFieldDescriptor (TX8 k).2.2.1 = some (tyX8 k) := by decide +kernel
def RX9 : String := "ToLiftToStrike$Team"
def TX9 : u_T := fun k => match k with
  | 0 => ("ToLiftToStrike$Team", "players", "[LToLiftToStrike$Player;", true)
  | 1 => ("ToLiftToStrike$Team", "floor", "[I", true)
  | 2 => ("ToLiftToStrike$Team", "count", "I", false)
  | 3 => ("ToLiftToStrike$Team", "block", "I", false)
  | 4 => ("ToLiftToStrike$Team", "servedPlace", "I", false)
  | 5 => ("ToLiftToStrike$Team", "servedForce", "I", false)
  | 6 => ("ToLiftToStrike$Team", "breakPoint", "I", false)
  | 7 => ("ToLiftToStrike$Team", "goal", "I", false)
  | 8 => ("ToLiftToStrike$Team", "us", "I", false)
  | 9 => ("ToLiftToStrike$Team", "them", "I", false)
  | 10 => ("ToLiftToStrike$Team", "serves", "I", false)
  | 11 => ("ToLiftToStrike$Team", "setsOfUs", "I", false)
  | 12 => ("ToLiftToStrike$Team", "setsOfThem", "I", false)
  | 13 => ("ToLiftToStrike$Team", "rallies", "I", false)
  | _ => ("ToLiftToStrike$Team", "seed", "I", false)
def tyX9 : Nat → FieldType := fun k => match k with
  | 0 => .array (.object "ToLiftToStrike$Player")
  | 1 => .array .int
  | 2 => .int
  | 3 => .int
  | 4 => .int
  | 5 => .int
  | 6 => .int
  | 7 => .int
  | 8 => .int
  | 9 => .int
  | 10 => .int
  | 11 => .int
  | 12 => .int
  | 13 => .int
  | _ => .int
abbrev wsX90 : List Cond := u_ws RX9 TX9 15
theorem nmX9 : ∀ a, a < 15 → ∀ b, b < 15 → a ≠ b → (TX9 a).2.1 ≠ (TX9 b).2.1 := by decide +kernel
theorem tyX9_ok : ∀ k, k < 15 → parseFieldDescriptor (TX9 k).2.2.1 = some (tyX9 k) := by decide +kernel
def RX10 : String := "ToLiftToStrike$Text"
def TX10 : u_T := fun k => match k with
  | 0 => ("ToLiftToStrike$Text", "team", "LToLiftToStrike$Team;", true)
  | 1 => ("ToLiftToStrike$Text", "row", "LToLiftToStrike$Row;", false)
  | 2 => ("ToLiftToStrike$Text", "place", "I", false)
  | 3 => ("ToLiftToStrike$Text", "fault", "I", false)
  | 4 => ("ToLiftToStrike$Text", "word", "I", false)
  | 5 => ("ToLiftToStrike$Text", "first", "I", false)
  | _ => ("ToLiftToStrike$Text", "second", "I", false)
def tyX10 : Nat → FieldType := fun k => match k with
  | 0 => .object "ToLiftToStrike$Team"
  | 1 => .object "ToLiftToStrike$Row"
  | 2 => .int
  | 3 => .int
  | 4 => .int
  | 5 => .int
  | _ => .int
abbrev wsX100 : List Cond := u_ws RX10 TX10 7
theorem nmX10 : ∀ a, a < 7 → ∀ b, b < 7 → a ≠ b → (TX10 a).2.1 ≠ (TX10 b).2.1 := by decide +kernel
theorem tyX10_ok : ∀ k, k < 7 → parseFieldDescriptor (TX10 k).2.2.1 = some (tyX10 k) := by decide +kernel
def RX11 : String := "ToLiftToStrike"
def TX11 : u_T := fun k => match k with
  | 0 => ("ToLiftToStrike", "rows", "[LToLiftToStrike$Row;", true)
  | 1 => ("ToLiftToStrike", "held", "[I", true)
  | 2 => ("ToLiftToStrike", "refusals", "[I", true)
  | 3 => ("ToLiftToStrike", "now", "LToLiftToStrike$Team;", true)
  | 4 => ("ToLiftToStrike", "image", "LToLiftToStrike$Team;", true)
  | 5 => ("ToLiftToStrike", "draft", "LToLiftToStrike$Team;", true)
  | 6 => ("ToLiftToStrike", "chances", "LToLiftToStrike$Chances;", true)
  | 7 => ("ToLiftToStrike", "text", "LToLiftToStrike$Text;", true)
  | 8 => ("ToLiftToStrike", "ran", "LToLiftToStrike$Row;", true)
  | 9 => ("ToLiftToStrike", "imageTaken", "Z", false)
  | _ => ("ToLiftToStrike", "latestFault", "I", false)
def tyX11 : Nat → FieldType := fun k => match k with
  | 0 => .array (.object "ToLiftToStrike$Row")
  | 1 => .array .int
  | 2 => .array .int
  | 3 => .object "ToLiftToStrike$Team"
  | 4 => .object "ToLiftToStrike$Team"
  | 5 => .object "ToLiftToStrike$Team"
  | 6 => .object "ToLiftToStrike$Chances"
  | 7 => .object "ToLiftToStrike$Text"
  | 8 => .object "ToLiftToStrike$Row"
  | 9 => .boolean
  | _ => .int
abbrev wsX110 : List Cond := u_ws RX11 TX11 11
theorem nmX11 : ∀ a, a < 11 → ∀ b, b < 11 → a ≠ b → (TX11 a).2.1 ≠ (TX11 b).2.1 := by decide +kernel
theorem tyX11_ok : ∀ k, k < 11 → parseFieldDescriptor (TX11 k).2.2.1 = some (tyX11 k) := by decide +kernel
def RX12 : String := "ToLiftToStrikeModel"
def TX12 : u_T := fun k => match k with
  | 0 => ("ToLiftToStrikeModel", "many", "I", false)
  | 1 => ("ToLiftToStrikeModel", "block", "I", false)
  | 2 => ("ToLiftToStrikeModel", "where", "I", false)
  | 3 => ("ToLiftToStrikeModel", "force", "I", false)
  | 4 => ("ToLiftToStrikeModel", "breaks", "I", false)
  | 5 => ("ToLiftToStrikeModel", "goal", "I", false)
  | 6 => ("ToLiftToStrikeModel", "us", "I", false)
  | 7 => ("ToLiftToStrikeModel", "them", "I", false)
  | 8 => ("ToLiftToStrikeModel", "serving", "I", false)
  | 9 => ("ToLiftToStrikeModel", "setsUs", "I", false)
  | 10 => ("ToLiftToStrikeModel", "setsThem", "I", false)
  | 11 => ("ToLiftToStrikeModel", "played", "I", false)
  | 12 => ("ToLiftToStrikeModel", "seed", "I", false)
  | 13 => ("ToLiftToStrikeModel", "fault", "I", false)
  | 14 => ("ToLiftToStrikeModel", "refused", "[I", true)
  | 15 => ("ToLiftToStrikeModel", "kind", "[I", true)
  | 16 => ("ToLiftToStrikeModel", "part", "[I", true)
  | 17 => ("ToLiftToStrikeModel", "floor", "[I", true)
  | 18 => ("ToLiftToStrikeModel", "held", "[I", true)
  | 19 => ("ToLiftToStrikeModel", "sort", "[I", true)
  | 20 => ("ToLiftToStrikeModel", "size", "[I", true)
  | 21 => ("ToLiftToStrikeModel", "shown", "[I", true)
  | 22 => ("ToLiftToStrikeModel", "cells", "[J", true)
  | 23 => ("ToLiftToStrikeModel", "carried", "[J", true)
  | 24 => ("ToLiftToStrikeModel", "least", "[I", true)
  | 25 => ("ToLiftToStrikeModel", "greatest", "[I", true)
  | 26 => ("ToLiftToStrikeModel", "words", "[I", true)
  | 27 => ("ToLiftToStrikeModel", "numbers", "[I", true)
  | 28 => ("ToLiftToStrikeModel", "tell", "[I", true)
  | 29 => ("ToLiftToStrikeModel", "base", "I", false)
  | 30 => ("ToLiftToStrikeModel", "from", "I", false)
  | 31 => ("ToLiftToStrikeModel", "end", "I", false)
  | 32 => ("ToLiftToStrikeModel", "number", "I", false)
  | 33 => ("ToLiftToStrikeModel", "wrongAt", "I", false)
  | 34 => ("ToLiftToStrikeModel", "was", "[I", true)
  | 35 => ("ToLiftToStrikeModel", "kept", "[I", true)
  | 36 => ("ToLiftToStrikeModel", "sides", "[I", true)
  | 37 => ("ToLiftToStrikeModel", "chances", "[I", true)
  | 38 => ("ToLiftToStrikeModel", "turned", "I", false)
  | 39 => ("ToLiftToStrikeModel", "trace", "[I", true)
  | 40 => ("ToLiftToStrikeModel", "ran", "I", false)
  | _ => ("ToLiftToStrikeModel", "isKept", "Z", false)
def tyX12 : Nat → FieldType := fun k => match k with
  | 0 => .int
  | 1 => .int
  | 2 => .int
  | 3 => .int
  | 4 => .int
  | 5 => .int
  | 6 => .int
  | 7 => .int
  | 8 => .int
  | 9 => .int
  | 10 => .int
  | 11 => .int
  | 12 => .int
  | 13 => .int
  | 14 => .array .int
  | 15 => .array .int
  | 16 => .array .int
  | 17 => .array .int
  | 18 => .array .int
  | 19 => .array .int
  | 20 => .array .int
  | 21 => .array .int
  | 22 => .array .long
  | 23 => .array .long
  | 24 => .array .int
  | 25 => .array .int
  | 26 => .array .int
  | 27 => .array .int
  | 28 => .array .int
  | 29 => .int
  | 30 => .int
  | 31 => .int
  | 32 => .int
  | 33 => .int
  | 34 => .array .int
  | 35 => .array .int
  | 36 => .array .int
  | 37 => .array .int
  | 38 => .int
  | 39 => .array .int
  | 40 => .int
  | _ => .boolean
abbrev wsX120 : List Cond := u_ws RX12 TX12 42
theorem nmX12 : ∀ a, a < 42 → ∀ b, b < 42 → a ≠ b → (TX12 a).2.1 ≠ (TX12 b).2.1 := by decide +kernel
theorem tyX12_ok : ∀ k, k < 42 → parseFieldDescriptor (TX12 k).2.2.1 = some (tyX12 k) := by decide +kernel
abbrev vwCl : List vw_C := [(RX0, TX0, 3), (RX1, TX1, 2), (RX2, TX2, 2), (RX3, TX3, 2), (RX4, TX4, 2), (RX5, TX5, 3), (RX6, TX6, 2), (RX7, TX7, 2), (RX8, TX8, 2), (RX9, TX9, 15), (RX10, TX10, 7), (RX11, TX11, 11), (RX12, TX12, 42)]
theorem cn_in0 : ∀ w ∈ u_ws RX0 TX0 3, w ∈ lw_tbl := by decide +kernel
theorem cn_in1 : ∀ w ∈ u_ws RX1 TX1 2, w ∈ lw_tbl := by decide +kernel
theorem cn_in2 : ∀ w ∈ u_ws RX2 TX2 2, w ∈ lw_tbl := by decide +kernel
theorem cn_in3 : ∀ w ∈ u_ws RX3 TX3 2, w ∈ lw_tbl := by decide +kernel
theorem cn_in4 : ∀ w ∈ u_ws RX4 TX4 2, w ∈ lw_tbl := by decide +kernel
theorem cn_in5 : ∀ w ∈ u_ws RX5 TX5 3, w ∈ lw_tbl := by decide +kernel
theorem cn_in6 : ∀ w ∈ u_ws RX6 TX6 2, w ∈ lw_tbl := by decide +kernel
theorem cn_in7 : ∀ w ∈ u_ws RX7 TX7 2, w ∈ lw_tbl := by decide +kernel
theorem cn_in8 : ∀ w ∈ u_ws RX8 TX8 2, w ∈ lw_tbl := by decide +kernel
theorem cn_in9 : ∀ w ∈ u_ws RX9 TX9 15, w ∈ lw_tbl := by decide +kernel
theorem cn_in10 : ∀ w ∈ u_ws RX10 TX10 7, w ∈ lw_tbl := by decide +kernel
theorem cn_in11 : ∀ w ∈ u_ws RX11 TX11 11, w ∈ lw_tbl := by decide +kernel
theorem cn_in12 : ∀ w ∈ u_ws RX12 TX12 42, w ∈ lw_tbl := by decide +kernel
