def RX0 : String := "GossipHead$BoardText"
def TX0 : u_T := fun k => match k with
  | 0 => ("GossipHead$BoardText", "codes", "[I", true)
  | 1 => ("GossipHead$BoardText", "length", "I", false)
  | 2 => ("GossipHead$BoardText", "numbers", "[I", true)
  | 3 => ("GossipHead$BoardText", "column", "I", false)
  | 4 => ("GossipHead$BoardText", "digits", "I", false)
  | _ => ("GossipHead$BoardText", "isFeeder", "Z", false)
def tyX0 : Nat → FieldType := fun k => match k with
  | 0 => .array .int
  | 1 => .int
  | 2 => .array .int
  | 3 => .int
  | 4 => .int
  | _ => .boolean
abbrev wsX00 : List Cond := u_ws RX0 TX0 6
theorem nmX0 : ∀ a, a < 6 → ∀ b, b < 6 → a ≠ b → (TX0 a).2.1 ≠ (TX0 b).2.1 := by decide +kernel
theorem tyX0_ok : ∀ k, k < 6 → parseFieldDescriptor (TX0 k).2.2.1 = some (tyX0 k) := by decide +kernel
def RX1 : String := "GossipHead$History"
def TX1 : u_T := fun k => match k with
  | 0 => ("GossipHead$History", "saved", "[LGossipHead$State;", true)
  | _ => ("GossipHead$History", "size", "I", false)
def tyX1 : Nat → FieldType := fun k => match k with
  | 0 => .array (.object "GossipHead$State")
  | _ => .int
abbrev wsX10 : List Cond := u_ws RX1 TX1 2
theorem nmX1 : ∀ a, a < 2 → ∀ b, b < 2 → a ≠ b → (TX1 a).2.1 ≠ (TX1 b).2.1 := by decide +kernel
theorem tyX1_ok : ∀ k, k < 2 → parseFieldDescriptor (TX1 k).2.2.1 = some (tyX1 k) := by decide +kernel
def RX2 : String := "GossipHead$State"
def TX2 : u_T := fun k => match k with
  | 0 => ("GossipHead$State", "feederCount", "I", false)
  | 1 => ("GossipHead$State", "placeCount", "I", false)
  | 2 => ("GossipHead$State", "time", "I", false)
  | 3 => ("GossipHead$State", "seed", "I", false)
  | 4 => ("GossipHead$State", "headX", "I", false)
  | 5 => ("GossipHead$State", "tours", "I", false)
  | 6 => ("GossipHead$State", "foundWrong", "I", false)
  | 7 => ("GossipHead$State", "settings", "[I", true)
  | 8 => ("GossipHead$State", "feeders", "LGossipHead$Table;", true)
  | 9 => ("GossipHead$State", "places", "LGossipHead$Table;", true)
  | 10 => ("GossipHead$State", "nozzles", "LGossipHead$Table;", true)
  | _ => ("GossipHead$State", "trusts", "LGossipHead$Table;", true)
def tyX2 : Nat → FieldType := fun k => match k with
  | 0 => .int
  | 1 => .int
  | 2 => .int
  | 3 => .int
  | 4 => .int
  | 5 => .int
  | 6 => .int
  | 7 => .array .int
  | 8 => .object "GossipHead$Table"
  | 9 => .object "GossipHead$Table"
  | 10 => .object "GossipHead$Table"
  | _ => .object "GossipHead$Table"
abbrev wsX20 : List Cond := u_ws RX2 TX2 12
theorem nmX2 : ∀ a, a < 12 → ∀ b, b < 12 → a ≠ b → (TX2 a).2.1 ≠ (TX2 b).2.1 := by decide +kernel
theorem tyX2_ok : ∀ k, k < 12 → parseFieldDescriptor (TX2 k).2.2.1 = some (tyX2 k) := by decide +kernel
def RX3 : String := "GossipHead$Table"
def TX3 : u_T := fun k => match k with
  | 0 => ("GossipHead$Table", "cells", "[I", true)
  | _ => ("GossipHead$Table", "columns", "I", true)
def tyX3 : Nat → FieldType := fun k => match k with
  | 0 => .array .int
  | _ => .int
abbrev wsX30 : List Cond := u_ws RX3 TX3 2
theorem nmX3 : ∀ a, a < 2 → ∀ b, b < 2 → a ≠ b → (TX3 a).2.1 ≠ (TX3 b).2.1 := by decide +kernel
theorem tyX3_ok : ∀ k, k < 2 → parseFieldDescriptor (TX3 k).2.2.1 = some (tyX3 k) := by decide +kernel
def RX4 : String := "GossipHead$Tour"
def TX4 : u_T := fun k => match k with
  | 0 => ("GossipHead$Tour", "aims", "[I", true)
  | 1 => ("GossipHead$Tour", "sources", "[I", true)
  | _ => ("GossipHead$Tour", "turned", "[Z", true)
def tyX4 : Nat → FieldType := fun k => match k with
  | 0 => .array .int
  | 1 => .array .int
  | _ => .array .boolean
abbrev wsX40 : List Cond := u_ws RX4 TX4 3
theorem nmX4 : ∀ a, a < 3 → ∀ b, b < 3 → a ≠ b → (TX4 a).2.1 ≠ (TX4 b).2.1 := by decide +kernel
theorem tyX4_ok : ∀ k, k < 3 → parseFieldDescriptor (TX4 k).2.2.1 = some (tyX4 k) := by decide +kernel
def RX5 : String := "GossipHead"
def TX5 : u_T := fun k => match k with
  | 0 => ("GossipHead", "now", "LGossipHead$State;", true)
  | 1 => ("GossipHead", "trial", "LGossipHead$State;", true)
  | 2 => ("GossipHead", "route", "LGossipHead$Tour;", true)
  | 3 => ("GossipHead", "history", "LGossipHead$History;", true)
  | _ => ("GossipHead", "text", "LGossipHead$BoardText;", true)
def tyX5 : Nat → FieldType := fun k => match k with
  | 0 => .object "GossipHead$State"
  | 1 => .object "GossipHead$State"
  | 2 => .object "GossipHead$Tour"
  | 3 => .object "GossipHead$History"
  | _ => .object "GossipHead$BoardText"
abbrev wsX50 : List Cond := u_ws RX5 TX5 5
theorem nmX5 : ∀ a, a < 5 → ∀ b, b < 5 → a ≠ b → (TX5 a).2.1 ≠ (TX5 b).2.1 := by decide +kernel
theorem tyX5_ok : ∀ k, k < 5 → parseFieldDescriptor (TX5 k).2.2.1 = some (tyX5 k) := by decide +kernel
def RX6 : String := "GossipHeadModel"
def TX6 : u_T := fun k => match k with
  | 0 => ("GossipHeadModel", "z", "[I", true)
  | 1 => ("GossipHeadModel", "states", "I", false)
  | 2 => ("GossipHeadModel", "history", "[I", true)
  | 3 => ("GossipHeadModel", "length", "I", false)
  | 4 => ("GossipHeadModel", "text", "[I", true)
  | 5 => ("GossipHeadModel", "thrown", "I", false)
  | 6 => ("GossipHeadModel", "aims", "[I", true)
  | 7 => ("GossipHeadModel", "parted", "[I", true)
  | 8 => ("GossipHeadModel", "turned", "[I", true)
  | 9 => ("GossipHeadModel", "parts", "[I", true)
  | 10 => ("GossipHeadModel", "read", "I", false)
  | 11 => ("GossipHeadModel", "number", "I", false)
  | 12 => ("GossipHeadModel", "due", "I", false)
  | 13 => ("GossipHeadModel", "kept", "[I", true)
  | _ => ("GossipHeadModel", "hash", "J", false)
def tyX6 : Nat → FieldType := fun k => match k with
  | 0 => .array .int
  | 1 => .int
  | 2 => .array .int
  | 3 => .int
  | 4 => .array .int
  | 5 => .int
  | 6 => .array .int
  | 7 => .array .int
  | 8 => .array .int
  | 9 => .array .int
  | 10 => .int
  | 11 => .int
  | 12 => .int
  | 13 => .array .int
  | _ => .long
abbrev wsX60 : List Cond := u_ws RX6 TX6 15
theorem nmX6 : ∀ a, a < 15 → ∀ b, b < 15 → a ≠ b → (TX6 a).2.1 ≠ (TX6 b).2.1 := by decide +kernel
theorem tyX6_ok : ∀ k, k < 15 → parseFieldDescriptor (TX6 k).2.2.1 = some (tyX6 k) := by decide +kernel
def RJxe99ae : String := "java/lang/Double"
def TJxe99ae : u_T := fun k => match k with
  | _ => ("", "", "", false)
def tyJxe99ae : Nat → FieldType := fun k => match k with
  | _ => .int
abbrev wsJxe99ae0 : List Cond := u_ws RJxe99ae TJxe99ae 0
theorem nmJxe99ae : ∀ a, a < 0 → ∀ b, b < 0 → a ≠ b → (TJxe99ae a).2.1 ≠ (TJxe99ae b).2.1 := by decide +kernel
theorem tyJxe99ae_ok : ∀ k, k < 0 → parseFieldDescriptor (TJxe99ae k).2.2.1 = some (tyJxe99ae k) := by decide +kernel
def RJ9 : String := "java/lang/Math"
def TJ9 : u_T := fun k => match k with
  | _ => ("", "", "", false)
def tyJ9 : Nat → FieldType := fun k => match k with
  | _ => .int
abbrev wsJ90 : List Cond := u_ws RJ9 TJ9 0
theorem nmJ9 : ∀ a, a < 0 → ∀ b, b < 0 → a ≠ b → (TJ9 a).2.1 ≠ (TJ9 b).2.1 := by decide +kernel
theorem tyJ9_ok : ∀ k, k < 0 → parseFieldDescriptor (TJ9 k).2.2.1 = some (tyJ9 k) := by decide +kernel
def RJ0 : String := "java/lang/String"
def TJ0 : u_T := fun k => match k with
  | _ => ("", "", "", false)
def tyJ0 : Nat → FieldType := fun k => match k with
  | _ => .int
abbrev wsJ00 : List Cond := u_ws RJ0 TJ0 0
theorem nmJ0 : ∀ a, a < 0 → ∀ b, b < 0 → a ≠ b → (TJ0 a).2.1 ≠ (TJ0 b).2.1 := by decide +kernel
theorem tyJ0_ok : ∀ k, k < 0 → parseFieldDescriptor (TJ0 k).2.2.1 = some (tyJ0 k) := by decide +kernel
def RJ10 : String := "java/lang/System"
def TJ10 : u_T := fun k => match k with
  | _ => ("", "", "", false)
def tyJ10 : Nat → FieldType := fun k => match k with
  | _ => .int
abbrev wsJ100 : List Cond := u_ws RJ10 TJ10 0
theorem nmJ10 : ∀ a, a < 0 → ∀ b, b < 0 → a ≠ b → (TJ10 a).2.1 ≠ (TJ10 b).2.1 := by decide +kernel
theorem tyJ10_ok : ∀ k, k < 0 → parseFieldDescriptor (TJ10 k).2.2.1 = some (tyJ10 k) := by decide +kernel
def RL : String := "GossipHeadLaw"
abbrev vwCl : List vw_C := [(RX0, TX0, 6), (RX1, TX1, 2), (RX2, TX2, 12), (RX3, TX3, 2), (RX4, TX4, 3), (RX5, TX5, 5), (RX6, TX6, 15)]
