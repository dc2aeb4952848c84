def am_R0 : String := "OverFence$Bent"
def am_T0 : u_T := fun k => match k with
  | 0 => ("OverFence$Kick", "number", "I", true)
  | _ => ("OverFence$Kick", "v", "I", true)
def am_t0 : Nat → FieldType := fun k => match k with
  | 0 => .int
  | _ => .int
def am_R1 : String := "OverFence$Chances"
def am_T1 : u_T := fun k => match k with
  | 0 => ("OverFence$Chances", "cells", "[J", true)
  | 1 => ("OverFence$Chances", "lifts", "[I", true)
  | 2 => ("OverFence$Chances", "ways", "J", false)
  | 3 => ("OverFence$Chances", "kicksDone", "I", false)
  | 4 => ("OverFence$Chances", "aimsWithin", "I", false)
  | 5 => ("OverFence$Chances", "aimsOnGround", "I", false)
  | 6 => ("OverFence$Chances", "aimsOnPanes", "I", false)
  | _ => ("OverFence$Chances", "aimsOnRoofs", "I", false)
def am_t1 : Nat → FieldType := fun k => match k with
  | 0 => .array .long
  | 1 => .array .int
  | 2 => .long
  | 3 => .int
  | 4 => .int
  | 5 => .int
  | 6 => .int
  | _ => .int
def am_R2 : String := "OverFence$Hard"
def am_T2 : u_T := fun k => match k with
  | 0 => ("OverFence$Kick", "number", "I", true)
  | _ => ("OverFence$Kick", "v", "I", true)
def am_t2 : Nat → FieldType := fun k => match k with
  | 0 => .int
  | _ => .int
def am_R3 : String := "OverFence$Kick"
def am_T3 : u_T := fun k => match k with
  | 0 => ("OverFence$Kick", "number", "I", true)
  | _ => ("OverFence$Kick", "v", "I", true)
def am_t3 : Nat → FieldType := fun k => match k with
  | 0 => .int
  | _ => .int
def am_R4 : String := "OverFence$Low"
def am_T4 : u_T := fun k => match k with
  | 0 => ("OverFence$Kick", "number", "I", true)
  | _ => ("OverFence$Kick", "v", "I", true)
def am_t4 : Nat → FieldType := fun k => match k with
  | 0 => .int
  | _ => .int
def am_R5 : String := "OverFence$Paying"
def am_T5 : u_T := fun k => match k with
  | 0 => ("OverFence$Kick", "number", "I", true)
  | _ => ("OverFence$Kick", "v", "I", true)
def am_t5 : Nat → FieldType := fun k => match k with
  | 0 => .int
  | _ => .int
def am_R6 : String := "OverFence$Scene"
def am_T6 : u_T := fun k => match k with
  | 0 => ("OverFence$Scene", "numbers", "[I", true)
  | 1 => ("OverFence$Scene", "beds", "[I", true)
  | 2 => ("OverFence$Scene", "boys", "[LOverFence$Kick;", true)
  | 3 => ("OverFence$Scene", "panes", "[I", true)
  | 4 => ("OverFence$Scene", "boyCount", "I", false)
  | 5 => ("OverFence$Scene", "tape", "[B", true)
  | 6 => ("OverFence$Scene", "tapeSize", "I", false)
  | 7 => ("OverFence$Scene", "yard", "LOverFence$Yard;", true)
  | 8 => ("OverFence$Scene", "yardCount", "I", false)
  | 9 => ("OverFence$Scene", "taleBoys", "[I", true)
  | 10 => ("OverFence$Scene", "taleAims", "[I", true)
  | 11 => ("OverFence$Scene", "taleEnds", "[I", true)
  | _ => ("OverFence$Scene", "taleCount", "I", false)
def am_t6 : Nat → FieldType := fun k => match k with
  | 0 => .array .int
  | 1 => .array .int
  | 2 => .array (.object "OverFence$Kick")
  | 3 => .array .int
  | 4 => .int
  | 5 => .array .byte
  | 6 => .int
  | 7 => .object "OverFence$Yard"
  | 8 => .int
  | 9 => .array .int
  | 10 => .array .int
  | 11 => .array .int
  | _ => .int
def am_R7 : String := "OverFence$Shy"
def am_T7 : u_T := fun k => match k with
  | 0 => ("OverFence$Kick", "number", "I", true)
  | _ => ("OverFence$Kick", "v", "I", true)
def am_t7 : Nat → FieldType := fun k => match k with
  | 0 => .int
  | _ => .int
def am_R8 : String := "OverFence$Trace"
def am_T8 : u_T := fun k => match k with
  | 0 => ("OverFence$Trace", "first", "[I", true)
  | _ => ("OverFence$Trace", "ran", "I", false)
def am_t8 : Nat → FieldType := fun k => match k with
  | 0 => .array .int
  | _ => .int
def am_R9 : String := "OverFence$Wild"
def am_T9 : u_T := fun k => match k with
  | 0 => ("OverFence$Kick", "number", "I", true)
  | _ => ("OverFence$Kick", "v", "I", true)
def am_t9 : Nat → FieldType := fun k => match k with
  | 0 => .int
  | _ => .int
def am_R10 : String := "OverFence$Yard"
def am_T10 : u_T := fun k => match k with
  | 0 => ("OverFence$Yard", "steps", "[I", true)
  | 1 => ("OverFence$Yard", "seen", "[I", true)
  | 2 => ("OverFence$Yard", "stepCount", "I", false)
  | 3 => ("OverFence$Yard", "wall", "I", false)
  | 4 => ("OverFence$Yard", "supper", "I", false)
  | 5 => ("OverFence$Yard", "text", "[B", false)
  | 6 => ("OverFence$Yard", "size", "I", false)
  | 7 => ("OverFence$Yard", "at", "I", false)
  | _ => ("OverFence$Yard", "fault", "I", false)
def am_t10 : Nat → FieldType := fun k => match k with
  | 0 => .array .int
  | 1 => .array .int
  | 2 => .int
  | 3 => .int
  | 4 => .int
  | 5 => .array .byte
  | 6 => .int
  | 7 => .int
  | _ => .int
def am_R11 : String := "OverFence"
def am_T11 : u_T := fun k => match k with
  | 0 => ("OverFence", "now", "LOverFence$Scene;", true)
  | 1 => ("OverFence", "imaged", "LOverFence$Scene;", true)
  | 2 => ("OverFence", "trial", "LOverFence$Scene;", true)
  | 3 => ("OverFence", "draft", "LOverFence$Yard;", true)
  | 4 => ("OverFence", "chances", "LOverFence$Chances;", true)
  | 5 => ("OverFence", "bodies", "LOverFence$Trace;", true)
  | _ => ("OverFence", "hasImage", "Z", false)
def am_t11 : Nat → FieldType := fun k => match k with
  | 0 => .object "OverFence$Scene"
  | 1 => .object "OverFence$Scene"
  | 2 => .object "OverFence$Scene"
  | 3 => .object "OverFence$Yard"
  | 4 => .object "OverFence$Chances"
  | 5 => .object "OverFence$Trace"
  | _ => .boolean
def am_R12 : String := "OverFenceModel"
def am_T12 : u_T := fun k => match k with
  | 0 => ("OverFenceModel", "thrown", "I", false)
  | 1 => ("OverFenceModel", "s", "[I", true)
  | 2 => ("OverFenceModel", "image", "[I", true)
  | 3 => ("OverFenceModel", "frame", "[I", true)
  | 4 => ("OverFenceModel", "hasImage", "Z", false)
  | 5 => ("OverFenceModel", "act", "I", false)
  | 6 => ("OverFenceModel", "spot", "I", false)
  | 7 => ("OverFenceModel", "end", "I", false)
  | 8 => ("OverFenceModel", "isWrong", "Z", false)
  | 9 => ("OverFenceModel", "open", "I", false)
  | 10 => ("OverFenceModel", "by", "[I", true)
  | 11 => ("OverFenceModel", "truths", "[Z", true)
  | 12 => ("OverFenceModel", "often", "[J", false)
  | 13 => ("OverFenceModel", "then", "[J", false)
  | 14 => ("OverFenceModel", "bedsNext", "[I", true)
  | 15 => ("OverFenceModel", "bodies", "[I", true)
  | 16 => ("OverFenceModel", "ran", "I", false)
  | 17 => ("OverFenceModel", "kind", "I", false)
  | 18 => ("OverFenceModel", "number", "I", false)
  | _ => ("OverFenceModel", "tellsV", "I", false)
def am_t12 : Nat → FieldType := fun k => match k with
  | 0 => .int
  | 1 => .array .int
  | 2 => .array .int
  | 3 => .array .int
  | 4 => .boolean
  | 5 => .int
  | 6 => .int
  | 7 => .int
  | 8 => .boolean
  | 9 => .int
  | 10 => .array .int
  | 11 => .array .boolean
  | 12 => .array .long
  | 13 => .array .long
  | 14 => .array .int
  | 15 => .array .int
  | 16 => .int
  | 17 => .int
  | 18 => .int
  | _ => .int
def am_cl : List vw_C := [(am_R0, am_T0, 2), (am_R1, am_T1, 8), (am_R2, am_T2, 2), (am_R3, am_T3, 2), (am_R4, am_T4, 2), (am_R5, am_T5, 2), (am_R6, am_T6, 13), (am_R7, am_T7, 2), (am_R8, am_T8, 2), (am_R9, am_T9, 2), (am_R10, am_T10, 9), (am_R11, am_T11, 7), (am_R12, am_T12, 20)]
/-- the default fields of a new object, by its class -/
def am_df (c : Nat) : List Value := match c with
  | 0 => [.int 0, .int 0]
  | 1 => [.null, .null, .long 0, .int 0, .int 0, .int 0, .int 0, .int 0]
  | 2 => [.int 0, .int 0]
  | 3 => [.int 0, .int 0]
  | 4 => [.int 0, .int 0]
  | 5 => [.int 0, .int 0]
  | 6 => [.null, .null, .null, .null, .int 0, .null, .int 0, .null, .int 0, .null, .null, .null, .int 0]
  | 7 => [.int 0, .int 0]
  | 8 => [.null, .int 0]
  | 9 => [.int 0, .int 0]
  | 10 => [.null, .null, .int 0, .int 0, .int 0, .null, .int 0, .int 0, .int 0]
  | 11 => [.null, .null, .null, .null, .null, .null, .int 0]
  | 12 => [.int 0, .null, .null, .null, .int 0, .int 0, .int 0, .int 0, .int 0, .int 0, .null, .null, .null, .null, .null, .null, .int 0, .int 0, .int 0, .int 0]
  | _ => []
def am_tt (c : Nat) : Nat → FieldType := match c with
  | 0 => am_t0
  | 1 => am_t1
  | 2 => am_t2
  | 3 => am_t3
  | 4 => am_t4
  | 5 => am_t5
  | 6 => am_t6
  | 7 => am_t7
  | 8 => am_t8
  | 9 => am_t9
  | 10 => am_t10
  | 11 => am_t11
  | _ => am_t12
/-- a class of the table: its words stand in lw_tbl, its types are the descriptors', its names differ, its default fields are am_df -/
def am_cok (c : Nat) (q : vw_C) : Prop := (∀ w ∈ u_ws q.1 q.2.1 q.2.2, w ∈ lw_tbl) ∧ (∀ k, k < q.2.2 → parseFieldDescriptor (q.2.1 k).2.2.1 = some (am_tt c k)) ∧ (∀ a, a < q.2.2 → ∀ b, b < q.2.2 → a ≠ b → (q.2.1 a).2.1 ≠ (q.2.1 b).2.1) ∧ (∀ k, k < q.2.2 → defaultValue (am_tt c k) = vp_V (am_df c) k) ∧ (am_df c).length = q.2.2
set_option maxRecDepth 20000 in
theorem am_cok0 : am_cok 0 (am_R0, am_T0, 2) := ⟨by decide +kernel, by decide +kernel, by decide +kernel, by decide +kernel, by decide +kernel⟩
set_option maxRecDepth 20000 in
theorem am_cok1 : am_cok 1 (am_R1, am_T1, 8) := ⟨by decide +kernel, by decide +kernel, by decide +kernel, by decide +kernel, by decide +kernel⟩
set_option maxRecDepth 20000 in
theorem am_cok2 : am_cok 2 (am_R2, am_T2, 2) := ⟨by decide +kernel, by decide +kernel, by decide +kernel, by decide +kernel, by decide +kernel⟩
set_option maxRecDepth 20000 in
theorem am_cok3 : am_cok 3 (am_R3, am_T3, 2) := ⟨by decide +kernel, by decide +kernel, by decide +kernel, by decide +kernel, by decide +kernel⟩
set_option maxRecDepth 20000 in
theorem am_cok4 : am_cok 4 (am_R4, am_T4, 2) := ⟨by decide +kernel, by decide +kernel, by decide +kernel, by decide +kernel, by decide +kernel⟩
set_option maxRecDepth 20000 in
theorem am_cok5 : am_cok 5 (am_R5, am_T5, 2) := ⟨by decide +kernel, by decide +kernel, by decide +kernel, by decide +kernel, by decide +kernel⟩
set_option maxRecDepth 20000 in
theorem am_cok6 : am_cok 6 (am_R6, am_T6, 13) := ⟨by decide +kernel, by decide +kernel, by decide +kernel, by decide +kernel, by decide +kernel⟩
set_option maxRecDepth 20000 in
theorem am_cok7 : am_cok 7 (am_R7, am_T7, 2) := ⟨by decide +kernel, by decide +kernel, by decide +kernel, by decide +kernel, by decide +kernel⟩
set_option maxRecDepth 20000 in
theorem am_cok8 : am_cok 8 (am_R8, am_T8, 2) := ⟨by decide +kernel, by decide +kernel, by decide +kernel, by decide +kernel, by decide +kernel⟩
set_option maxRecDepth 20000 in
theorem am_cok9 : am_cok 9 (am_R9, am_T9, 2) := ⟨by decide +kernel, by decide +kernel, by decide +kernel, by decide +kernel, by decide +kernel⟩
set_option maxRecDepth 20000 in
theorem am_cok10 : am_cok 10 (am_R10, am_T10, 9) := ⟨by decide +kernel, by decide +kernel, by decide +kernel, by decide +kernel, by decide +kernel⟩
set_option maxRecDepth 20000 in
theorem am_cok11 : am_cok 11 (am_R11, am_T11, 7) := ⟨by decide +kernel, by decide +kernel, by decide +kernel, by decide +kernel, by decide +kernel⟩
set_option maxRecDepth 20000 in
theorem am_cok12 : am_cok 12 (am_R12, am_T12, 20) := ⟨by decide +kernel, by decide +kernel, by decide +kernel, by decide +kernel, by decide +kernel⟩
theorem am_cok_all {c : Nat} {q : vw_C} (h : am_cl[c]? = some q) : am_cok c q := by
  match c, h with
  | 0, h => cases h; exact am_cok0
  | 1, h => cases h; exact am_cok1
  | 2, h => cases h; exact am_cok2
  | 3, h => cases h; exact am_cok3
  | 4, h => cases h; exact am_cok4
  | 5, h => cases h; exact am_cok5
  | 6, h => cases h; exact am_cok6
  | 7, h => cases h; exact am_cok7
  | 8, h => cases h; exact am_cok8
  | 9, h => cases h; exact am_cok9
  | 10, h => cases h; exact am_cok10
  | 11, h => cases h; exact am_cok11
  | 12, h => cases h; exact am_cok12
  | c + 13, h => simp [am_cl] at h
