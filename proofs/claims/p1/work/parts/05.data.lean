/-! THE DATA: classes and their fields, methods and their code, the links of the constant pools; printed by a program out of the Statement; rows by which each stands in the words lw_tbl -/
def pl_w (q : Nat × Nat) : Option Cond := match q.1 with
  | 0 => (k2_sels lw_privs)[q.2]?
  | 1 => tables_1_1[q.2]?
  | 2 => tables_1_2[q.2]?
  | 3 => tables_1_3[q.2]?
  | 4 => tables_1_4[q.2]?
  | 5 => tables_1_5[q.2]?
  | 6 => tables_1_6[q.2]?
  | 7 => tables_1_7[q.2]?
  | 8 => tables_1_8[q.2]?
  | 9 => tables_1_9[q.2]?
  | 10 => tables_1_10[q.2]?
  | 11 => tables_1_11[q.2]?
  | _ => none
theorem pl_w_mem {q : Nat × Nat} {w : Cond} (h : pl_w q = some w) : w ∈ lw_tbl := by
  obtain ⟨k, j⟩ := q
  unfold lw_tbl tables_1
  simp only [List.mem_append]
  match k, h with
  | 0, h => exact Or.inl (List.mem_of_getElem? h)
  | 1, h => exact Or.inr (Or.inl (List.mem_of_getElem? h))
  | 2, h => exact Or.inr (Or.inr (Or.inl (List.mem_of_getElem? h)))
  | 3, h => exact Or.inr (Or.inr (Or.inr (Or.inl (List.mem_of_getElem? h))))
  | 4, h => exact Or.inr (Or.inr (Or.inr (Or.inr (Or.inl (List.mem_of_getElem? h)))))
  | 5, h => exact Or.inr (Or.inr (Or.inr (Or.inr (Or.inr (Or.inl (List.mem_of_getElem? h))))))
  | 6, h => exact Or.inr (Or.inr (Or.inr (Or.inr (Or.inr (Or.inr (Or.inl (List.mem_of_getElem? h)))))))
  | 7, h => exact Or.inr (Or.inr (Or.inr (Or.inr (Or.inr (Or.inr (Or.inr (Or.inl (List.mem_of_getElem? h))))))))
  | 8, h => exact Or.inr (Or.inr (Or.inr (Or.inr (Or.inr (Or.inr (Or.inr (Or.inr (Or.inl (List.mem_of_getElem? h)))))))))
  | 9, h => exact Or.inr (Or.inr (Or.inr (Or.inr (Or.inr (Or.inr (Or.inr (Or.inr (Or.inr (Or.inl (List.mem_of_getElem? h))))))))))
  | 10, h => exact Or.inr (Or.inr (Or.inr (Or.inr (Or.inr (Or.inr (Or.inr (Or.inr (Or.inr (Or.inr (Or.inl (List.mem_of_getElem? h)))))))))))
  | 11, h => exact Or.inr (Or.inr (Or.inr (Or.inr (Or.inr (Or.inr (Or.inr (Or.inr (Or.inr (Or.inr (Or.inr (List.mem_of_getElem? h)))))))))))
  | k + 12, h => cases h
theorem pl_mem {ws : List Cond} (ps : List (Nat × Nat)) (h : ws = ps.filterMap pl_w) : ∀ w ∈ ws, w ∈ lw_tbl := by
  intro w hw
  rw [h] at hw
  obtain ⟨i, -, hi⟩ := List.mem_filterMap.mp hw
  exact pl_w_mem hi
theorem pl_all {α : Type} {l : List α} {f : α → Cond} (ps : List (Nat × Nat)) (h : l.map f = ps.filterMap pl_w) : ∀ x ∈ l, f x ∈ lw_tbl := fun x hx => pl_mem ps h _ (List.mem_map_of_mem hx)
theorem pl_app {α : Type} {P : α → Prop} {a b : List α} (ha : ∀ x ∈ a, P x) (hb : ∀ x ∈ b, P x) : ∀ x ∈ a ++ b, P x := fun x h => (List.mem_append.mp h).elim (ha x) (hb x)
def R0 : String := "CascadeStore"
def T0 : u_T := fun k => match k with
  | 0 => ("CascadeStore", "tape", "LCascadeStore$Tape;", true)
  | 1 => ("CascadeStore", "store", "LCascadeStore$Store;", true)
  | 2 => ("CascadeStore", "reader", "LCascadeStore$StatementReader;", true)
  | 3 => ("CascadeStore", "engine", "LCascadeStore$Engine;", true)
  | _ => ("CascadeStore", "answers", "[I", true)
def ty0 : Nat → FieldType := fun k => match k with
  | 0 => .object "CascadeStore$Tape"
  | 1 => .object "CascadeStore$Store"
  | 2 => .object "CascadeStore$StatementReader"
  | 3 => .object "CascadeStore$Engine"
  | _ => .array .int
theorem nm0 : ∀ a, a < 5 → ∀ b, b < 5 → a ≠ b → (T0 a).2.1 ≠ (T0 b).2.1 := by decide +kernel
theorem tk0 : ∀ k, k < 5 → parseFieldDescriptor (T0 k).2.2.1 = some (ty0 k) := by decide +kernel
set_option maxRecDepth 20000 in
theorem in0 : ∀ w ∈ u_ws R0 T0 5, w ∈ lw_tbl := pl_mem [(3, 183), (3, 185), (3, 187), (3, 189), (3, 191)] rfl
def R1 : String := "CascadeStore$Tape"
def T1 : u_T := fun k => match k with
  | 0 => ("CascadeStore$Tape", "bytes", "[B", true)
  | 1 => ("CascadeStore$Tape", "tokens", "[LCascadeStore$Token;", true)
  | 2 => ("CascadeStore$Tape", "places", "[I", true)
  | 3 => ("CascadeStore$Tape", "values", "[J", true)
  | 4 => ("CascadeStore$Tape", "length", "I", false)
  | 5 => ("CascadeStore$Tape", "now", "I", false)
  | 6 => ("CascadeStore$Tape", "token", "LCascadeStore$Token;", false)
  | 7 => ("CascadeStore$Tape", "place", "I", false)
  | 8 => ("CascadeStore$Tape", "value", "J", false)
  | 9 => ("CascadeStore$Tape", "fault", "I", false)
  | _ => ("CascadeStore$Tape", "faultPlace", "I", false)
def ty1 : Nat → FieldType := fun k => match k with
  | 0 => .array .byte
  | 1 => .array (.object "CascadeStore$Token")
  | 2 => .array .int
  | 3 => .array .long
  | 4 => .int
  | 5 => .int
  | 6 => .object "CascadeStore$Token"
  | 7 => .int
  | 8 => .long
  | 9 => .int
  | _ => .int
theorem nm1 : ∀ a, a < 11 → ∀ b, b < 11 → a ≠ b → (T1 a).2.1 ≠ (T1 b).2.1 := by decide +kernel
theorem tk1 : ∀ k, k < 11 → parseFieldDescriptor (T1 k).2.2.1 = some (ty1 k) := by decide +kernel
set_option maxRecDepth 20000 in
theorem in1 : ∀ w ∈ u_ws R1 T1 11, w ∈ lw_tbl := pl_mem [(1, 68), (1, 70), (1, 72), (1, 74), (1, 76), (1, 78), (1, 80), (1, 82), (1, 84), (1, 86), (1, 88)] rfl
def R2 : String := "CascadeStore$Store"
def T2 : u_T := fun k => match k with
  | 0 => ("CascadeStore$Store", "tableNames", "[J", true)
  | 1 => ("CascadeStore$Store", "widths", "[I", true)
  | 2 => ("CascadeStore$Store", "columnNames", "[J", true)
  | 3 => ("CascadeStore$Store", "defaults", "[J", true)
  | 4 => ("CascadeStore$Store", "rules", "[LCascadeStore$Rule;", true)
  | 5 => ("CascadeStore$Store", "triggers", "[LCascadeStore$Trigger;", true)
  | 6 => ("CascadeStore$Store", "rows", "LCascadeStore$Rows;", true)
  | 7 => ("CascadeStore$Store", "underWay", "Z", false)
  | 8 => ("CascadeStore$Store", "waiting", "I", false)
  | 9 => ("CascadeStore$Store", "atBegin", "LCascadeStore$Rows;", false)
  | 10 => ("CascadeStore$Store", "marks", "[LCascadeStore$Rows;", true)
  | 11 => ("CascadeStore$Store", "markNames", "[J", true)
  | _ => ("CascadeStore$Store", "marksThere", "I", false)
def ty2 : Nat → FieldType := fun k => match k with
  | 0 => .array .long
  | 1 => .array .int
  | 2 => .array .long
  | 3 => .array .long
  | 4 => .array (.object "CascadeStore$Rule")
  | 5 => .array (.object "CascadeStore$Trigger")
  | 6 => .object "CascadeStore$Rows"
  | 7 => .boolean
  | 8 => .int
  | 9 => .object "CascadeStore$Rows"
  | 10 => .array (.object "CascadeStore$Rows")
  | 11 => .array .long
  | _ => .int
theorem nm2 : ∀ a, a < 13 → ∀ b, b < 13 → a ≠ b → (T2 a).2.1 ≠ (T2 b).2.1 := by decide +kernel
theorem tk2 : ∀ k, k < 13 → parseFieldDescriptor (T2 k).2.2.1 = some (ty2 k) := by decide +kernel
set_option maxRecDepth 20000 in
theorem in2 : ∀ w ∈ u_ws R2 T2 13, w ∈ lw_tbl := pl_mem [(1, 151), (1, 153), (1, 155), (1, 157), (1, 159), (1, 161), (1, 163), (1, 165), (1, 167), (1, 169), (1, 171), (1, 173), (1, 175)] rfl
def R3 : String := "CascadeStore$Rows"
def T3 : u_T := fun k => match k with
  | 0 => ("CascadeStore$Rows", "cells", "[J", true)
  | 1 => ("CascadeStore$Rows", "ids", "[I", true)
  | 2 => ("CascadeStore$Rows", "sizes", "[I", true)
  | _ => ("CascadeStore$Rows", "latest", "[I", true)
def ty3 : Nat → FieldType := fun k => match k with
  | 0 => .array .long
  | 1 => .array .int
  | 2 => .array .int
  | _ => .array .int
theorem nm3 : ∀ a, a < 4 → ∀ b, b < 4 → a ≠ b → (T3 a).2.1 ≠ (T3 b).2.1 := by decide +kernel
theorem tk3 : ∀ k, k < 4 → parseFieldDescriptor (T3 k).2.2.1 = some (ty3 k) := by decide +kernel
set_option maxRecDepth 20000 in
theorem in3 : ∀ w ∈ u_ws R3 T3 4, w ∈ lw_tbl := pl_mem [(1, 118), (1, 120), (1, 122), (1, 124)] rfl
def R4 : String := "CascadeStore$StatementReader"
def T4 : u_T := fun k => match k with
  | 0 => ("CascadeStore$StatementReader", "tape", "LCascadeStore$Tape;", true)
  | 1 => ("CascadeStore$StatementReader", "store", "LCascadeStore$Store;", true)
  | 2 => ("CascadeStore$StatementReader", "formulas", "LCascadeStore$FormulaReader;", true)
  | 3 => ("CascadeStore$StatementReader", "verb", "LCascadeStore$Token;", false)
  | 4 => ("CascadeStore$StatementReader", "noun", "LCascadeStore$Token;", false)
  | 5 => ("CascadeStore$StatementReader", "number", "I", false)
  | 6 => ("CascadeStore$StatementReader", "name", "J", false)
  | 7 => ("CascadeStore$StatementReader", "rules", "I", false)
  | 8 => ("CascadeStore$StatementReader", "act", "LCascadeStore$Act;", false)
  | 9 => ("CascadeStore$StatementReader", "trigger", "LCascadeStore$Trigger;", false)
  | _ => ("CascadeStore$StatementReader", "newTable", "I", false)
def ty4 : Nat → FieldType := fun k => match k with
  | 0 => .object "CascadeStore$Tape"
  | 1 => .object "CascadeStore$Store"
  | 2 => .object "CascadeStore$FormulaReader"
  | 3 => .object "CascadeStore$Token"
  | 4 => .object "CascadeStore$Token"
  | 5 => .int
  | 6 => .long
  | 7 => .int
  | 8 => .object "CascadeStore$Act"
  | 9 => .object "CascadeStore$Trigger"
  | _ => .int
theorem nm4 : ∀ a, a < 11 → ∀ b, b < 11 → a ≠ b → (T4 a).2.1 ≠ (T4 b).2.1 := by decide +kernel
theorem tk4 : ∀ k, k < 11 → parseFieldDescriptor (T4 k).2.2.1 = some (ty4 k) := by decide +kernel
set_option maxRecDepth 20000 in
theorem in4 : ∀ w ∈ u_ws R4 T4 11, w ∈ lw_tbl := pl_mem [(2, 6), (2, 8), (2, 10), (2, 12), (2, 14), (2, 16), (2, 18), (2, 20), (2, 22), (2, 24), (2, 26)] rfl
def R5 : String := "CascadeStore$FormulaReader"
def T5 : u_T := fun k => match k with
  | 0 => ("CascadeStore$FormulaReader", "tape", "LCascadeStore$Tape;", true)
  | 1 => ("CascadeStore$FormulaReader", "store", "LCascadeStore$Store;", true)
  | 2 => ("CascadeStore$FormulaReader", "operations", "[I", true)
  | 3 => ("CascadeStore$FormulaReader", "operands", "[I", true)
  | 4 => ("CascadeStore$FormulaReader", "used", "I", false)
  | 5 => ("CascadeStore$FormulaReader", "open", "I", false)
  | 6 => ("CascadeStore$FormulaReader", "nodesLeft", "I", false)
  | 7 => ("CascadeStore$FormulaReader", "rowTable", "I", false)
  | 8 => ("CascadeStore$FormulaReader", "triggerTable", "I", false)
  | 9 => ("CascadeStore$FormulaReader", "event", "I", false)
  | _ => ("CascadeStore$FormulaReader", "inCheck", "Z", false)
def ty5 : Nat → FieldType := fun k => match k with
  | 0 => .object "CascadeStore$Tape"
  | 1 => .object "CascadeStore$Store"
  | 2 => .array .int
  | 3 => .array .int
  | 4 => .int
  | 5 => .int
  | 6 => .int
  | 7 => .int
  | 8 => .int
  | 9 => .int
  | _ => .boolean
theorem nm5 : ∀ a, a < 11 → ∀ b, b < 11 → a ≠ b → (T5 a).2.1 ≠ (T5 b).2.1 := by decide +kernel
theorem tk5 : ∀ k, k < 11 → parseFieldDescriptor (T5 k).2.2.1 = some (ty5 k) := by decide +kernel
set_option maxRecDepth 20000 in
theorem in5 : ∀ w ∈ u_ws R5 T5 11, w ∈ lw_tbl := pl_mem [(1, 205), (1, 207), (1, 209), (1, 211), (1, 213), (1, 215), (1, 217), (1, 219), (1, 221), (1, 223), (1, 225)] rfl
def R6 : String := "CascadeStore$Engine"
def T6 : u_T := fun k => match k with
  | 0 => ("CascadeStore$Engine", "store", "LCascadeStore$Store;", true)
  | 1 => ("CascadeStore$Engine", "rows", "LCascadeStore$Rows;", true)
  | 2 => ("CascadeStore$Engine", "before", "LCascadeStore$Rows;", true)
  | 3 => ("CascadeStore$Engine", "olds", "[[J", true)
  | 4 => ("CascadeStore$Engine", "freshes", "[[J", true)
  | 5 => ("CascadeStore$Engine", "founds", "[[I", true)
  | 6 => ("CascadeStore$Engine", "end", "I", false)
  | 7 => ("CascadeStore$Engine", "begun", "I", false)
  | 8 => ("CascadeStore$Engine", "deepest", "I", false)
  | 9 => ("CascadeStore$Engine", "brokenRule", "I", false)
  | 10 => ("CascadeStore$Engine", "brokenRow", "I", false)
  | _ => ("CascadeStore$Engine", "raised", "I", false)
def ty6 : Nat → FieldType := fun k => match k with
  | 0 => .object "CascadeStore$Store"
  | 1 => .object "CascadeStore$Rows"
  | 2 => .object "CascadeStore$Rows"
  | 3 => .array (.array .long)
  | 4 => .array (.array .long)
  | 5 => .array (.array .int)
  | 6 => .int
  | 7 => .int
  | 8 => .int
  | 9 => .int
  | 10 => .int
  | _ => .int
theorem nm6 : ∀ a, a < 12 → ∀ b, b < 12 → a ≠ b → (T6 a).2.1 ≠ (T6 b).2.1 := by decide +kernel
theorem tk6 : ∀ k, k < 12 → parseFieldDescriptor (T6 k).2.2.1 = some (ty6 k) := by decide +kernel
set_option maxRecDepth 20000 in
theorem in6 : ∀ w ∈ u_ws R6 T6 12, w ∈ lw_tbl := pl_mem [(2, 58), (2, 60), (2, 62), (2, 64), (2, 66), (2, 68), (2, 70), (2, 72), (2, 74), (2, 76), (2, 78), (2, 80)] rfl
def R7 : String := "CascadeStore$Rule"
def T7 : u_T := fun k => match k with
  | 0 => ("CascadeStore$Rule", "kind", "I", true)
  | 1 => ("CascadeStore$Rule", "table", "I", true)
  | 2 => ("CascadeStore$Rule", "columns", "[I", true)
  | 3 => ("CascadeStore$Rule", "targets", "[I", true)
  | 4 => ("CascadeStore$Rule", "size", "I", false)
  | 5 => ("CascadeStore$Rule", "target", "I", false)
  | 6 => ("CascadeStore$Rule", "mayWait", "Z", false)
  | 7 => ("CascadeStore$Rule", "onDelete", "I", false)
  | 8 => ("CascadeStore$Rule", "onUpdate", "I", false)
  | _ => ("CascadeStore$Rule", "check", "LCascadeStore$Formula;", false)
def ty7 : Nat → FieldType := fun k => match k with
  | 0 => .int
  | 1 => .int
  | 2 => .array .int
  | 3 => .array .int
  | 4 => .int
  | 5 => .int
  | 6 => .boolean
  | 7 => .int
  | 8 => .int
  | _ => .object "CascadeStore$Formula"
theorem nm7 : ∀ a, a < 10 → ∀ b, b < 10 → a ≠ b → (T7 a).2.1 ≠ (T7 b).2.1 := by decide +kernel
theorem tk7 : ∀ k, k < 10 → parseFieldDescriptor (T7 k).2.2.1 = some (ty7 k) := by decide +kernel
set_option maxRecDepth 20000 in
theorem in7 : ∀ w ∈ u_ws R7 T7 10, w ∈ lw_tbl := pl_mem [(4, 211), (4, 213), (4, 215), (4, 217), (4, 219), (4, 221), (4, 223), (4, 225), (4, 227), (4, 229)] rfl
def R8 : String := "CascadeStore$Formula"
def T8 : u_T := fun k => match k with
  | 0 => ("CascadeStore$Formula", "operations", "[I", true)
  | 1 => ("CascadeStore$Formula", "operands", "[I", true)
  | 2 => ("CascadeStore$Formula", "inCheck", "Z", true)
  | _ => ("CascadeStore$Formula", "stack", "[J", true)
def ty8 : Nat → FieldType := fun k => match k with
  | 0 => .array .int
  | 1 => .array .int
  | 2 => .boolean
  | _ => .array .long
theorem nm8 : ∀ a, a < 4 → ∀ b, b < 4 → a ≠ b → (T8 a).2.1 ≠ (T8 b).2.1 := by decide +kernel
theorem tk8 : ∀ k, k < 4 → parseFieldDescriptor (T8 k).2.2.1 = some (ty8 k) := by decide +kernel
set_option maxRecDepth 20000 in
theorem in8 : ∀ w ∈ u_ws R8 T8 4, w ∈ lw_tbl := pl_mem [(5, 129), (5, 131), (5, 133), (5, 135)] rfl
def R9 : String := "CascadeStore$Act"
def T9 : u_T := fun k => match k with
  | 0 => ("CascadeStore$Act", "kind", "I", true)
  | 1 => ("CascadeStore$Act", "table", "I", true)
  | 2 => ("CascadeStore$Act", "columns", "[I", true)
  | 3 => ("CascadeStore$Act", "sums", "[LCascadeStore$Formula;", true)
  | 4 => ("CascadeStore$Act", "size", "I", false)
  | 5 => ("CascadeStore$Act", "where", "LCascadeStore$Formula;", false)
  | _ => ("CascadeStore$Act", "number", "I", false)
def ty9 : Nat → FieldType := fun k => match k with
  | 0 => .int
  | 1 => .int
  | 2 => .array .int
  | 3 => .array (.object "CascadeStore$Formula")
  | 4 => .int
  | 5 => .object "CascadeStore$Formula"
  | _ => .int
theorem nm9 : ∀ a, a < 7 → ∀ b, b < 7 → a ≠ b → (T9 a).2.1 ≠ (T9 b).2.1 := by decide +kernel
theorem tk9 : ∀ k, k < 7 → parseFieldDescriptor (T9 k).2.2.1 = some (ty9 k) := by decide +kernel
set_option maxRecDepth 20000 in
theorem in9 : ∀ w ∈ u_ws R9 T9 7, w ∈ lw_tbl := pl_mem [(5, 222), (5, 224), (5, 226), (5, 228), (5, 230), (5, 232), (5, 234)] rfl
def R10 : String := "CascadeStore$Trigger"
def T10 : u_T := fun k => match k with
  | 0 => ("CascadeStore$Trigger", "name", "J", true)
  | 1 => ("CascadeStore$Trigger", "table", "I", true)
  | 2 => ("CascadeStore$Trigger", "time", "I", true)
  | 3 => ("CascadeStore$Trigger", "event", "I", true)
  | 4 => ("CascadeStore$Trigger", "when", "LCascadeStore$Formula;", true)
  | _ => ("CascadeStore$Trigger", "act", "LCascadeStore$Act;", true)
def ty10 : Nat → FieldType := fun k => match k with
  | 0 => .long
  | 1 => .int
  | 2 => .int
  | 3 => .int
  | 4 => .object "CascadeStore$Formula"
  | _ => .object "CascadeStore$Act"
theorem nm10 : ∀ a, a < 6 → ∀ b, b < 6 → a ≠ b → (T10 a).2.1 ≠ (T10 b).2.1 := by decide +kernel
theorem tk10 : ∀ k, k < 6 → parseFieldDescriptor (T10 k).2.2.1 = some (ty10 k) := by decide +kernel
set_option maxRecDepth 20000 in
theorem in10 : ∀ w ∈ u_ws R10 T10 6, w ∈ lw_tbl := pl_mem [(6, 48), (6, 50), (6, 52), (6, 54), (6, 56), (6, 58)] rfl
def R11 : String := "CascadeStoreModel"
def T11 : u_T := fun k => match k with
  | 0 => ("CascadeStoreModel", "thrown", "I", false)
  | 1 => ("CascadeStoreModel", "tape", "[I", true)
  | 2 => ("CascadeStoreModel", "tapeSize", "I", false)
  | 3 => ("CascadeStoreModel", "at", "I", false)
  | 4 => ("CascadeStoreModel", "token", "I", false)
  | 5 => ("CascadeStoreModel", "tokenAt", "I", false)
  | 6 => ("CascadeStoreModel", "tokenEnd", "I", false)
  | 7 => ("CascadeStoreModel", "tokenIs", "J", false)
  | 8 => ("CascadeStoreModel", "fault", "I", false)
  | 9 => ("CascadeStoreModel", "faultAt", "I", false)
  | 10 => ("CascadeStoreModel", "isTable", "[Z", true)
  | 11 => ("CascadeStoreModel", "tName", "[J", true)
  | 12 => ("CascadeStoreModel", "tColumns", "[I", true)
  | 13 => ("CascadeStoreModel", "cName", "[J", true)
  | 14 => ("CascadeStoreModel", "cDefault", "[J", true)
  | 15 => ("CascadeStoreModel", "isRule", "[Z", true)
  | 16 => ("CascadeStoreModel", "rKind", "[I", true)
  | 17 => ("CascadeStoreModel", "rTable", "[I", true)
  | 18 => ("CascadeStoreModel", "rTo", "[I", true)
  | 19 => ("CascadeStoreModel", "rMany", "[I", true)
  | 20 => ("CascadeStoreModel", "rColumn", "[I", true)
  | 21 => ("CascadeStoreModel", "rOther", "[I", true)
  | 22 => ("CascadeStoreModel", "rLate", "[Z", true)
  | 23 => ("CascadeStoreModel", "rWaits", "[Z", true)
  | 24 => ("CascadeStoreModel", "rDelete", "[I", true)
  | 25 => ("CascadeStoreModel", "rUpdate", "[I", true)
  | 26 => ("CascadeStoreModel", "rNodes", "[I", true)
  | 27 => ("CascadeStoreModel", "isTrigger", "[Z", true)
  | 28 => ("CascadeStoreModel", "gName", "[J", true)
  | 29 => ("CascadeStoreModel", "gTable", "[I", true)
  | 30 => ("CascadeStoreModel", "gTime", "[I", true)
  | 31 => ("CascadeStoreModel", "gEvent", "[I", true)
  | 32 => ("CascadeStoreModel", "gAct", "[I", true)
  | 33 => ("CascadeStoreModel", "gTo", "[I", true)
  | 34 => ("CascadeStoreModel", "gColumn", "[I", true)
  | 35 => ("CascadeStoreModel", "gNumber", "[J", true)
  | 36 => ("CascadeStoreModel", "gWhen", "[Z", true)
  | 37 => ("CascadeStoreModel", "gNodes", "[I", true)
  | 38 => ("CascadeStoreModel", "sWhat", "[I", true)
  | 39 => ("CascadeStoreModel", "sValue", "[J", true)
  | 40 => ("CascadeStoreModel", "place", "I", false)
  | 41 => ("CascadeStoreModel", "steps", "I", false)
  | 42 => ("CascadeStoreModel", "nodes", "I", false)
  | 43 => ("CascadeStoreModel", "kept", "I", false)
  | 44 => ("CascadeStoreModel", "keeps", "Z", false)
  | 45 => ("CascadeStoreModel", "open", "I", false)
  | 46 => ("CascadeStoreModel", "plainTable", "I", false)
  | 47 => ("CascadeStoreModel", "rowTable", "I", false)
  | 48 => ("CascadeStoreModel", "hasNew", "Z", false)
  | 49 => ("CascadeStoreModel", "hasOld", "Z", false)
  | 50 => ("CascadeStoreModel", "waits", "[I", true)
  | 51 => ("CascadeStoreModel", "waitSign", "[J", true)
  | 52 => ("CascadeStoreModel", "waiting", "I", false)
  | 53 => ("CascadeStoreModel", "hKind", "[I", true)
  | 54 => ("CascadeStoreModel", "hTable", "[I", true)
  | 55 => ("CascadeStoreModel", "hWhere", "[I", true)
  | 56 => ("CascadeStoreModel", "hSteps", "[I", true)
  | 57 => ("CascadeStoreModel", "newTable", "I", false)
  | 58 => ("CascadeStoreModel", "newRules", "I", false)
  | 59 => ("CascadeStoreModel", "newRule", "[I", true)
  | 60 => ("CascadeStoreModel", "newTrigger", "I", false)
  | 61 => ("CascadeStoreModel", "rowId", "[I", true)
  | 62 => ("CascadeStoreModel", "rowValue", "[J", true)
  | 63 => ("CascadeStoreModel", "rowCount", "[I", true)
  | 64 => ("CascadeStoreModel", "nextId", "[I", true)
  | 65 => ("CascadeStoreModel", "keptId", "[I", true)
  | 66 => ("CascadeStoreModel", "keptValue", "[J", true)
  | 67 => ("CascadeStoreModel", "keptCount", "[I", true)
  | 68 => ("CascadeStoreModel", "keptNext", "[I", true)
  | 69 => ("CascadeStoreModel", "inside", "Z", false)
  | 70 => ("CascadeStoreModel", "marks", "I", false)
  | 71 => ("CascadeStoreModel", "markName", "[J", true)
  | 72 => ("CascadeStoreModel", "pile", "[J", true)
  | 73 => ("CascadeStoreModel", "piled", "I", false)
  | 74 => ("CascadeStoreModel", "byZero", "Z", false)
  | 75 => ("CascadeStoreModel", "frames", "I", false)
  | 76 => ("CascadeStoreModel", "fSort", "[I", true)
  | 77 => ("CascadeStoreModel", "fPlace", "[I", true)
  | 78 => ("CascadeStoreModel", "fRow", "[I", true)
  | 79 => ("CascadeStoreModel", "fKind", "[I", true)
  | 80 => ("CascadeStoreModel", "fTable", "[I", true)
  | 81 => ("CascadeStoreModel", "fId", "[I", true)
  | 82 => ("CascadeStoreModel", "fPhase", "[I", true)
  | 83 => ("CascadeStoreModel", "fNext", "[I", true)
  | 84 => ("CascadeStoreModel", "fIds", "[I", true)
  | 85 => ("CascadeStoreModel", "fMany", "[I", true)
  | 86 => ("CascadeStoreModel", "fAt", "[I", true)
  | 87 => ("CascadeStoreModel", "fNew", "[J", true)
  | 88 => ("CascadeStoreModel", "fOld", "[J", true)
  | 89 => ("CascadeStoreModel", "ended", "I", false)
  | 90 => ("CascadeStoreModel", "brokenRule", "I", false)
  | 91 => ("CascadeStoreModel", "brokenRow", "I", false)
  | 92 => ("CascadeStoreModel", "raised", "J", false)
  | 93 => ("CascadeStoreModel", "begun", "I", false)
  | 94 => ("CascadeStoreModel", "depth", "I", false)
  | 95 => ("CascadeStoreModel", "deepest", "I", false)
  | 96 => ("CascadeStoreModel", "sums", "[J", true)
  | 97 => ("CascadeStoreModel", "statement", "I", false)
  | 98 => ("CascadeStoreModel", "which", "I", false)
  | 99 => ("CascadeStoreModel", "nameIs", "J", false)
  | 100 => ("CascadeStoreModel", "named", "[Z", true)
  | 101 => ("CascadeStoreModel", "difference", "I", false)
  | _ => ("CascadeStoreModel", "answer", "I", false)
def ty11 : Nat → FieldType := fun k => match k with
  | 0 => .int
  | 1 => .array .int
  | 2 => .int
  | 3 => .int
  | 4 => .int
  | 5 => .int
  | 6 => .int
  | 7 => .long
  | 8 => .int
  | 9 => .int
  | 10 => .array .boolean
  | 11 => .array .long
  | 12 => .array .int
  | 13 => .array .long
  | 14 => .array .long
  | 15 => .array .boolean
  | 16 => .array .int
  | 17 => .array .int
  | 18 => .array .int
  | 19 => .array .int
  | 20 => .array .int
  | 21 => .array .int
  | 22 => .array .boolean
  | 23 => .array .boolean
  | 24 => .array .int
  | 25 => .array .int
  | 26 => .array .int
  | 27 => .array .boolean
  | 28 => .array .long
  | 29 => .array .int
  | 30 => .array .int
  | 31 => .array .int
  | 32 => .array .int
  | 33 => .array .int
  | 34 => .array .int
  | 35 => .array .long
  | 36 => .array .boolean
  | 37 => .array .int
  | 38 => .array .int
  | 39 => .array .long
  | 40 => .int
  | 41 => .int
  | 42 => .int
  | 43 => .int
  | 44 => .boolean
  | 45 => .int
  | 46 => .int
  | 47 => .int
  | 48 => .boolean
  | 49 => .boolean
  | 50 => .array .int
  | 51 => .array .long
  | 52 => .int
  | 53 => .array .int
  | 54 => .array .int
  | 55 => .array .int
  | 56 => .array .int
  | 57 => .int
  | 58 => .int
  | 59 => .array .int
  | 60 => .int
  | 61 => .array .int
  | 62 => .array .long
  | 63 => .array .int
  | 64 => .array .int
  | 65 => .array .int
  | 66 => .array .long
  | 67 => .array .int
  | 68 => .array .int
  | 69 => .boolean
  | 70 => .int
  | 71 => .array .long
  | 72 => .array .long
  | 73 => .int
  | 74 => .boolean
  | 75 => .int
  | 76 => .array .int
  | 77 => .array .int
  | 78 => .array .int
  | 79 => .array .int
  | 80 => .array .int
  | 81 => .array .int
  | 82 => .array .int
  | 83 => .array .int
  | 84 => .array .int
  | 85 => .array .int
  | 86 => .array .int
  | 87 => .array .long
  | 88 => .array .long
  | 89 => .int
  | 90 => .int
  | 91 => .int
  | 92 => .long
  | 93 => .int
  | 94 => .int
  | 95 => .int
  | 96 => .array .long
  | 97 => .int
  | 98 => .int
  | 99 => .long
  | 100 => .array .boolean
  | 101 => .int
  | _ => .int
theorem nm11 : ∀ a, a < 103 → ∀ b, b < 103 → a ≠ b → (T11 a).2.1 ≠ (T11 b).2.1 := by decide +kernel
theorem tk11 : ∀ k, k < 103 → parseFieldDescriptor (T11 k).2.2.1 = some (ty11 k) := by decide +kernel
set_option maxRecDepth 20000 in
theorem in11 : ∀ w ∈ u_ws R11 T11 103, w ∈ lw_tbl := pl_mem [(8, 146), (8, 148), (8, 150), (8, 152), (8, 154), (8, 156), (8, 158), (8, 160), (8, 162), (8, 164), (8, 166), (8, 168), (8, 170), (8, 172), (8, 174), (8, 176), (8, 178), (8, 180), (8, 182), (8, 184), (8, 186), (8, 188), (8, 190), (8, 192), (8, 194), (8, 196), (8, 198), (8, 200), (8, 202), (8, 204), (8, 206), (8, 208), (8, 210), (8, 212), (8, 214), (8, 216), (8, 218), (8, 220), (8, 222), (8, 224), (8, 226), (8, 228), (8, 230), (8, 232), (8, 234), (8, 236), (8, 238), (9, 0), (9, 2), (9, 4), (9, 6), (9, 8), (9, 10), (9, 12), (9, 14), (9, 16), (9, 18), (9, 20), (9, 22), (9, 24), (9, 26), (9, 28), (9, 30), (9, 32), (9, 34), (9, 36), (9, 38), (9, 40), (9, 42), (9, 44), (9, 46), (9, 48), (9, 50), (9, 52), (9, 54), (9, 56), (9, 58), (9, 60), (9, 62), (9, 64), (9, 66), (9, 68), (9, 70), (9, 72), (9, 74), (9, 76), (9, 78), (9, 80), (9, 82), (9, 84), (9, 86), (9, 88), (9, 90), (9, 92), (9, 94), (9, 96), (9, 98), (9, 100), (9, 102), (9, 104), (9, 106), (9, 108), (9, 110)] rfl
def R12 : String := "java/lang/IllegalStateException"
def T12 : u_T := fun k => match k with
  | _ => ("", "", "", false)
def ty12 : Nat → FieldType := fun k => match k with
  | _ => .int
theorem nm12 : ∀ a, a < 0 → ∀ b, b < 0 → a ≠ b → (T12 a).2.1 ≠ (T12 b).2.1 := by decide +kernel
theorem tk12 : ∀ k, k < 0 → parseFieldDescriptor (T12 k).2.2.1 = some (ty12 k) := by decide +kernel
set_option maxRecDepth 20000 in
theorem in12 : ∀ w ∈ u_ws R12 T12 0, w ∈ lw_tbl := pl_mem [] rfl
def R13 : String := "java/lang/IllegalArgumentException"
def T13 : u_T := fun k => match k with
  | _ => ("", "", "", false)
def ty13 : Nat → FieldType := fun k => match k with
  | _ => .int
theorem nm13 : ∀ a, a < 0 → ∀ b, b < 0 → a ≠ b → (T13 a).2.1 ≠ (T13 b).2.1 := by decide +kernel
theorem tk13 : ∀ k, k < 0 → parseFieldDescriptor (T13 k).2.2.1 = some (ty13 k) := by decide +kernel
set_option maxRecDepth 20000 in
theorem in13 : ∀ w ∈ u_ws R13 T13 0, w ∈ lw_tbl := pl_mem [] rfl
def R14 : String := "java/lang/IndexOutOfBoundsException"
def T14 : u_T := fun k => match k with
  | _ => ("", "", "", false)
def ty14 : Nat → FieldType := fun k => match k with
  | _ => .int
theorem nm14 : ∀ a, a < 0 → ∀ b, b < 0 → a ≠ b → (T14 a).2.1 ≠ (T14 b).2.1 := by decide +kernel
theorem tk14 : ∀ k, k < 0 → parseFieldDescriptor (T14 k).2.2.1 = some (ty14 k) := by decide +kernel
set_option maxRecDepth 20000 in
theorem in14 : ∀ w ∈ u_ws R14 T14 0, w ∈ lw_tbl := pl_mem [] rfl
abbrev cls : List vw_C := [(R0, T0, 5), (R1, T1, 11), (R2, T2, 13), (R3, T3, 4), (R4, T4, 11), (R5, T5, 11), (R6, T6, 12), (R7, T7, 10), (R8, T8, 4), (R9, T9, 7), (R10, T10, 6), (R11, T11, 103), (R12, T12, 0), (R13, T13, 0), (R14, T14, 0)]
def own : List String := ["CascadeStore", "CascadeStore$Tape", "CascadeStore$Store", "CascadeStore$Rows", "CascadeStore$StatementReader", "CascadeStore$FormulaReader", "CascadeStore$Engine", "CascadeStore$Rule", "CascadeStore$Formula", "CascadeStore$Act", "CascadeStore$Trigger", "CascadeStoreModel", "x", "x", "x", "CascadeStore$Token", "CascadeStoreLaw", "java/util/Arrays", "java/lang/Enum"]
/-- the methods: name, code, locals, what it answers, its table of exceptions -/
abbrev mt_T : Type := MethodName × ByteArray × Nat × Option FieldType × List (Nat × Nat × Nat × Nat)
def mt_word (q : mt_T) : Cond := match q.2.2.2.2 with
  | [] => .code q.1 q.2.1 q.2.2.1 q.2.2.2.1
  | hh => .codeWith q.1 q.2.1 q.2.2.1 q.2.2.2.1 hh
def mt_0 : List mt_T := [(⟨"CascadeStore", "<init>", "()V"⟩, prog_1_method_1_code, 1, none, []),
  (⟨"CascadeStore$Tape", "<init>", "()V"⟩, prog_11_method_1_code, 1, none, []),
  (⟨"CascadeStore$Store", "<init>", "()V"⟩, prog_10_method_1_code, 1, none, []),
  (⟨"CascadeStore$Rows", "<init>", "()V"⟩, prog_7_method_1_code, 1, none, []),
  (⟨"CascadeStore$StatementReader", "<init>", "(LCascadeStore$Tape;LCascadeStore$Store;)V"⟩, prog_9_method_1_code, 3, none, []),
  (⟨"CascadeStore$FormulaReader", "<init>", "(LCascadeStore$Tape;LCascadeStore$Store;)V"⟩, prog_6_method_1_code, 3, none, []),
  (⟨"CascadeStore$Engine", "<init>", "(LCascadeStore$Store;)V"⟩, prog_4_method_1_code, 2, none, []),
  (⟨"java/util/Arrays", "fill", "([IIII)V"⟩, prog_33_method_104_code, 5, none, []),
  (⟨"java/util/Arrays", "rangeCheck", "(III)V"⟩, prog_33_method_30_code, 3, none, []),
  (⟨"CascadeStore", "run", "()I"⟩, prog_1_method_3_code, 4, (some .int), [(20, 29, 32, 64)]),
  (⟨"CascadeStore$Rows", "total", "()I"⟩, prog_7_method_3_code, 3, (some .int), []),
  (⟨"CascadeStore$Engine", "startAnew", "()V"⟩, prog_4_method_2_code, 1, none, []),
  (⟨"CascadeStore$StatementReader", "read", "()V"⟩, prog_9_method_3_code, 1, none, []),
  (⟨"CascadeStore$Tape", "scan", "()V"⟩, prog_11_method_3_code, 5, none, []),
  (⟨"CascadeStore$Tape", "behindBlanks", "(I)I"⟩, prog_11_method_8_code, 3, (some .int), []),
  (⟨"CascadeStore$Tape", "behindToken", "(I)I"⟩, prog_11_method_9_code, 3, (some .int), []),
  (⟨"CascadeStore$Tape", "isLetter", "(I)Z"⟩, prog_11_method_12_code, 2, (some .boolean), []),
  (⟨"CascadeStore$Tape", "isFigure", "(I)Z"⟩, prog_11_method_13_code, 2, (some .boolean), []),
  (⟨"CascadeStore$Tape", "valueOf", "(II)J"⟩, prog_11_method_10_code, 7, (some .long), []),
  (⟨"CascadeStore$Tape", "kindOf", "(IIJ)LCascadeStore$Token;"⟩, prog_11_method_11_code, 6, (some (.object "CascadeStore$Token")), []),
  (⟨"CascadeStore$Token", "spelt", "(J)LCascadeStore$Token;"⟩, prog_12_method_4_code, 3, (some (.object "CascadeStore$Token")), []),
  (⟨"CascadeStore$Tape", "next", "()V"⟩, prog_11_method_4_code, 1, none, []),
  (⟨"CascadeStore$FormulaReader", "startStatement", "(Z)V"⟩, prog_6_method_2_code, 2, none, []),
  (⟨"CascadeStore$Store", "nodes", "()I"⟩, prog_10_method_18_code, 3, (some .int), []),
  (⟨"CascadeStore$Rule", "nodes", "()I"⟩, prog_8_method_3_code, 1, (some .int), []),
  (⟨"CascadeStore$Formula", "nodes", "()I"⟩, prog_5_method_2_code, 1, (some .int), []),
  (⟨"CascadeStore$Trigger", "nodes", "()I"⟩, prog_13_method_2_code, 1, (some .int), []),
  (⟨"CascadeStore$Act", "nodes", "()I"⟩, prog_3_method_2_code, 3, (some .int), []),
  (⟨"java/lang/Enum", "ordinal", "()I"⟩, prog_19_method_2_code, 1, (some .int), []),
  (⟨"CascadeStore$StatementReader", "readTable", "()V"⟩, prog_9_method_4_code, 4, none, []),
  (⟨"CascadeStore$StatementReader", "readNewName", "(LCascadeStore$Token;)J"⟩, prog_9_method_5_code, 5, (some .long), []),
  (⟨"CascadeStore$Tape", "refuse", "(I)V"⟩, prog_11_method_7_code, 2, none, []),
  (⟨"CascadeStore$Store", "tableNamed", "(J)I"⟩, prog_10_method_8_code, 4, (some .int), []),
  (⟨"CascadeStore$Store", "hasTable", "(I)Z"⟩, prog_10_method_3_code, 2, (some .boolean), []),
  (⟨"CascadeStore$Store", "triggerNamed", "(J)I"⟩, prog_10_method_10_code, 4, (some .int), []),
  (⟨"CascadeStore$Store", "freeTable", "()I"⟩, prog_10_method_12_code, 2, (some .int), []),
  (⟨"CascadeStore$Store", "freeTrigger", "()I"⟩, prog_10_method_14_code, 2, (some .int), []),
  (⟨"CascadeStore$Store", "addTable", "(J)I"⟩, prog_10_method_19_code, 4, (some .int), []),
  (⟨"CascadeStore$Tape", "expect", "(LCascadeStore$Token;)V"⟩, prog_11_method_6_code, 2, none, []),
  (⟨"CascadeStore$StatementReader", "readItem", "()V"⟩, prog_9_method_6_code, 2, none, [])]
set_option maxRecDepth 40000 in
theorem mt_0_in : ∀ q ∈ mt_0, mt_word q ∈ lw_tbl := pl_all [(1, 38), (1, 46), (1, 98), (1, 108), (1, 182), (1, 188), (2, 33), (2, 85), (2, 88), (3, 197), (3, 202), (3, 206), (3, 210), (3, 214), (3, 224), (3, 228), (3, 232), (3, 236), (4, 0), (4, 6), (4, 11), (4, 18), (4, 26), (4, 30), (4, 34), (4, 38), (4, 42), (4, 47), (4, 56), (4, 60), (4, 65), (4, 70), (4, 90), (4, 94), (4, 98), (4, 102), (4, 106), (4, 110), (4, 117), (4, 122)] rfl
def mt_1 : List mt_T := [(⟨"CascadeStore$StatementReader", "readNewColumn", "()V"⟩, prog_9_method_7_code, 3, none, []),
  (⟨"CascadeStore$Store", "columnNamed", "(IJ)I"⟩, prog_10_method_9_code, 5, (some .int), []),
  (⟨"CascadeStore$Store", "addColumn", "(IJ)I"⟩, prog_10_method_20_code, 5, (some .int), []),
  (⟨"CascadeStore$Store", "widthOf", "(I)I"⟩, prog_10_method_5_code, 2, (some .int), []),
  (⟨"CascadeStore$Tape", "skip", "(LCascadeStore$Token;)Z"⟩, prog_11_method_5_code, 2, (some .boolean), []),
  (⟨"CascadeStore$StatementReader", "readInt", "()J"⟩, prog_9_method_8_code, 4, (some .long), []),
  (⟨"CascadeStore$Store", "setDefault", "(IIJ)V"⟩, prog_10_method_21_code, 5, none, []),
  (⟨"CascadeStore$Store", "hasColumn", "(II)Z"⟩, prog_10_method_4_code, 3, (some .boolean), []),
  (⟨"CascadeStore$StatementReader", "addRule", "(I)LCascadeStore$Rule;"⟩, prog_9_method_9_code, 3, (some (.object "CascadeStore$Rule")), []),
  (⟨"CascadeStore$Store", "freeRule", "()I"⟩, prog_10_method_13_code, 2, (some .int), []),
  (⟨"CascadeStore$Store", "addRule", "(III)LCascadeStore$Rule;"⟩, prog_10_method_23_code, 5, (some (.object "CascadeStore$Rule")), []),
  (⟨"CascadeStore$Rule", "<init>", "(II)V"⟩, prog_8_method_1_code, 3, none, []),
  (⟨"CascadeStore$StatementReader", "readKey", "(I)V"⟩, prog_9_method_10_code, 3, none, []),
  (⟨"CascadeStore$StatementReader", "readNames", "(I[I)I"⟩, prog_9_method_13_code, 6, (some .int), []),
  (⟨"CascadeStore$StatementReader", "readColumnName", "(I[II)I"⟩, prog_9_method_14_code, 6, (some .int), []),
  (⟨"CascadeStore$FormulaReader", "wholeTest", "()LCascadeStore$Formula;"⟩, prog_6_method_3_code, 1, (some (.object "CascadeStore$Formula")), []),
  (⟨"CascadeStore$FormulaReader", "readTest", "()V"⟩, prog_6_method_6_code, 2, none, []),
  (⟨"CascadeStore$FormulaReader", "readBoth", "()V"⟩, prog_6_method_7_code, 2, none, []),
  (⟨"CascadeStore$FormulaReader", "readUnit", "()V"⟩, prog_6_method_8_code, 2, none, []),
  (⟨"CascadeStore$FormulaReader", "goIn", "()V"⟩, prog_6_method_17_code, 1, none, []),
  (⟨"CascadeStore$FormulaReader", "spendNode", "()V"⟩, prog_6_method_18_code, 1, none, []),
  (⟨"CascadeStore$FormulaReader", "emit", "(II)V"⟩, prog_6_method_19_code, 3, none, []),
  (⟨"CascadeStore$FormulaReader", "readSum", "()V"⟩, prog_6_method_11_code, 3, none, []),
  (⟨"CascadeStore$FormulaReader", "readTerm", "()V"⟩, prog_6_method_12_code, 3, none, []),
  (⟨"CascadeStore$FormulaReader", "readFactor", "()V"⟩, prog_6_method_13_code, 3, none, []),
  (⟨"CascadeStore$FormulaReader", "columnOf", "(I)I"⟩, prog_6_method_16_code, 3, (some .int), []),
  (⟨"CascadeStore$FormulaReader", "refuseWithoutRow", "(I)V"⟩, prog_6_method_15_code, 2, none, []),
  (⟨"CascadeStore$FormulaReader", "readInner", "()V"⟩, prog_6_method_14_code, 1, none, []),
  (⟨"CascadeStore$FormulaReader", "comparisonMeant", "()I"⟩, prog_6_method_10_code, 1, (some .int), []),
  (⟨"CascadeStore$FormulaReader", "readNullOrSome", "()V"⟩, prog_6_method_9_code, 2, none, []),
  (⟨"CascadeStore$FormulaReader", "built", "()LCascadeStore$Formula;"⟩, prog_6_method_5_code, 2, (some (.object "CascadeStore$Formula")), []),
  (⟨"java/util/Arrays", "copyOf", "([II)[I"⟩, prog_33_method_123_code, 3, (some (.array .int)), []),
  (⟨"CascadeStore$Formula", "<init>", "([I[IZ)V"⟩, prog_5_method_1_code, 4, none, []),
  (⟨"CascadeStore$StatementReader", "readRefer", "()V"⟩, prog_9_method_11_code, 3, none, []),
  (⟨"CascadeStore$StatementReader", "readTableName", "()I"⟩, prog_9_method_15_code, 2, (some .int), []),
  (⟨"CascadeStore$Store", "isKey", "(I[II)Z"⟩, prog_10_method_26_code, 5, (some .boolean), []),
  (⟨"CascadeStore$Rule", "isKeyOf", "([II)Z"⟩, prog_8_method_4_code, 4, (some .boolean), []),
  (⟨"CascadeStore$StatementReader", "readAction", "()I"⟩, prog_9_method_12_code, 2, (some .int), []),
  (⟨"CascadeStore$StatementReader", "readTrigger", "()V"⟩, prog_9_method_16_code, 8, none, []),
  (⟨"CascadeStore$StatementReader", "readEvent", "()I"⟩, prog_9_method_17_code, 2, (some .int), [])]
set_option maxRecDepth 40000 in
theorem mt_1_in : ∀ q ∈ mt_1, mt_word q ∈ lw_tbl := pl_all [(4, 126), (4, 130), (4, 134), (4, 138), (4, 145), (4, 149), (4, 156), (4, 160), (4, 166), (4, 170), (4, 174), (4, 178), (4, 235), (4, 239), (5, 3), (5, 13), (5, 17), (5, 21), (5, 25), (5, 31), (5, 36), (5, 41), (5, 50), (5, 54), (5, 58), (5, 64), (5, 72), (5, 78), (5, 91), (5, 95), (5, 108), (5, 115), (5, 123), (5, 141), (5, 147), (5, 151), (5, 155), (5, 161), (5, 168), (5, 176)] rfl
def mt_2 : List mt_T := [(⟨"CascadeStore$StatementReader", "eventMeant", "()I"⟩, prog_9_method_18_code, 1, (some .int), []),
  (⟨"CascadeStore$StatementReader", "readLet", "(III)LCascadeStore$Act;"⟩, prog_9_method_19_code, 5, (some (.object "CascadeStore$Act")), []),
  (⟨"CascadeStore$Act", "<init>", "(II)V"⟩, prog_3_method_1_code, 3, none, []),
  (⟨"CascadeStore$FormulaReader", "wholeSum", "()LCascadeStore$Formula;"⟩, prog_6_method_4_code, 1, (some (.object "CascadeStore$Formula")), []),
  (⟨"CascadeStore$StatementReader", "readRaise", "()LCascadeStore$Act;"⟩, prog_9_method_20_code, 2, (some (.object "CascadeStore$Act")), []),
  (⟨"CascadeStore$StatementReader", "readChange", "()LCascadeStore$Act;"⟩, prog_9_method_21_code, 3, (some (.object "CascadeStore$Act")), []),
  (⟨"CascadeStore$StatementReader", "readParts", "(LCascadeStore$Act;)V"⟩, prog_9_method_22_code, 6, none, []),
  (⟨"CascadeStore$StatementReader", "readSettings", "(LCascadeStore$Act;)V"⟩, prog_9_method_23_code, 4, none, []),
  (⟨"CascadeStore$Trigger", "<init>", "(JIIILCascadeStore$Formula;LCascadeStore$Act;)V"⟩, prog_13_method_1_code, 8, none, []),
  (⟨"CascadeStore$StatementReader", "readDrop", "()V"⟩, prog_9_method_24_code, 1, none, []),
  (⟨"CascadeStore$StatementReader", "readNameThere", "()V"⟩, prog_9_method_26_code, 1, none, []),
  (⟨"CascadeStore$StatementReader", "readBack", "()V"⟩, prog_9_method_25_code, 1, none, []),
  (⟨"CascadeStore$Store", "markNamed", "(J)I"⟩, prog_10_method_11_code, 4, (some .int), []),
  (⟨"CascadeStore$StatementReader", "readMark", "()V"⟩, prog_9_method_27_code, 1, none, []),
  (⟨"CascadeStore$StatementReader", "readWhich", "()V"⟩, prog_9_method_28_code, 3, none, []),
  (⟨"CascadeStore$StatementReader", "readRuleNumber", "()V"⟩, prog_9_method_29_code, 3, none, []),
  (⟨"CascadeStore$Store", "ruleAt", "(I)LCascadeStore$Rule;"⟩, prog_10_method_6_code, 2, (some (.object "CascadeStore$Rule")), []),
  (⟨"CascadeStore$StatementReader", "undo", "()V"⟩, prog_9_method_2_code, 1, none, []),
  (⟨"CascadeStore$Store", "dropTable", "(I)V"⟩, prog_10_method_28_code, 3, none, []),
  (⟨"CascadeStore$Rows", "empty", "(I)V"⟩, prog_7_method_15_code, 2, none, []),
  (⟨"CascadeStore", "carryOut", "()I"⟩, prog_1_method_14_code, 1, (some .int), []),
  (⟨"CascadeStore", "isPossible", "()Z"⟩, prog_1_method_13_code, 1, (some .boolean), []),
  (⟨"CascadeStore$Store", "isFreeToGo", "(I)Z"⟩, prog_10_method_27_code, 3, (some .boolean), []),
  (⟨"CascadeStore$Store", "addTrigger", "(ILCascadeStore$Trigger;)V"⟩, prog_10_method_24_code, 3, none, []),
  (⟨"CascadeStore$Store", "dropTrigger", "(I)V"⟩, prog_10_method_25_code, 2, none, []),
  (⟨"CascadeStore$Engine", "change", "(LCascadeStore$Act;)I"⟩, prog_4_method_3_code, 3, (some .int), [(11, 17, 20, 56)]),
  (⟨"CascadeStore$Rows", "copyFrom", "(LCascadeStore$Rows;)V"⟩, prog_7_method_14_code, 5, none, []),
  (⟨"CascadeStore$Rows", "sizeOf", "(I)I"⟩, prog_7_method_4_code, 2, (some .int), []),
  (⟨"CascadeStore$Rows", "placeOf", "(II)I"⟩, prog_7_method_2_code, 2, (some .int), []),
  (⟨"CascadeStore$Engine", "perform", "(LCascadeStore$Act;I)V"⟩, prog_4_method_6_code, 4, none, []),
  (⟨"CascadeStore$Store", "defaultOf", "(II)J"⟩, prog_10_method_22_code, 3, (some .long), []),
  (⟨"CascadeStore$Engine", "worked", "(LCascadeStore$Formula;II)J"⟩, prog_4_method_9_code, 6, (some .long), []),
  (⟨"CascadeStore$Formula", "work", "([JI[J[J)J"⟩, prog_5_method_3_code, 8, (some .long), []),
  (⟨"CascadeStore$Formula", "leaf", "(II[JI[J[J)J"⟩, prog_5_method_4_code, 7, (some .long), []),
  (⟨"CascadeStore$Formula", "element", "([JI)J"⟩, prog_5_method_5_code, 2, (some .long), []),
  (⟨"CascadeStore$Formula", "ofOne", "(IJ)J"⟩, prog_5_method_6_code, 3, (some .long), []),
  (⟨"CascadeStore$Formula", "ofTwo", "(IJJ)J"⟩, prog_5_method_7_code, 6, (some .long), []),
  (⟨"CascadeStore$Formula", "compared", "(IJJ)Z"⟩, prog_5_method_8_code, 5, (some .boolean), []),
  (⟨"CascadeStore$Formula", "reckoned", "(IJJ)J"⟩, prog_5_method_9_code, 6, (some .long), []),
  (⟨"CascadeStore$Engine", "stop", "(I)V"⟩, prog_4_method_5_code, 2, none, [])]
set_option maxRecDepth 40000 in
theorem mt_2_in : ∀ q ∈ mt_2, mt_word q ∈ lw_tbl := pl_all [(5, 180), (5, 192), (5, 197), (6, 2), (6, 8), (6, 12), (6, 16), (6, 21), (6, 30), (6, 64), (6, 68), (6, 72), (6, 76), (6, 80), (6, 84), (6, 90), (6, 94), (6, 99), (6, 103), (6, 107), (6, 111), (6, 115), (6, 122), (6, 126), (6, 131), (6, 135), (6, 140), (6, 144), (6, 148), (6, 153), (6, 157), (6, 161), (6, 166), (6, 171), (6, 174), (6, 177), (6, 182), (6, 188), (6, 192), (6, 198)] rfl
def mt_3 : List mt_T := [(⟨"CascadeStore$Engine", "insertRow", "(II)V"⟩, prog_4_method_12_code, 3, none, []),
  (⟨"CascadeStore$Engine", "beginStep", "(I)V"⟩, prog_4_method_11_code, 2, none, []),
  (⟨"CascadeStore$Engine", "fire", "(IIII)V"⟩, prog_4_method_15_code, 7, none, []),
  (⟨"CascadeStore$Store", "triggerAt", "(I)LCascadeStore$Trigger;"⟩, prog_10_method_7_code, 2, (some (.object "CascadeStore$Trigger")), []),
  (⟨"CascadeStore$Trigger", "isFor", "(III)Z"⟩, prog_13_method_3_code, 4, (some .boolean), []),
  (⟨"CascadeStore$Engine", "isYes", "(LCascadeStore$Formula;II)Z"⟩, prog_4_method_10_code, 4, (some .boolean), []),
  (⟨"CascadeStore$Rows", "isFull", "(I)Z"⟩, prog_7_method_9_code, 2, (some .boolean), []),
  (⟨"CascadeStore$Rows", "append", "(I[J)V"⟩, prog_7_method_10_code, 4, none, []),
  (⟨"CascadeStore$Rows", "write", "(II[J)V"⟩, prog_7_method_11_code, 4, none, []),
  (⟨"CascadeStore$Rows", "hasRow", "(II)Z"⟩, prog_7_method_5_code, 3, (some .boolean), []),
  (⟨"CascadeStore$Engine", "changeFound", "(LCascadeStore$Act;I)V"⟩, prog_4_method_7_code, 7, none, []),
  (⟨"CascadeStore$Rows", "rowId", "(II)I"⟩, prog_7_method_6_code, 3, (some .int), []),
  (⟨"CascadeStore$Rows", "rowWith", "(II)I"⟩, prog_7_method_8_code, 4, (some .int), []),
  (⟨"CascadeStore$Rows", "load", "(II[J)V"⟩, prog_7_method_12_code, 4, none, []),
  (⟨"CascadeStore$Engine", "deleteRow", "(III)V"⟩, prog_4_method_14_code, 5, none, []),
  (⟨"CascadeStore$Rows", "remove", "(II)V"⟩, prog_7_method_13_code, 5, none, []),
  (⟨"CascadeStore$Engine", "follow", "(IIII)V"⟩, prog_4_method_16_code, 8, none, []),
  (⟨"CascadeStore$Rule", "isTouched", "([J[J)Z"⟩, prog_8_method_8_code, 6, (some .boolean), []),
  (⟨"CascadeStore$Engine", "followRule", "(ILCascadeStore$Rule;IIII)V"⟩, prog_4_method_17_code, 11, none, []),
  (⟨"CascadeStore$Rule", "isReferring", "(LCascadeStore$Rows;I[J)Z"⟩, prog_8_method_9_code, 6, (some .boolean), []),
  (⟨"CascadeStore$Rows", "cell", "(III)J"⟩, prog_7_method_7_code, 4, (some .long), []),
  (⟨"CascadeStore$Engine", "setReferring", "(LCascadeStore$Rule;II)V"⟩, prog_4_method_18_code, 7, none, []),
  (⟨"CascadeStore$Engine", "put", "([JIJ)V"⟩, prog_4_method_19_code, 4, none, []),
  (⟨"CascadeStore$Engine", "updateRow", "(III)V"⟩, prog_4_method_13_code, 5, none, []),
  (⟨"CascadeStore$Engine", "setColumns", "(LCascadeStore$Act;II)V"⟩, prog_4_method_8_code, 5, none, []),
  (⟨"CascadeStore$Engine", "look", "(I)I"⟩, prog_4_method_4_code, 5, (some .int), []),
  (⟨"CascadeStore$Rule", "firstBreaker", "(LCascadeStore$Rows;)I"⟩, prog_8_method_5_code, 4, (some .int), []),
  (⟨"CascadeStore$Rule", "hasNull", "(LCascadeStore$Rows;I)Z"⟩, prog_8_method_6_code, 4, (some .boolean), []),
  (⟨"CascadeStore$Rule", "isThere", "(LCascadeStore$Rows;II[II)Z"⟩, prog_8_method_7_code, 9, (some .boolean), []),
  (⟨"CascadeStore$Store", "begin", "()V"⟩, prog_10_method_30_code, 1, none, []),
  (⟨"CascadeStore$Store", "rulesThatMayWait", "()I"⟩, prog_10_method_29_code, 3, (some .int), []),
  (⟨"CascadeStore$Store", "copyInto", "(LCascadeStore$Rows;)LCascadeStore$Rows;"⟩, prog_10_method_37_code, 3, (some (.object "CascadeStore$Rows")), []),
  (⟨"CascadeStore$Store", "afterCommit", "(I)I"⟩, prog_10_method_32_code, 2, (some .int), []),
  (⟨"CascadeStore$Store", "endTransaction", "()V"⟩, prog_10_method_34_code, 1, none, []),
  (⟨"CascadeStore$Store", "back", "()V"⟩, prog_10_method_31_code, 1, none, []),
  (⟨"CascadeStore$Store", "backTo", "(I)V"⟩, prog_10_method_36_code, 2, none, []),
  (⟨"CascadeStore$Store", "addMark", "(J)V"⟩, prog_10_method_35_code, 6, none, []),
  (⟨"CascadeStore$Store", "afterNow", "(II)I"⟩, prog_10_method_33_code, 3, (some .int), []),
  (⟨"CascadeStore", "note", "(II)V"⟩, prog_1_method_15_code, 3, none, []),
  (⟨"CascadeStore", "clear", "()V"⟩, prog_1_method_12_code, 1, none, [])]
set_option maxRecDepth 40000 in
theorem mt_3_in : ∀ q ∈ mt_3, mt_word q ∈ lw_tbl := pl_all [(6, 204), (6, 208), (6, 213), (6, 217), (6, 221), (6, 225), (6, 229), (6, 233), (6, 238), (7, 2), (7, 6), (7, 12), (7, 16), (7, 21), (7, 25), (7, 29), (7, 33), (7, 38), (7, 43), (7, 47), (7, 51), (7, 56), (7, 60), (7, 64), (7, 69), (7, 73), (7, 77), (7, 82), (7, 86), (7, 93), (7, 97), (7, 101), (7, 107), (7, 111), (7, 115), (7, 120), (7, 124), (7, 130), (7, 134), (7, 138)] rfl
def mt_4 : List mt_T := [(⟨"CascadeStore$Store", "reset", "()V"⟩, prog_10_method_2_code, 2, none, []),
  (⟨"java/util/Arrays", "fill", "([II)V"⟩, prog_33_method_103_code, 4, none, []),
  (⟨"CascadeStoreLaw", "feed", "(LCascadeStore;JI[J)I"⟩, method_3_code, 6, (some .int), [(0, 11, 14, 13), (0, 11, 18, 15)]),
  (⟨"CascadeStore", "feed", "(JI)I"⟩, prog_1_method_2_code, 4, (some .int), []),
  (⟨"CascadeStore$Tape", "append", "(JI)V"⟩, prog_11_method_2_code, 5, none, []),
  (⟨"CascadeStoreLaw", "told", "(LCascadeStore;I[J)I"⟩, method_4_code, 4, (some .int), [(0, 9, 12, 13)]),
  (⟨"CascadeStore", "told", "(I)I"⟩, prog_1_method_4_code, 2, (some .int), []),
  (⟨"CascadeStoreLaw", "count", "(LCascadeStore;I[J)I"⟩, method_5_code, 4, (some .int), [(0, 9, 12, 13)]),
  (⟨"CascadeStore", "count", "(I)I"⟩, prog_1_method_5_code, 2, (some .int), []),
  (⟨"CascadeStore$Store", "tablesThere", "()I"⟩, prog_10_method_15_code, 3, (some .int), []),
  (⟨"CascadeStore$Store", "rulesThere", "()I"⟩, prog_10_method_16_code, 3, (some .int), []),
  (⟨"CascadeStore$Store", "triggersThere", "()I"⟩, prog_10_method_17_code, 3, (some .int), []),
  (⟨"CascadeStoreLaw", "find", "(LCascadeStore;IJ[J)I"⟩, method_6_code, 6, (some .int), [(0, 11, 14, 13)]),
  (⟨"CascadeStore", "find", "(IJ)I"⟩, prog_1_method_6_code, 4, (some .int), []),
  (⟨"CascadeStoreLaw", "table", "(LCascadeStore;II[J)I"⟩, method_7_code, 5, (some .int), [(0, 9, 12, 32), (0, 9, 16, 13)]),
  (⟨"CascadeStore", "table", "(II)J"⟩, prog_1_method_7_code, 3, (some .long), []),
  (⟨"CascadeStoreLaw", "value", "(LCascadeStore;III[J)I"⟩, method_8_code, 6, (some .int), [(0, 11, 14, 32)]),
  (⟨"CascadeStore", "value", "(III)J"⟩, prog_1_method_8_code, 4, (some .long), []),
  (⟨"CascadeStoreLaw", "rule", "(LCascadeStore;II[J)I"⟩, method_9_code, 5, (some .int), [(0, 10, 13, 32), (0, 10, 17, 13)]),
  (⟨"CascadeStore", "rule", "(II)I"⟩, prog_1_method_9_code, 4, (some .int), []),
  (⟨"CascadeStore$Rule", "columnBits", "()I"⟩, prog_8_method_2_code, 3, (some .int), []),
  (⟨"CascadeStoreLaw", "trigger", "(LCascadeStore;II[J)I"⟩, method_10_code, 5, (some .int), [(0, 9, 12, 32), (0, 9, 16, 13)]),
  (⟨"CascadeStore", "trigger", "(II)J"⟩, prog_1_method_10_code, 4, (some .long), []),
  (⟨"CascadeStoreLaw", "broken", "(LCascadeStore;I[J)I"⟩, method_11_code, 4, (some .int), [(0, 9, 12, 32)]),
  (⟨"CascadeStore", "broken", "(I)I"⟩, prog_1_method_11_code, 3, (some .int), []),
  (⟨"CascadeStoreModel", "<init>", "()V"⟩, prog_15_method_1_code, 1, none, []),
  (⟨"CascadeStoreModel", "clearAll", "()V"⟩, prog_15_method_110_code, 2, none, []),
  (⟨"CascadeStoreModel", "thrown", "()I"⟩, prog_15_method_2_code, 1, (some .int), []),
  (⟨"CascadeStoreModel", "feed", "(JI)I"⟩, prog_15_method_5_code, 5, (some .int), []),
  (⟨"CascadeStoreModel", "isIn", "(JJJ)Z"⟩, prog_15_method_3_code, 6, (some .boolean), []),
  (⟨"CascadeStoreModel", "may", "(ZZ)Z"⟩, prog_15_method_4_code, 3, (some .boolean), []),
  (⟨"CascadeStoreModel", "run", "()I"⟩, prog_15_method_101_code, 2, (some .int), []),
  (⟨"CascadeStoreModel", "rows", "()I"⟩, prog_15_method_57_code, 3, (some .int), []),
  (⟨"CascadeStoreModel", "readStatement", "()V"⟩, prog_15_method_91_code, 1, none, []),
  (⟨"CascadeStoreModel", "countNodes", "()I"⟩, prog_15_method_92_code, 3, (some .int), []),
  (⟨"CascadeStoreModel", "next", "()V"⟩, prog_15_method_15_code, 3, none, []),
  (⟨"CascadeStoreModel", "byteAt", "(I)I"⟩, prog_15_method_10_code, 2, (some .int), []),
  (⟨"CascadeStoreModel", "isLetter", "(I)Z"⟩, prog_15_method_8_code, 1, (some .boolean), []),
  (⟨"CascadeStoreModel", "readLetters", "()V"⟩, prog_15_method_12_code, 2, none, []),
  (⟨"CascadeStoreModel", "isFigure", "(I)Z"⟩, prog_15_method_9_code, 1, (some .boolean), [])]
set_option maxRecDepth 40000 in
theorem mt_4_in : ∀ q ∈ mt_4, mt_word q ∈ lw_tbl := pl_all [(7, 142), (7, 146), (7, 149), (7, 155), (7, 164), (7, 167), (7, 171), (7, 175), (7, 179), (7, 183), (7, 187), (7, 191), (7, 196), (7, 200), (7, 208), (7, 213), (7, 233), (7, 237), (8, 3), (8, 7), (8, 13), (8, 17), (8, 21), (8, 27), (8, 31), (8, 37), (8, 42), (9, 117), (9, 121), (9, 125), (9, 129), (9, 134), (9, 139), (9, 143), (9, 147), (9, 151), (9, 155), (9, 158), (9, 162), (9, 165)] rfl
def mt_5 : List mt_T := [(⟨"CascadeStoreModel", "failHere", "(I)V"⟩, prog_15_method_7_code, 2, none, []),
  (⟨"CascadeStoreModel", "fail", "(II)V"⟩, prog_15_method_6_code, 4, none, []),
  (⟨"CascadeStoreModel", "isWord", "(J)Z"⟩, prog_15_method_11_code, 5, (some .boolean), []),
  (⟨"CascadeStoreModel", "readFigures", "()V"⟩, prog_15_method_13_code, 2, none, []),
  (⟨"CascadeStoreModel", "isSign", "(I)Z"⟩, prog_15_method_14_code, 1, (some .boolean), []),
  (⟨"CascadeStoreModel", "word", "(J)Z"⟩, prog_15_method_16_code, 3, (some .boolean), []),
  (⟨"CascadeStoreModel", "readTable", "()V"⟩, prog_15_method_51_code, 3, none, []),
  (⟨"CascadeStoreModel", "isName", "()Z"⟩, prog_15_method_20_code, 1, (some .boolean), []),
  (⟨"CascadeStoreModel", "tableNamed", "(J)I"⟩, prog_15_method_35_code, 4, (some .int), []),
  (⟨"CascadeStoreModel", "takeSign", "(I)V"⟩, prog_15_method_18_code, 2, none, []),
  (⟨"CascadeStoreModel", "sign", "(I)Z"⟩, prog_15_method_17_code, 2, (some .boolean), []),
  (⟨"CascadeStoreModel", "readItem", "()V"⟩, prog_15_method_50_code, 4, none, []),
  (⟨"CascadeStoreModel", "readColumn", "()V"⟩, prog_15_method_43_code, 4, none, []),
  (⟨"CascadeStoreModel", "column", "(IJ)I"⟩, prog_15_method_24_code, 5, (some .int), []),
  (⟨"CascadeStoreModel", "oneRule", "(I)I"⟩, prog_15_method_42_code, 3, (some .int), []),
  (⟨"CascadeStoreModel", "freeRule", "()I"⟩, prog_15_method_41_code, 4, (some .int), []),
  (⟨"CascadeStoreModel", "readNames", "(I[II)I"⟩, prog_15_method_44_code, 8, (some .int), []),
  (⟨"CascadeStoreModel", "readLate", "(I)V"⟩, prog_15_method_45_code, 2, none, []),
  (⟨"CascadeStoreModel", "readRefer", "(I)V"⟩, prog_15_method_49_code, 4, none, []),
  (⟨"CascadeStoreModel", "takeWord", "(J)V"⟩, prog_15_method_19_code, 3, none, []),
  (⟨"CascadeStoreModel", "isKey", "(III)Z"⟩, prog_15_method_47_code, 7, (some .boolean), []),
  (⟨"CascadeStoreModel", "isTold", "(I)Z"⟩, prog_15_method_46_code, 4, (some .boolean), []),
  (⟨"CascadeStoreModel", "readAction", "()I"⟩, prog_15_method_48_code, 2, (some .int), []),
  (⟨"CascadeStoreModel", "readTest", "()V"⟩, prog_15_method_34_code, 4, none, []),
  (⟨"CascadeStoreModel", "push", "(IJ)V"⟩, prog_15_method_25_code, 4, none, []),
  (⟨"CascadeStoreModel", "opens", "()V"⟩, prog_15_method_23_code, 1, none, []),
  (⟨"CascadeStoreModel", "node", "()V"⟩, prog_15_method_22_code, 1, none, []),
  (⟨"CascadeStoreModel", "readUnit", "()V"⟩, prog_15_method_33_code, 3, none, []),
  (⟨"CascadeStoreModel", "readSum", "()V"⟩, prog_15_method_31_code, 5, none, []),
  (⟨"CascadeStoreModel", "factor", "()Z"⟩, prog_15_method_30_code, 2, (some .boolean), []),
  (⟨"CascadeStoreModel", "step", "(IJ)V"⟩, prog_15_method_21_code, 4, none, []),
  (⟨"CascadeStoreModel", "factorName", "(Z)V"⟩, prog_15_method_29_code, 5, none, []),
  (⟨"CascadeStoreModel", "doneTo", "(I)V"⟩, prog_15_method_28_code, 2, none, []),
  (⟨"CascadeStoreModel", "top", "()I"⟩, prog_15_method_26_code, 1, (some .int), []),
  (⟨"CascadeStoreModel", "done", "()V"⟩, prog_15_method_27_code, 1, none, []),
  (⟨"CascadeStoreModel", "isComparison", "()Z"⟩, prog_15_method_32_code, 1, (some .boolean), []),
  (⟨"CascadeStoreModel", "readTrigger", "()V"⟩, prog_15_method_52_code, 2, none, []),
  (⟨"CascadeStoreModel", "triggerNamed", "(J)I"⟩, prog_15_method_36_code, 4, (some .int), []),
  (⟨"CascadeStoreModel", "takeTable", "()I"⟩, prog_15_method_37_code, 2, (some .int), []),
  (⟨"CascadeStoreModel", "readAct", "(I)V"⟩, prog_15_method_53_code, 2, none, [])]
set_option maxRecDepth 40000 in
theorem mt_5_in : ∀ q ∈ mt_5, mt_word q ∈ lw_tbl := pl_all [(9, 169), (9, 173), (9, 176), (9, 219), (9, 224), (9, 228), (9, 232), (9, 236), (10, 0), (10, 4), (10, 8), (10, 12), (10, 16), (10, 20), (10, 25), (10, 29), (10, 33), (10, 37), (10, 41), (10, 45), (10, 49), (10, 53), (10, 57), (10, 61), (10, 65), (10, 69), (10, 73), (10, 77), (10, 81), (10, 85), (10, 89), (10, 93), (10, 97), (10, 101), (10, 105), (10, 109), (10, 113), (10, 117), (10, 121), (10, 125)] rfl
def mt_6 : List mt_T := [(⟨"CascadeStoreModel", "readChange", "(I)V"⟩, prog_15_method_38_code, 4, none, []),
  (⟨"CascadeStoreModel", "readParts", "(I)V"⟩, prog_15_method_39_code, 4, none, []),
  (⟨"CascadeStoreModel", "readSets", "(I)V"⟩, prog_15_method_40_code, 5, none, []),
  (⟨"CascadeStoreModel", "readDrop", "()V"⟩, prog_15_method_89_code, 2, none, []),
  (⟨"CascadeStoreModel", "readSimple", "()V"⟩, prog_15_method_90_code, 1, none, []),
  (⟨"CascadeStoreModel", "readMark", "(Z)V"⟩, prog_15_method_88_code, 2, none, []),
  (⟨"CascadeStoreModel", "mark", "(J)I"⟩, prog_15_method_87_code, 4, (some .int), []),
  (⟨"CascadeStoreModel", "readWhich", "()V"⟩, prog_15_method_86_code, 3, none, []),
  (⟨"CascadeStoreModel", "change", "()I"⟩, prog_15_method_95_code, 1, (some .int), []),
  (⟨"CascadeStoreModel", "keep", "(I)V"⟩, prog_15_method_54_code, 3, none, []),
  (⟨"CascadeStoreModel", "beginChange", "(II)V"⟩, prog_15_method_66_code, 8, none, []),
  (⟨"CascadeStoreModel", "worked", "(IIIIIZ)J"⟩, prog_15_method_64_code, 8, (some .long), []),
  (⟨"CascadeStoreModel", "work", "(IIIIZ)V"⟩, prog_15_method_63_code, 8, none, []),
  (⟨"CascadeStoreModel", "both", "(ZJJ)J"⟩, prog_15_method_62_code, 7, (some .long), []),
  (⟨"CascadeStoreModel", "signed", "(JJJZ)J"⟩, prog_15_method_61_code, 8, (some .long), []),
  (⟨"CascadeStoreModel", "compared", "(JJJ)J"⟩, prog_15_method_60_code, 7, (some .long), []),
  (⟨"CascadeStoreModel", "end", "(I)V"⟩, prog_15_method_65_code, 2, none, []),
  (⟨"CascadeStoreModel", "goOn", "()V"⟩, prog_15_method_80_code, 2, none, []),
  (⟨"CascadeStoreModel", "goChange", "(I)V"⟩, prog_15_method_69_code, 7, none, []),
  (⟨"CascadeStoreModel", "insertOne", "(III)V"⟩, prog_15_method_70_code, 6, none, []),
  (⟨"CascadeStoreModel", "beginStep", "(III)I"⟩, prog_15_method_67_code, 5, (some .int), []),
  (⟨"CascadeStoreModel", "findRow", "(II)I"⟩, prog_15_method_58_code, 4, (some .int), []),
  (⟨"CascadeStoreModel", "takeOld", "(III)V"⟩, prog_15_method_68_code, 5, none, []),
  (⟨"CascadeStoreModel", "valueAt", "(III)J"⟩, prog_15_method_59_code, 4, (some .long), []),
  (⟨"CascadeStoreModel", "updateOne", "(IIIII)V"⟩, prog_15_method_71_code, 9, none, []),
  (⟨"CascadeStoreModel", "goStep", "(I)V"⟩, prog_15_method_72_code, 2, none, []),
  (⟨"CascadeStoreModel", "goTriggers", "(II)V"⟩, prog_15_method_73_code, 7, none, []),
  (⟨"CascadeStoreModel", "doRow", "(I)V"⟩, prog_15_method_74_code, 5, none, []),
  (⟨"CascadeStoreModel", "takeAway", "(II)V"⟩, prog_15_method_75_code, 5, none, []),
  (⟨"CascadeStoreModel", "goRules", "(I)V"⟩, prog_15_method_78_code, 6, none, []),
  (⟨"CascadeStoreModel", "isMet", "(II)Z"⟩, prog_15_method_77_code, 6, (some .boolean), []),
  (⟨"CascadeStoreModel", "refers", "(III)Z"⟩, prog_15_method_76_code, 6, (some .boolean), []),
  (⟨"CascadeStoreModel", "goReferring", "(I)V"⟩, prog_15_method_79_code, 11, none, []),
  (⟨"CascadeStoreModel", "lookAt", "(I)Z"⟩, prog_15_method_85_code, 5, (some .boolean), []),
  (⟨"CascadeStoreModel", "firstBroken", "(I)I"⟩, prog_15_method_84_code, 3, (some .int), []),
  (⟨"CascadeStoreModel", "isBroken", "(II)Z"⟩, prog_15_method_82_code, 6, (some .boolean), []),
  (⟨"CascadeStoreModel", "isThere", "(III)Z"⟩, prog_15_method_83_code, 8, (some .boolean), []),
  (⟨"CascadeStoreModel", "isAlike", "(IIII)Z"⟩, prog_15_method_81_code, 7, (some .boolean), []),
  (⟨"CascadeStoreModel", "bringBack", "(I)V"⟩, prog_15_method_55_code, 3, none, []),
  (⟨"CascadeStoreModel", "doInside", "()I"⟩, prog_15_method_99_code, 3, (some .int), [])]
set_option maxRecDepth 40000 in
theorem mt_6_in : ∀ q ∈ mt_6, mt_word q ∈ lw_tbl := pl_all [(10, 129), (10, 133), (10, 137), (10, 141), (10, 145), (10, 149), (10, 153), (10, 157), (10, 162), (10, 166), (10, 170), (10, 174), (10, 178), (10, 181), (10, 185), (10, 192), (10, 201), (10, 205), (10, 209), (10, 213), (10, 217), (10, 221), (10, 225), (10, 229), (10, 233), (10, 237), (11, 1), (11, 5), (11, 9), (11, 13), (11, 17), (11, 21), (11, 25), (11, 29), (11, 33), (11, 37), (11, 41), (11, 45), (11, 49), (11, 53)] rfl
def mt_7 : List mt_T := [(⟨"CascadeStoreModel", "over", "()V"⟩, prog_15_method_96_code, 2, none, []),
  (⟨"CascadeStoreModel", "setMark", "()V"⟩, prog_15_method_97_code, 3, none, []),
  (⟨"CascadeStoreModel", "copyState", "(II)V"⟩, prog_15_method_56_code, 4, none, []),
  (⟨"CascadeStoreModel", "doNow", "()I"⟩, prog_15_method_98_code, 2, (some .int), []),
  (⟨"CascadeStoreModel", "doOutside", "()I"⟩, prog_15_method_100_code, 2, (some .int), []),
  (⟨"CascadeStoreModel", "isUsed", "(I)Z"⟩, prog_15_method_93_code, 4, (some .boolean), []),
  (⟨"CascadeStoreModel", "dropTable", "(I)V"⟩, prog_15_method_94_code, 3, none, []),
  (⟨"CascadeStoreModel", "told", "(I)I"⟩, prog_15_method_102_code, 2, (some .int), []),
  (⟨"CascadeStoreModel", "count", "(I)I"⟩, prog_15_method_103_code, 6, (some .int), []),
  (⟨"CascadeStoreModel", "find", "(IJ)I"⟩, prog_15_method_104_code, 4, (some .int), []),
  (⟨"CascadeStoreModel", "table", "(II)J"⟩, prog_15_method_105_code, 5, (some .long), []),
  (⟨"CascadeStoreModel", "value", "(III)J"⟩, prog_15_method_106_code, 5, (some .long), []),
  (⟨"CascadeStoreModel", "rule", "(II)I"⟩, prog_15_method_107_code, 5, (some .int), []),
  (⟨"CascadeStoreModel", "trigger", "(II)J"⟩, prog_15_method_108_code, 3, (some .long), []),
  (⟨"CascadeStoreModel", "broken", "(I)I"⟩, prog_15_method_109_code, 2, (some .int), []),
  (⟨"CascadeStoreModel", "clear", "()V"⟩, prog_15_method_111_code, 1, none, [])]
set_option maxRecDepth 40000 in
theorem mt_7_in : ∀ q ∈ mt_7, mt_word q ∈ lw_tbl := pl_all [(11, 57), (11, 61), (11, 65), (11, 69), (11, 73), (11, 77), (11, 81), (11, 85), (11, 90), (11, 95), (11, 99), (11, 106), (11, 110), (11, 115), (11, 119), (11, 123)] rfl
def mt : List mt_T := mt_0 ++ mt_1 ++ mt_2 ++ mt_3 ++ mt_4 ++ mt_5 ++ mt_6 ++ mt_7
theorem mt_in : ∀ q ∈ mt, mt_word q ∈ lw_tbl := by
  intro q hq
  simp only [mt, List.mem_append] at hq
  rcases hq with ((((((h | h) | h) | h) | h) | h) | h) | h
  · exact mt_0_in q h
  · exact mt_1_in q h
  · exact mt_2_in q h
  · exact mt_3_in q h
  · exact mt_4_in q h
  · exact mt_5_in q h
  · exact mt_6_in q h
  · exact mt_7_in q h
/-- links to fields: owner of the code, index, class, field, whether a nest mate's -/
abbrev fl_T : Type := Nat × Nat × Nat × Nat × Bool
def fl_word (q : fl_T) : Cond := match cls[q.2.2.1]? with
  | none => .tt
  | some r => if q.2.2.2.2 = true then .fieldLinkNest (own.getD q.1 "") q.2.1 r.1 (r.2.1 q.2.2.2.1).2.1 (r.2.1 q.2.2.2.1).2.2.1 "CascadeStore" else .fieldLink (own.getD q.1 "") q.2.1 r.1 (r.2.1 q.2.2.2.1).2.1 (r.2.1 q.2.2.2.1).2.2.1
def fl_0 : List fl_T := [(0, 12, 0, 0, false), (0, 21, 0, 1, false), (0, 30, 0, 2, false), (0, 39, 0, 3, false), (0, 43, 0, 4, false), (0, 60, 1, 4, true), (0, 73, 2, 6, true), (0, 110, 2, 12, true), (0, 116, 2, 7, true), (0, 149, 2, 1, true), (0, 152, 3, 2, true), (0, 155, 3, 3, true), (0, 158, 2, 0, true), (0, 168, 2, 2, true), (0, 187, 7, 0, true), (0, 192, 7, 1, true), (0, 198, 7, 5, true), (0, 201, 7, 6, true), (0, 204, 2, 8, true), (0, 207, 7, 7, true), (0, 210, 7, 8, true), (0, 221, 10, 1, true), (0, 224, 10, 2, true), (0, 227, 10, 3, true), (0, 230, 10, 5, true), (0, 234, 9, 0, true), (0, 237, 9, 1, true), (0, 238, 10, 0, true), (0, 259, 4, 3, true), (0, 268, 4, 4, true), (0, 274, 4, 5, true), (0, 284, 4, 9, true), (0, 299, 4, 8, true), (0, 320, 4, 6, true), (0, 325, 4, 7, true), (0, 334, 1, 9, true), (0, 337, 1, 10, true), (0, 340, 6, 9, true), (0, 343, 6, 10, true), (0, 346, 6, 11, true)]
set_option maxRecDepth 40000 in
theorem fl_in_0 : ∀ q ∈ fl_0, fl_word q ∈ lw_tbl := pl_all [(3, 178), (3, 179), (3, 180), (3, 181), (3, 182), (1, 55), (1, 139), (1, 148), (1, 140), (1, 131), (1, 115), (1, 117), (1, 129), (1, 133), (4, 181), (4, 183), (4, 196), (4, 201), (1, 143), (4, 203), (4, 206), (6, 36), (6, 39), (6, 41), (6, 45), (5, 203), (5, 206), (6, 34), (1, 232), (1, 233), (1, 236), (2, 3), (2, 2), (1, 237), (1, 239), (1, 65), (1, 67), (2, 53), (2, 55), (2, 57)] rfl
def fl_1 : List fl_T := [(0, 349, 6, 7, true), (0, 352, 6, 8, true), (1, 9, 1, 0, false), (1, 17, 1, 1, false), (1, 21, 1, 2, false), (1, 25, 1, 3, false), (1, 29, 1, 4, false), (1, 58, 1, 5, false), (1, 64, 1, 6, false), (1, 67, 1, 7, false), (1, 70, 1, 8, false), (1, 78, 1, 9, false), (1, 81, 1, 10, false), (2, 9, 2, 0, false), (2, 15, 2, 1, false), (2, 19, 2, 2, false), (2, 22, 2, 3, false), (2, 27, 2, 4, false), (2, 33, 2, 5, false), (2, 40, 2, 6, false), (2, 44, 2, 10, false), (2, 48, 2, 11, false), (2, 62, 10, 0, true), (2, 66, 2, 12, false), (2, 91, 7, 1, true), (2, 98, 7, 5, true), (2, 101, 10, 1, true), (2, 102, 10, 5, true), (2, 106, 9, 1, true), (2, 112, 7, 6, true), (2, 116, 2, 7, false), (2, 122, 2, 8, false), (2, 125, 2, 9, false), (3, 9, 3, 0, false), (3, 15, 3, 1, false), (3, 19, 3, 2, false), (3, 22, 3, 3, false), (4, 9, 4, 0, false), (4, 15, 4, 1, false), (4, 24, 4, 2, false)]
set_option maxRecDepth 40000 in
theorem fl_in_1 : ∀ q ∈ fl_1, fl_word q ∈ lw_tbl := pl_all [(2, 49), (2, 51), (1, 50), (1, 51), (1, 52), (1, 53), (1, 54), (1, 56), (1, 58), (1, 60), (1, 61), (1, 64), (1, 66), (1, 128), (1, 130), (1, 132), (1, 134), (1, 135), (1, 136), (1, 138), (1, 146), (1, 147), (6, 33), (1, 149), (4, 185), (4, 199), (6, 37), (6, 47), (5, 208), (4, 202), (1, 141), (1, 144), (1, 145), (1, 110), (1, 113), (1, 114), (1, 116), (1, 228), (1, 229), (1, 230)] rfl
def fl_2 : List fl_T := [(4, 28, 4, 10, false), (4, 43, 1, 6, true), (4, 47, 4, 3, false), (4, 50, 4, 5, false), (4, 88, 4, 8, false), (4, 118, 5, 7, true), (4, 121, 5, 10, true), (4, 152, 1, 8, true), (4, 184, 7, 9, true), (4, 191, 7, 6, true), (4, 218, 7, 2, true), (4, 221, 7, 4, true), (4, 246, 7, 5, true), (4, 249, 7, 3, true), (4, 262, 7, 7, true), (4, 268, 7, 8, true), (4, 287, 5, 8, true), (4, 290, 5, 9, true), (4, 317, 4, 9, false), (4, 329, 9, 2, true), (4, 333, 9, 3, true), (4, 340, 9, 6, true), (4, 345, 9, 1, true), (4, 354, 9, 5, true), (4, 357, 9, 4, true), (4, 365, 4, 4, false), (4, 374, 4, 6, false), (4, 377, 2, 12, true), (4, 380, 4, 7, false), (5, 9, 5, 2, false), (5, 15, 5, 3, false), (5, 18, 5, 0, false), (5, 22, 5, 1, false), (5, 32, 5, 6, false), (5, 36, 5, 7, false), (5, 39, 5, 8, false), (5, 42, 5, 10, false), (5, 46, 5, 4, false), (5, 49, 5, 5, false), (5, 85, 1, 6, true)]
set_option maxRecDepth 40000 in
theorem fl_in_2 : ∀ q ∈ fl_2, fl_word q ∈ lw_tbl := pl_all [(2, 5), (1, 57), (1, 231), (1, 235), (2, 1), (1, 198), (1, 204), (1, 62), (4, 210), (4, 200), (4, 187), (4, 193), (4, 197), (4, 190), (4, 204), (4, 207), (1, 200), (1, 202), (2, 4), (5, 211), (5, 214), (5, 221), (5, 207), (5, 219), (5, 216), (1, 234), (1, 238), (1, 150), (2, 0), (1, 192), (1, 193), (1, 190), (1, 191), (1, 196), (1, 197), (1, 199), (1, 203), (1, 194), (1, 195), (1, 59)] rfl
def fl_3 : List fl_T := [(5, 174, 1, 8, true), (5, 200, 5, 9, false), (6, 12, 6, 2, false), (6, 20, 6, 3, false), (6, 23, 6, 4, false), (6, 28, 6, 5, false), (6, 31, 6, 0, false), (6, 35, 2, 6, true), (6, 40, 6, 1, false), (6, 41, 6, 7, false), (6, 45, 6, 8, false), (6, 58, 6, 6, false), (6, 61, 2, 8, true), (6, 78, 6, 9, false), (6, 81, 6, 10, false), (6, 89, 9, 0, true), (6, 94, 9, 4, true), (6, 97, 9, 3, true), (6, 101, 9, 1, true), (6, 119, 9, 2, true), (6, 127, 9, 6, true), (6, 130, 6, 11, false), (6, 140, 9, 5, true), (6, 175, 3, 0, true), (6, 226, 10, 4, true), (6, 229, 10, 5, true), (6, 233, 7, 5, true), (6, 240, 7, 7, true), (6, 243, 7, 8, true), (6, 250, 7, 1, true), (6, 259, 7, 4, true), (6, 260, 7, 3, true), (6, 267, 7, 2, true), (7, 9, 7, 2, false), (7, 15, 7, 3, false), (7, 18, 7, 5, false), (7, 22, 7, 0, false), (7, 25, 7, 1, false), (7, 28, 7, 4, false), (7, 31, 7, 9, false)]
set_option maxRecDepth 40000 in
theorem fl_in_3 : ∀ q ∈ fl_3, fl_word q ∈ lw_tbl := pl_all [(1, 63), (1, 201), (2, 43), (2, 44), (2, 45), (2, 46), (2, 41), (1, 137), (2, 42), (2, 48), (2, 50), (2, 47), (1, 142), (2, 52), (2, 54), (5, 202), (5, 215), (5, 213), (5, 205), (5, 210), (5, 220), (2, 56), (5, 218), (1, 112), (6, 43), (6, 46), (4, 198), (4, 205), (4, 208), (4, 184), (4, 194), (4, 191), (4, 188), (4, 186), (4, 189), (4, 195), (4, 180), (4, 182), (4, 192), (4, 209)] rfl
def fl_4 : List fl_T := [(7, 55, 3, 0, true), (8, 11, 8, 0, false), (8, 17, 8, 1, false), (8, 20, 8, 2, false), (8, 24, 8, 3, false), (9, 9, 9, 2, false), (9, 17, 9, 3, false), (9, 21, 9, 0, false), (9, 25, 9, 1, false), (9, 28, 9, 5, false), (10, 7, 10, 0, false), (10, 13, 10, 1, false), (10, 17, 10, 2, false), (10, 20, 10, 3, false), (10, 23, 10, 4, false), (10, 27, 10, 5, false), (11, 7, 11, 1, false), (11, 13, 11, 10, false), (11, 17, 11, 11, false), (11, 21, 11, 12, false), (11, 24, 11, 13, false), (11, 27, 11, 14, false), (11, 30, 11, 15, false), (11, 33, 11, 16, false), (11, 36, 11, 17, false), (11, 39, 11, 18, false), (11, 42, 11, 19, false), (11, 45, 11, 20, false), (11, 48, 11, 21, false), (11, 51, 11, 22, false), (11, 54, 11, 23, false), (11, 57, 11, 24, false), (11, 60, 11, 25, false), (11, 63, 11, 26, false), (11, 66, 11, 27, false), (11, 69, 11, 28, false), (11, 72, 11, 29, false), (11, 75, 11, 30, false), (11, 78, 11, 31, false), (11, 81, 11, 32, false)]
set_option maxRecDepth 40000 in
theorem fl_in_4 : ∀ q ∈ fl_4, fl_word q ∈ lw_tbl := pl_all [(1, 111), (5, 125), (5, 126), (5, 127), (5, 128), (5, 209), (5, 212), (5, 201), (5, 204), (5, 217), (6, 32), (6, 35), (6, 38), (6, 40), (6, 42), (6, 44), (8, 44), (8, 53), (8, 54), (8, 55), (8, 56), (8, 57), (8, 58), (8, 59), (8, 60), (8, 61), (8, 62), (8, 63), (8, 64), (8, 65), (8, 66), (8, 67), (8, 68), (8, 69), (8, 70), (8, 71), (8, 72), (8, 73), (8, 74), (8, 75)] rfl
def fl_5 : List fl_T := [(11, 84, 11, 33, false), (11, 87, 11, 34, false), (11, 90, 11, 35, false), (11, 93, 11, 36, false), (11, 96, 11, 37, false), (11, 99, 11, 38, false), (11, 102, 11, 39, false), (11, 105, 11, 50, false), (11, 108, 11, 51, false), (11, 111, 11, 53, false), (11, 114, 11, 54, false), (11, 117, 11, 55, false), (11, 120, 11, 56, false), (11, 123, 11, 59, false), (11, 126, 11, 61, false), (11, 129, 11, 62, false), (11, 132, 11, 63, false), (11, 135, 11, 64, false), (11, 138, 11, 65, false), (11, 141, 11, 66, false), (11, 144, 11, 67, false), (11, 147, 11, 68, false), (11, 150, 11, 71, false), (11, 153, 11, 72, false), (11, 156, 11, 76, false), (11, 159, 11, 77, false), (11, 162, 11, 78, false), (11, 165, 11, 79, false), (11, 168, 11, 80, false), (11, 171, 11, 81, false), (11, 174, 11, 82, false), (11, 177, 11, 83, false), (11, 180, 11, 84, false), (11, 183, 11, 85, false), (11, 186, 11, 86, false), (11, 189, 11, 87, false), (11, 192, 11, 88, false), (11, 195, 11, 96, false), (11, 198, 11, 100, false), (11, 204, 11, 0, false)]
set_option maxRecDepth 40000 in
theorem fl_in_5 : ∀ q ∈ fl_5, fl_word q ∈ lw_tbl := pl_all [(8, 76), (8, 77), (8, 78), (8, 79), (8, 80), (8, 81), (8, 82), (8, 93), (8, 94), (8, 96), (8, 97), (8, 98), (8, 99), (8, 102), (8, 104), (8, 105), (8, 106), (8, 107), (8, 108), (8, 109), (8, 110), (8, 111), (8, 114), (8, 115), (8, 119), (8, 120), (8, 121), (8, 122), (8, 123), (8, 124), (8, 125), (8, 126), (8, 127), (8, 128), (8, 129), (8, 130), (8, 131), (8, 139), (8, 143), (8, 43)] rfl
def fl_6 : List fl_T := [(11, 214, 11, 2, false), (11, 223, 11, 8, false), (11, 226, 11, 9, false), (11, 229, 11, 5, false), (11, 314, 11, 7, false), (11, 318, 11, 3, false), (11, 340, 11, 4, false), (11, 343, 11, 6, false), (11, 368, 11, 41, false), (11, 371, 11, 40, false), (11, 374, 11, 44, false), (11, 378, 11, 42, false), (11, 381, 11, 43, false), (11, 384, 11, 45, false), (11, 387, 11, 52, false), (11, 401, 11, 47, false), (11, 404, 11, 48, false), (11, 407, 11, 49, false), (11, 434, 11, 46, false), (11, 472, 11, 58, false), (11, 478, 11, 57, false), (11, 515, 11, 60, false), (11, 546, 11, 74, false), (11, 549, 11, 73, false), (11, 564, 11, 89, false), (11, 567, 11, 75, false), (11, 577, 11, 93, false), (11, 580, 11, 94, false), (11, 583, 11, 95, false), (11, 621, 11, 92, false), (11, 637, 11, 90, false), (11, 640, 11, 91, false), (11, 662, 11, 97, false), (11, 667, 11, 70, false), (11, 670, 11, 99, false), (11, 676, 11, 98, false), (11, 712, 11, 69, false), (11, 741, 11, 102, false), (11, 753, 11, 101, false)]
set_option maxRecDepth 40000 in
theorem fl_in_6 : ∀ q ∈ fl_6, fl_word q ∈ lw_tbl := pl_all [(8, 45), (8, 51), (8, 52), (8, 48), (8, 50), (8, 46), (8, 47), (8, 49), (8, 84), (8, 83), (8, 87), (8, 85), (8, 86), (8, 88), (8, 95), (8, 90), (8, 91), (8, 92), (8, 89), (8, 101), (8, 100), (8, 103), (8, 117), (8, 116), (8, 132), (8, 118), (8, 136), (8, 137), (8, 138), (8, 135), (8, 133), (8, 134), (8, 140), (8, 113), (8, 142), (8, 141), (8, 112), (8, 145), (8, 144)] rfl
def fl : List fl_T := fl_0 ++ (fl_1 ++ (fl_2 ++ (fl_3 ++ (fl_4 ++ (fl_5 ++ (fl_6))))))
theorem fl_in : ∀ q ∈ fl, fl_word q ∈ lw_tbl := pl_app fl_in_0 (pl_app fl_in_1 (pl_app fl_in_2 (pl_app fl_in_3 (pl_app fl_in_4 (pl_app fl_in_5 (fl_in_6))))))
theorem fl_ok : fl.all (fun q => match cls[q.2.2.1]? with | none => false | some r => decide (q.2.2.2.1 < r.2.2) && decide ((r.2.1 q.2.2.2.1).1 = r.1)) = true := by decide +kernel
/-- links to methods: owner, index, method, whether a nest mate's -/
abbrev ml_T : Type := Nat × Nat × Nat × Bool
def ml_word (q : ml_T) : Cond := match mt[q.2.2.1]? with
  | none => .tt
  | some r => if q.2.2.2 = true then .methodLinkNest (own.getD q.1 "") q.2.1 r.1 "CascadeStore" else .methodLink (own.getD q.1 "") q.2.1 r.1
def mlV_0 : List ml_T := [(0, 69, 164, false), (0, 77, 10, false), (0, 83, 11, false), (0, 86, 12, false), (0, 89, 97, false), (0, 92, 100, false), (0, 95, 158, false), (0, 101, 169, false), (0, 104, 170, false), (0, 107, 171, false), (0, 113, 23, false), (0, 124, 32, false), (0, 128, 34, false), (0, 131, 92, false), (0, 134, 41, false), (0, 138, 33, false), (0, 162, 47, false), (0, 173, 131, false), (0, 177, 140, false), (0, 181, 96, false), (0, 195, 180, false), (0, 215, 123, false), (0, 244, 146, false), (0, 248, 160, false), (0, 277, 102, false), (0, 280, 101, false), (0, 288, 103, false), (0, 292, 98, false), (0, 296, 104, false), (0, 300, 105, false), (0, 304, 149, false), (0, 307, 145, false), (0, 311, 152, false), (0, 314, 154, false), (0, 317, 155, false), (0, 321, 156, false), (0, 328, 150, false), (0, 331, 157, false), (1, 43, 14, false), (1, 47, 15, false)]
set_option maxRecDepth 40000 in
theorem mlV_in_0 : ∀ q ∈ mlV_0, ml_word q ∈ lw_tbl := pl_all [(7, 161), (3, 199), (3, 203), (3, 207), (6, 96), (6, 108), (7, 131), (7, 180), (7, 184), (7, 188), (7, 192), (7, 202), (7, 203), (7, 204), (7, 205), (7, 214), (7, 229), (7, 239), (8, 0), (8, 8), (8, 10), (8, 22), (8, 32), (7, 139), (6, 119), (6, 112), (6, 123), (6, 127), (6, 128), (6, 132), (7, 90), (7, 103), (7, 104), (7, 116), (7, 117), (7, 121), (7, 126), (7, 127), (3, 221), (3, 225)] rfl
def mlV_1 : List ml_T := [(1, 50, 18, false), (1, 54, 19, false), (1, 61, 21, false), (1, 74, 31, false), (1, 91, 16, false), (1, 95, 17, false), (2, 51, 98, false), (2, 55, 153, false), (2, 58, 33, false), (2, 70, 24, false), (2, 74, 26, false), (2, 75, 35, false), (2, 78, 43, false), (2, 84, 47, false), (2, 94, 76, false), (2, 109, 99, false), (2, 119, 150, false), (2, 128, 151, false), (2, 132, 106, false), (2, 136, 154, false), (2, 139, 92, false), (3, 25, 129, false), (3, 31, 107, false), (3, 35, 131, false), (3, 39, 126, false), (3, 43, 128, false), (4, 32, 98, false), (4, 38, 13, false), (4, 61, 22, false), (4, 75, 29, false), (4, 78, 78, false), (4, 81, 89, false), (4, 84, 85, false), (4, 92, 21, false), (4, 95, 91, false), (4, 98, 93, false), (4, 101, 94, false), (4, 104, 31, false), (4, 110, 30, false), (4, 114, 37, false)]
set_option maxRecDepth 40000 in
theorem mlV_in_1 : ∀ q ∈ mlV_1, ml_word q ∈ lw_tbl := pl_all [(3, 237), (4, 3), (4, 15), (4, 118), (3, 229), (3, 233), (7, 143), (7, 108), (4, 91), (4, 31), (4, 39), (4, 111), (4, 135), (4, 157), (5, 152), (6, 104), (7, 94), (7, 98), (7, 102), (7, 112), (7, 125), (6, 239), (6, 141), (7, 17), (6, 234), (6, 235), (6, 100), (3, 211), (4, 23), (4, 57), (5, 165), (6, 61), (6, 9), (4, 61), (6, 69), (6, 77), (6, 81), (4, 67), (4, 62), (4, 107)] rfl
def mlV_2 : List ml_T := [(4, 128, 38, false), (4, 132, 39, false), (4, 138, 44, false), (4, 145, 47, false), (4, 156, 32, false), (4, 159, 34, false), (4, 162, 35, false), (4, 165, 36, false), (4, 168, 40, false), (4, 173, 52, false), (4, 176, 48, false), (4, 180, 55, false), (4, 194, 73, false), (4, 197, 41, false), (4, 201, 42, false), (4, 207, 45, false), (4, 211, 46, false), (4, 230, 49, false), (4, 233, 50, false), (4, 236, 53, false), (4, 243, 74, false), (4, 252, 75, false), (4, 259, 77, false), (4, 271, 54, false), (4, 281, 79, false), (4, 302, 81, false), (4, 309, 84, false), (4, 321, 80, false), (4, 337, 83, false), (4, 341, 86, false), (4, 348, 87, false), (4, 358, 43, false), (4, 368, 90, false), (4, 371, 92, false), (4, 386, 95, false), (4, 389, 96, false), (5, 26, 23, false), (5, 52, 56, false), (5, 55, 70, false), (5, 59, 62, false)]
set_option maxRecDepth 40000 in
theorem mlV_in_2 : ∀ q ∈ mlV_2, ml_word q ∈ lw_tbl := pl_all [(4, 114), (4, 119), (4, 142), (5, 164), (4, 87), (4, 95), (4, 99), (4, 103), (4, 123), (4, 232), (4, 163), (5, 10), (5, 138), (4, 127), (4, 131), (4, 146), (4, 153), (4, 167), (4, 171), (4, 236), (5, 144), (5, 148), (5, 158), (5, 0), (5, 173), (5, 189), (6, 5), (5, 177), (5, 239), (6, 13), (6, 18), (6, 17), (6, 65), (6, 73), (6, 87), (6, 91), (4, 27), (5, 14), (5, 105), (5, 47)] rfl
def mlV_3 : List ml_T := [(5, 82, 57, false), (5, 96, 60, false), (5, 99, 21, false), (5, 102, 61, false), (5, 106, 58, false), (5, 115, 59, false), (5, 124, 38, false), (5, 128, 68, false), (5, 131, 69, false), (5, 137, 44, false), (5, 152, 31, false), (5, 156, 63, false), (5, 165, 64, false), (5, 178, 65, false), (5, 185, 66, false), (5, 191, 67, false), (5, 206, 41, false), (6, 48, 106, false), (6, 52, 109, false), (6, 64, 145, false), (6, 68, 96, false), (6, 72, 146, false), (6, 104, 110, false), (6, 108, 111, false), (6, 112, 120, false), (6, 116, 130, false), (6, 133, 119, false), (6, 137, 107, false), (6, 148, 125, false), (6, 152, 131, false), (6, 155, 132, false), (6, 158, 133, false), (6, 162, 134, false), (6, 166, 144, false), (6, 170, 143, false), (6, 179, 112, false), (6, 192, 121, false), (6, 195, 122, false), (6, 199, 126, false), (6, 203, 127, false)]
set_option maxRecDepth 40000 in
theorem mlV_in_3 : ∀ q ∈ mlV_3, ml_word q ∈ lw_tbl := pl_all [(5, 18), (5, 33), (5, 37), (5, 38), (5, 22), (5, 28), (5, 46), (5, 88), (5, 92), (5, 98), (5, 32), (5, 51), (5, 55), (5, 61), (5, 69), (5, 75), (5, 66), (6, 137), (6, 150), (7, 70), (7, 34), (7, 74), (6, 154), (6, 158), (6, 201), (7, 3), (6, 195), (7, 7), (6, 222), (7, 9), (7, 13), (7, 18), (7, 22), (7, 66), (7, 61), (6, 163), (6, 205), (6, 210), (6, 226), (6, 230)] rfl
def mlV_4 : List ml_T := [(6, 207, 128, false), (6, 210, 136, false), (6, 213, 135, false), (6, 216, 123, false), (6, 220, 124, false), (6, 236, 137, false), (6, 246, 138, false), (6, 251, 139, false), (6, 255, 141, false), (7, 35, 25, false), (7, 41, 107, false), (7, 47, 147, false), (7, 51, 148, false), (7, 63, 112, false), (7, 67, 131, false), (7, 70, 140, false), (8, 30, 113, false), (8, 38, 116, false), (8, 60, 118, false), (9, 32, 25, false), (10, 31, 25, false), (10, 37, 27, false), (11, 201, 186, false), (11, 217, 190, false), (11, 232, 201, false), (11, 321, 196, false), (11, 332, 200, false), (11, 350, 198, false), (11, 353, 203, false), (11, 359, 210, false), (11, 362, 195, false), (11, 365, 205, false), (11, 390, 230, false), (11, 394, 233, false), (11, 398, 234, false), (11, 410, 209, false), (11, 413, 207, false), (11, 417, 213, false), (11, 421, 226, false), (11, 424, 225, false)]
set_option maxRecDepth 40000 in
theorem mlV_in_4 : ∀ q ∈ mlV_4, ml_word q ∈ lw_tbl := pl_all [(7, 65), (7, 30), (7, 26), (6, 214), (6, 218), (7, 35), (7, 40), (7, 44), (7, 53), (4, 35), (7, 78), (7, 79), (7, 83), (7, 88), (7, 89), (7, 48), (6, 168), (6, 179), (6, 189), (4, 48), (4, 43), (4, 44), (8, 39), (9, 126), (9, 170), (9, 152), (9, 166), (9, 159), (9, 216), (10, 5), (9, 148), (9, 225), (10, 86), (10, 98), (10, 102), (10, 1), (9, 233), (10, 17), (10, 70), (10, 66)] rfl
def mlV_5 : List ml_T := [(11, 427, 224, false), (11, 430, 231, false), (11, 437, 229, false), (11, 440, 232, false), (11, 443, 228, false), (11, 446, 235, false), (11, 449, 227, false), (11, 452, 208, false), (11, 456, 238, false), (11, 459, 241, false), (11, 462, 242, false), (11, 465, 223, false), (11, 468, 219, false), (11, 475, 215, false), (11, 483, 214, false), (11, 486, 221, false), (11, 489, 216, false), (11, 493, 220, false), (11, 497, 222, false), (11, 500, 217, false), (11, 503, 212, false), (11, 506, 218, false), (11, 509, 211, false), (11, 512, 237, false), (11, 518, 239, false), (11, 521, 240, false), (11, 556, 254, false), (11, 560, 252, false), (11, 570, 251, false), (11, 574, 256, false), (11, 586, 263, false), (11, 590, 259, false), (11, 594, 261, false), (11, 598, 260, false), (11, 602, 262, false), (11, 605, 264, false), (11, 609, 266, false), (11, 612, 267, false), (11, 615, 269, false), (11, 618, 272, false)]
set_option maxRecDepth 40000 in
theorem mlV_in_5 : ∀ q ∈ mlV_5, ml_word q ∈ lw_tbl := pl_all [(10, 62), (10, 90), (10, 82), (10, 94), (10, 78), (10, 106), (10, 74), (9, 237), (10, 118), (10, 130), (10, 134), (10, 58), (10, 42), (10, 26), (10, 22), (10, 50), (10, 30), (10, 46), (10, 54), (10, 34), (10, 13), (10, 38), (10, 9), (10, 114), (10, 122), (10, 126), (10, 182), (10, 175), (10, 171), (10, 198), (10, 226), (10, 210), (10, 218), (10, 214), (10, 222), (10, 230), (10, 238), (11, 2), (11, 10), (11, 22)] rfl
def mlV_6 : List ml_T := [(11, 624, 250, false), (11, 627, 268, false), (11, 630, 270, false), (11, 634, 271, false), (11, 643, 258, false), (11, 646, 265, false), (11, 649, 276, false), (11, 652, 277, false), (11, 656, 275, false), (11, 659, 274, false), (11, 673, 246, false), (11, 679, 245, false), (11, 682, 247, false), (11, 685, 194, false), (11, 688, 206, false), (11, 691, 236, false), (11, 694, 243, false), (11, 697, 244, false), (11, 700, 249, false), (11, 703, 257, false), (11, 706, 273, false), (11, 709, 278, false), (11, 715, 282, false), (11, 718, 280, false), (11, 721, 281, false), (11, 724, 283, false), (11, 727, 285, false), (11, 730, 286, false), (11, 735, 192, false), (11, 738, 193, false), (11, 744, 248, false), (11, 747, 279, false), (11, 750, 284, false), (16, 7, 163, false), (16, 17, 166, false), (16, 21, 168, false), (16, 24, 173, false), (16, 28, 175, false), (16, 34, 177, false), (16, 38, 179, false)]
set_option maxRecDepth 40000 in
theorem mlV_in_6 : ∀ q ∈ mlV_6, ml_word q ∈ lw_tbl := pl_all [(10, 167), (11, 6), (11, 14), (11, 18), (10, 206), (10, 234), (11, 38), (11, 42), (11, 34), (11, 30), (10, 150), (10, 146), (10, 154), (9, 144), (9, 229), (10, 110), (10, 138), (10, 142), (10, 163), (10, 202), (11, 26), (11, 46), (11, 62), (11, 54), (11, 58), (11, 66), (11, 74), (11, 78), (9, 136), (9, 140), (10, 159), (11, 50), (11, 70), (7, 152), (7, 168), (7, 176), (7, 197), (7, 210), (7, 234), (8, 4)] rfl
def mlV_7 : List ml_T := [(16, 42, 182, false), (16, 45, 184, false), (16, 59, 188, false), (16, 60, 187, false), (16, 64, 9, false), (16, 67, 191, false), (16, 71, 287, false), (16, 74, 288, false), (16, 78, 289, false), (16, 82, 290, false), (16, 86, 291, false), (16, 89, 292, false), (16, 92, 293, false), (16, 95, 294, false), (16, 96, 159, false), (16, 99, 295, false)]
set_option maxRecDepth 40000 in
theorem mlV_in_7 : ∀ q ∈ mlV_7, ml_word q ∈ lw_tbl := pl_all [(8, 18), (8, 28), (9, 118), (9, 114), (3, 194), (9, 131), (11, 82), (11, 87), (11, 92), (11, 96), (11, 103), (11, 107), (11, 112), (11, 116), (7, 135), (11, 120)] rfl
def mlV : List ml_T := mlV_0 ++ (mlV_1 ++ (mlV_2 ++ (mlV_3 ++ (mlV_4 ++ (mlV_5 ++ (mlV_6 ++ (mlV_7)))))))
theorem mlV_in : ∀ q ∈ mlV, ml_word q ∈ lw_tbl := pl_app mlV_in_0 (pl_app mlV_in_1 (pl_app mlV_in_2 (pl_app mlV_in_3 (pl_app mlV_in_4 (pl_app mlV_in_5 (pl_app mlV_in_6 (mlV_in_7)))))))
def mlS_0 : List ml_T := [(0, 47, 7, false), (0, 251, 161, false), (1, 105, 20, false), (3, 47, 108, false), (5, 73, 71, false), (6, 123, 142, false), (6, 144, 108, false), (6, 263, 114, false), (7, 59, 108, false), (8, 34, 115, false), (8, 44, 114, false), (8, 56, 117, false), (11, 210, 189, false), (11, 325, 197, false), (11, 329, 199, false), (11, 336, 202, false), (11, 356, 204, false), (11, 542, 255, false), (11, 552, 253, false), (16, 54, 162, false), (16, 68, 165, false), (16, 72, 167, false), (16, 75, 172, false), (16, 79, 174, false), (16, 83, 176, false), (16, 87, 178, false), (16, 90, 181, false), (16, 93, 183, false), (17, 13, 8, false)]
set_option maxRecDepth 40000 in
theorem mlS_in_0 : ∀ q ∈ mlS_0, ml_word q ∈ lw_tbl := pl_all [(2, 83), (7, 144), (4, 9), (6, 146), (5, 113), (7, 58), (7, 8), (7, 57), (7, 87), (6, 175), (6, 172), (6, 186), (9, 123), (9, 156), (9, 163), (9, 174), (9, 222), (10, 190), (10, 179), (7, 147), (7, 165), (7, 173), (7, 194), (7, 206), (7, 231), (8, 1), (8, 15), (8, 25), (2, 86)] rfl
def mlS : List ml_T := mlS_0
theorem mlS_in : ∀ q ∈ mlS, ml_word q ∈ lw_tbl := mlS_in_0
def mlI_0 : List ml_T := [(0, 11, 1, true), (0, 20, 2, true), (0, 27, 4, false), (0, 36, 6, false), (2, 39, 3, true), (2, 88, 51, false), (4, 21, 5, false), (4, 314, 88, false), (4, 326, 82, false), (5, 79, 72, false), (6, 11, 3, true), (16, 48, 0, false), (16, 51, 185, false)]
set_option maxRecDepth 40000 in
theorem mlI_in_0 : ∀ q ∈ mlI_0, ml_word q ∈ lw_tbl := pl_all [(1, 44), (1, 96), (1, 180), (2, 31), (1, 106), (4, 176), (1, 186), (6, 28), (5, 195), (5, 121), (2, 36), (1, 36), (8, 35)] rfl
def mlI : List ml_T := mlI_0
theorem mlI_in : ∀ q ∈ mlI, ml_word q ∈ lw_tbl := mlI_in_0
def mi_word (k : Nat) : Cond := match mt[k]? with | none => .tt | some r => .instanceMethod r.1
def ms_word (k : Nat) : Cond := match mt[k]? with | none => .tt | some r => .selects r.1.cls r.1 r.1
def mx_word (k : Nat) : Cond := match mt[k]? with | none => .tt | some r => .static r.1
def mV_0 : List Nat := [9, 10, 11, 12, 13, 14, 15, 16, 17, 18, 19, 21, 22, 23, 24, 25, 26, 27, 29, 30, 31, 32, 33, 34, 35, 36, 37, 38, 39, 40, 41, 42, 43, 44, 45, 46, 47, 48, 49, 50]
set_option maxRecDepth 40000 in
theorem mV_i_0 : ∀ k ∈ mV_0, mi_word k ∈ lw_tbl := pl_all [(3, 195), (3, 200), (3, 204), (3, 208), (3, 212), (3, 223), (3, 227), (3, 231), (3, 235), (3, 239), (4, 5), (4, 16), (4, 24), (4, 28), (4, 32), (4, 36), (4, 40), (4, 45), (4, 59), (4, 64), (4, 68), (4, 88), (4, 92), (4, 96), (4, 100), (4, 104), (4, 108), (4, 115), (4, 121), (4, 125), (4, 128), (4, 132), (4, 136), (4, 143), (4, 148), (4, 154), (4, 158), (4, 165), (4, 168), (4, 172)] rfl
def mV_1 : List Nat := [52, 53, 54, 55, 56, 57, 58, 59, 60, 61, 62, 63, 64, 65, 66, 67, 68, 69, 70, 73, 74, 75, 76, 77, 78, 79, 80, 81, 83, 84, 85, 86, 87, 89, 90, 91, 92, 93, 94, 95]
set_option maxRecDepth 40000 in
theorem mV_i_1 : ∀ k ∈ mV_1, mi_word k ∈ lw_tbl := pl_all [(4, 234), (4, 238), (5, 2), (5, 11), (5, 16), (5, 20), (5, 24), (5, 30), (5, 35), (5, 40), (5, 49), (5, 53), (5, 57), (5, 63), (5, 71), (5, 77), (5, 90), (5, 94), (5, 107), (5, 140), (5, 146), (5, 149), (5, 153), (5, 160), (5, 167), (5, 175), (5, 179), (5, 191), (6, 0), (6, 7), (6, 11), (6, 15), (6, 20), (6, 63), (6, 67), (6, 71), (6, 74), (6, 79), (6, 83), (6, 89)] rfl
def mV_2 : List Nat := [96, 97, 98, 99, 100, 101, 102, 103, 104, 105, 106, 107, 109, 110, 111, 112, 113, 116, 118, 119, 120, 121, 122, 123, 124, 125, 126, 127, 128, 129, 130, 131, 132, 133, 134, 135, 136, 137, 138, 139]
set_option maxRecDepth 40000 in
theorem mV_i_2 : ∀ k ∈ mV_2, mi_word k ∈ lw_tbl := pl_all [(6, 92), (6, 97), (6, 101), (6, 105), (6, 110), (6, 114), (6, 120), (6, 124), (6, 129), (6, 133), (6, 138), (6, 142), (6, 152), (6, 155), (6, 160), (6, 164), (6, 170), (6, 181), (6, 191), (6, 197), (6, 203), (6, 207), (6, 212), (6, 215), (6, 219), (6, 224), (6, 227), (6, 231), (6, 236), (7, 0), (7, 5), (7, 10), (7, 14), (7, 19), (7, 24), (7, 27), (7, 32), (7, 36), (7, 42), (7, 45)] rfl
def mV_3 : List Nat := [140, 141, 143, 144, 145, 146, 147, 148, 149, 150, 151, 152, 153, 154, 155, 156, 157, 158, 159, 160, 163, 164, 166, 168, 169, 170, 171, 173, 175, 177, 179, 180, 182, 184, 186, 187, 188, 190, 191, 192]
set_option maxRecDepth 40000 in
theorem mV_i_3 : ∀ k ∈ mV_3, mi_word k ∈ lw_tbl := pl_all [(7, 49), (7, 55), (7, 63), (7, 68), (7, 71), (7, 75), (7, 81), (7, 85), (7, 91), (7, 95), (7, 100), (7, 105), (7, 109), (7, 113), (7, 118), (7, 122), (7, 128), (7, 133), (7, 136), (7, 140), (7, 153), (7, 162), (7, 169), (7, 177), (7, 181), (7, 185), (7, 189), (7, 198), (7, 211), (7, 235), (8, 5), (8, 11), (8, 19), (8, 29), (8, 41), (9, 115), (9, 119), (9, 128), (9, 132), (9, 138)] rfl
def mV_4 : List Nat := [193, 194, 195, 196, 198, 200, 201, 203, 205, 206, 207, 208, 209, 210, 211, 212, 213, 214, 215, 216, 217, 218, 219, 220, 221, 222, 223, 224, 225, 226, 227, 228, 229, 230, 231, 232, 233, 234, 235, 236]
set_option maxRecDepth 40000 in
theorem mV_i_4 : ∀ k ∈ mV_4, mi_word k ∈ lw_tbl := pl_all [(9, 142), (9, 146), (9, 150), (9, 154), (9, 161), (9, 168), (9, 172), (9, 218), (9, 227), (9, 231), (9, 235), (9, 239), (10, 3), (10, 7), (10, 11), (10, 15), (10, 19), (10, 24), (10, 28), (10, 32), (10, 36), (10, 40), (10, 44), (10, 48), (10, 52), (10, 56), (10, 60), (10, 64), (10, 68), (10, 72), (10, 76), (10, 80), (10, 84), (10, 88), (10, 92), (10, 96), (10, 100), (10, 104), (10, 108), (10, 112)] rfl
def mV_5 : List Nat := [237, 238, 239, 240, 241, 242, 243, 244, 245, 246, 247, 248, 249, 250, 251, 252, 254, 256, 257, 258, 259, 260, 261, 262, 263, 264, 265, 266, 267, 268, 269, 270, 271, 272, 273, 274, 275, 276, 277, 278]
set_option maxRecDepth 40000 in
theorem mV_i_5 : ∀ k ∈ mV_5, mi_word k ∈ lw_tbl := pl_all [(10, 116), (10, 120), (10, 124), (10, 128), (10, 132), (10, 136), (10, 140), (10, 144), (10, 148), (10, 152), (10, 156), (10, 161), (10, 165), (10, 169), (10, 173), (10, 177), (10, 184), (10, 200), (10, 204), (10, 208), (10, 212), (10, 216), (10, 220), (10, 224), (10, 228), (10, 232), (10, 236), (11, 0), (11, 4), (11, 8), (11, 12), (11, 16), (11, 20), (11, 24), (11, 28), (11, 32), (11, 36), (11, 40), (11, 44), (11, 48)] rfl
def mV_6 : List Nat := [279, 280, 281, 282, 283, 284, 285, 286, 287, 288, 289, 290, 291, 292, 293, 294, 295]
set_option maxRecDepth 40000 in
theorem mV_i_6 : ∀ k ∈ mV_6, mi_word k ∈ lw_tbl := pl_all [(11, 52), (11, 56), (11, 60), (11, 64), (11, 68), (11, 72), (11, 76), (11, 80), (11, 83), (11, 88), (11, 93), (11, 97), (11, 104), (11, 108), (11, 113), (11, 117), (11, 121)] rfl
def mV : List Nat := mV_0 ++ (mV_1 ++ (mV_2 ++ (mV_3 ++ (mV_4 ++ (mV_5 ++ (mV_6))))))
theorem mV_i : ∀ k ∈ mV, mi_word k ∈ lw_tbl := pl_app mV_i_0 (pl_app mV_i_1 (pl_app mV_i_2 (pl_app mV_i_3 (pl_app mV_i_4 (pl_app mV_i_5 (mV_i_6))))))
set_option maxRecDepth 40000 in
theorem mV_s_0 : ∀ k ∈ mV_0, ms_word k ∈ lw_tbl := pl_all [(3, 196), (3, 201), (3, 205), (3, 209), (3, 213), (0, 1), (0, 2), (0, 3), (0, 4), (0, 5), (0, 6), (4, 17), (4, 25), (4, 29), (4, 33), (4, 37), (4, 41), (4, 46), (0, 7), (0, 8), (4, 69), (4, 89), (4, 93), (4, 97), (4, 101), (4, 105), (4, 109), (4, 116), (0, 9), (0, 10), (4, 129), (4, 133), (4, 137), (4, 144), (0, 11), (4, 155), (4, 159), (0, 12), (4, 169), (4, 173)] rfl
set_option maxRecDepth 40000 in
theorem mV_s_1 : ∀ k ∈ mV_1, ms_word k ∈ lw_tbl := pl_all [(0, 13), (0, 14), (0, 15), (5, 12), (0, 16), (0, 17), (0, 18), (0, 19), (0, 20), (0, 21), (0, 22), (0, 23), (0, 24), (0, 25), (0, 26), (0, 27), (0, 28), (0, 29), (0, 30), (0, 31), (0, 32), (5, 150), (5, 154), (0, 33), (0, 34), (0, 35), (0, 36), (0, 37), (6, 1), (0, 38), (0, 39), (0, 40), (0, 41), (0, 42), (0, 43), (0, 44), (6, 75), (0, 45), (0, 46), (0, 47)] rfl
set_option maxRecDepth 40000 in
theorem mV_s_2 : ∀ k ∈ mV_2, ms_word k ∈ lw_tbl := pl_all [(6, 93), (6, 98), (6, 102), (6, 106), (0, 48), (0, 49), (6, 121), (6, 125), (6, 130), (6, 134), (6, 139), (6, 143), (0, 50), (6, 156), (0, 51), (6, 165), (0, 52), (0, 53), (0, 54), (0, 55), (0, 56), (0, 57), (0, 58), (6, 216), (6, 220), (0, 59), (6, 228), (6, 232), (6, 237), (7, 1), (0, 60), (7, 11), (7, 15), (7, 20), (0, 61), (7, 28), (0, 62), (7, 37), (0, 63), (7, 46)] rfl
set_option maxRecDepth 40000 in
theorem mV_s_3 : ∀ k ∈ mV_3, ms_word k ∈ lw_tbl := pl_all [(7, 50), (0, 64), (0, 65), (0, 66), (7, 72), (7, 76), (0, 67), (0, 68), (7, 92), (7, 96), (0, 69), (7, 106), (7, 110), (7, 114), (7, 119), (7, 123), (7, 129), (0, 70), (7, 137), (7, 141), (7, 154), (7, 163), (7, 170), (7, 178), (7, 182), (7, 186), (7, 190), (7, 199), (7, 212), (7, 236), (8, 6), (8, 12), (8, 20), (8, 30), (0, 71), (9, 116), (9, 120), (0, 72), (9, 133), (0, 73)] rfl
set_option maxRecDepth 40000 in
theorem mV_s_4 : ∀ k ∈ mV_4, ms_word k ∈ lw_tbl := pl_all [(0, 74), (0, 75), (0, 76), (0, 77), (0, 78), (0, 79), (0, 80), (0, 81), (0, 82), (0, 83), (0, 84), (0, 85), (0, 86), (0, 87), (0, 88), (0, 89), (0, 90), (0, 91), (0, 92), (0, 93), (0, 94), (0, 95), (0, 96), (0, 97), (0, 98), (0, 99), (0, 100), (0, 101), (0, 102), (0, 103), (0, 104), (0, 105), (0, 106), (0, 107), (0, 108), (0, 109), (0, 110), (0, 111), (0, 112), (0, 113)] rfl
set_option maxRecDepth 40000 in
theorem mV_s_5 : ∀ k ∈ mV_5, ms_word k ∈ lw_tbl := pl_all [(0, 114), (0, 115), (0, 116), (0, 117), (0, 118), (0, 119), (0, 120), (0, 121), (0, 122), (0, 123), (0, 124), (0, 125), (0, 126), (0, 127), (0, 128), (0, 129), (0, 130), (0, 131), (0, 132), (0, 133), (0, 134), (0, 135), (0, 136), (0, 137), (0, 138), (0, 139), (0, 140), (0, 141), (0, 142), (0, 143), (0, 144), (0, 145), (0, 146), (0, 147), (0, 148), (0, 149), (0, 150), (0, 151), (0, 152), (0, 153)] rfl
set_option maxRecDepth 40000 in
theorem mV_s_6 : ∀ k ∈ mV_6, ms_word k ∈ lw_tbl := pl_all [(0, 154), (0, 155), (0, 156), (0, 157), (0, 158), (0, 159), (0, 160), (0, 161), (11, 84), (11, 89), (11, 94), (11, 98), (11, 105), (11, 109), (11, 114), (11, 118), (11, 122)] rfl
theorem mV_s : ∀ k ∈ mV, ms_word k ∈ lw_tbl := pl_app mV_s_0 (pl_app mV_s_1 (pl_app mV_s_2 (pl_app mV_s_3 (pl_app mV_s_4 (pl_app mV_s_5 (mV_s_6))))))
def mN_0 : List Nat := [0, 1, 2, 3, 4, 5, 6, 51, 72, 82, 88, 185]
set_option maxRecDepth 40000 in
theorem mN_i_0 : ∀ k ∈ mN_0, mi_word k ∈ lw_tbl := pl_all [(1, 37), (1, 45), (1, 97), (1, 107), (1, 181), (1, 187), (2, 32), (4, 177), (5, 122), (5, 196), (6, 29), (8, 36)] rfl
def mN : List Nat := mN_0
theorem mN_i : ∀ k ∈ mN, mi_word k ∈ lw_tbl := mN_i_0
def mS_0 : List Nat := [7, 8, 20, 71, 108, 114, 115, 117, 142, 161, 162, 165, 167, 172, 174, 176, 178, 181, 183, 189, 197, 199, 202, 204, 253, 255]
set_option maxRecDepth 40000 in
theorem mS_i_0 : ∀ k ∈ mS_0, mx_word k ∈ lw_tbl := pl_all [(2, 84), (2, 87), (4, 10), (5, 114), (6, 147), (6, 173), (6, 176), (6, 187), (7, 59), (7, 145), (7, 148), (7, 166), (7, 174), (7, 195), (7, 207), (7, 232), (8, 2), (8, 16), (8, 26), (9, 124), (9, 157), (9, 164), (9, 175), (9, 223), (10, 180), (10, 191)] rfl
def mS : List Nat := mS_0
theorem mS_i : ∀ k ∈ mS, mx_word k ∈ lw_tbl := mS_i_0
set_option maxRecDepth 40000 in
theorem mt_ini_0 : ∀ q ∈ mt_0, Cond.initialized q.1.cls ∈ lw_tbl := pl_all (f := fun q : mt_T => Cond.initialized q.1.cls) [(1, 1), (1, 2), (1, 3), (1, 4), (1, 5), (1, 6), (1, 7), (1, 8), (1, 8), (1, 1), (1, 4), (1, 7), (1, 5), (1, 2), (1, 2), (1, 2), (1, 2), (1, 2), (1, 2), (1, 2), (1, 28), (1, 2), (1, 6), (1, 3), (1, 30), (1, 31), (1, 33), (1, 32), (1, 27), (1, 5), (1, 5), (1, 2), (1, 3), (1, 3), (1, 3), (1, 3), (1, 3), (1, 3), (1, 2), (1, 5)] rfl
set_option maxRecDepth 40000 in
theorem mt_ini_1 : ∀ q ∈ mt_1, Cond.initialized q.1.cls ∈ lw_tbl := pl_all (f := fun q : mt_T => Cond.initialized q.1.cls) [(1, 5), (1, 3), (1, 3), (1, 3), (1, 2), (1, 5), (1, 3), (1, 3), (1, 5), (1, 3), (1, 3), (1, 30), (1, 5), (1, 5), (1, 5), (1, 6), (1, 6), (1, 6), (1, 6), (1, 6), (1, 6), (1, 6), (1, 6), (1, 6), (1, 6), (1, 6), (1, 6), (1, 6), (1, 6), (1, 6), (1, 6), (1, 8), (1, 31), (1, 5), (1, 5), (1, 3), (1, 30), (1, 5), (1, 5), (1, 5)] rfl
set_option maxRecDepth 40000 in
theorem mt_ini_2 : ∀ q ∈ mt_2, Cond.initialized q.1.cls ∈ lw_tbl := pl_all (f := fun q : mt_T => Cond.initialized q.1.cls) [(1, 5), (1, 5), (1, 32), (1, 6), (1, 5), (1, 5), (1, 5), (1, 5), (1, 33), (1, 5), (1, 5), (1, 5), (1, 3), (1, 5), (1, 5), (1, 5), (1, 3), (1, 5), (1, 3), (1, 4), (1, 1), (1, 1), (1, 3), (1, 3), (1, 3), (1, 7), (1, 4), (1, 4), (1, 4), (1, 7), (1, 3), (1, 7), (1, 31), (1, 31), (1, 31), (1, 31), (1, 31), (1, 31), (1, 31), (1, 7)] rfl
set_option maxRecDepth 40000 in
theorem mt_ini_3 : ∀ q ∈ mt_3, Cond.initialized q.1.cls ∈ lw_tbl := pl_all (f := fun q : mt_T => Cond.initialized q.1.cls) [(1, 7), (1, 7), (1, 7), (1, 3), (1, 33), (1, 7), (1, 4), (1, 4), (1, 4), (1, 4), (1, 7), (1, 4), (1, 4), (1, 4), (1, 7), (1, 4), (1, 7), (1, 30), (1, 7), (1, 30), (1, 4), (1, 7), (1, 7), (1, 7), (1, 7), (1, 7), (1, 30), (1, 30), (1, 30), (1, 3), (1, 3), (1, 3), (1, 3), (1, 3), (1, 3), (1, 3), (1, 3), (1, 3), (1, 1), (1, 1)] rfl
set_option maxRecDepth 40000 in
theorem mt_ini_4 : ∀ q ∈ mt_4, Cond.initialized q.1.cls ∈ lw_tbl := pl_all (f := fun q : mt_T => Cond.initialized q.1.cls) [(1, 3), (1, 8), (1, 0), (1, 1), (1, 2), (1, 0), (1, 1), (1, 0), (1, 1), (1, 3), (1, 3), (1, 3), (1, 0), (1, 1), (1, 0), (1, 1), (1, 0), (1, 1), (1, 0), (1, 1), (1, 30), (1, 0), (1, 1), (1, 0), (1, 1), (1, 25), (1, 25), (1, 25), (1, 25), (1, 25), (1, 25), (1, 25), (1, 25), (1, 25), (1, 25), (1, 25), (1, 25), (1, 25), (1, 25), (1, 25)] rfl
set_option maxRecDepth 40000 in
theorem mt_ini_5 : ∀ q ∈ mt_5, Cond.initialized q.1.cls ∈ lw_tbl := pl_all (f := fun q : mt_T => Cond.initialized q.1.cls) [(1, 25), (1, 25), (1, 25), (1, 25), (1, 25), (1, 25), (1, 25), (1, 25), (1, 25), (1, 25), (1, 25), (1, 25), (1, 25), (1, 25), (1, 25), (1, 25), (1, 25), (1, 25), (1, 25), (1, 25), (1, 25), (1, 25), (1, 25), (1, 25), (1, 25), (1, 25), (1, 25), (1, 25), (1, 25), (1, 25), (1, 25), (1, 25), (1, 25), (1, 25), (1, 25), (1, 25), (1, 25), (1, 25), (1, 25), (1, 25)] rfl
set_option maxRecDepth 40000 in
theorem mt_ini_6 : ∀ q ∈ mt_6, Cond.initialized q.1.cls ∈ lw_tbl := pl_all (f := fun q : mt_T => Cond.initialized q.1.cls) [(1, 25), (1, 25), (1, 25), (1, 25), (1, 25), (1, 25), (1, 25), (1, 25), (1, 25), (1, 25), (1, 25), (1, 25), (1, 25), (1, 25), (1, 25), (1, 25), (1, 25), (1, 25), (1, 25), (1, 25), (1, 25), (1, 25), (1, 25), (1, 25), (1, 25), (1, 25), (1, 25), (1, 25), (1, 25), (1, 25), (1, 25), (1, 25), (1, 25), (1, 25), (1, 25), (1, 25), (1, 25), (1, 25), (1, 25), (1, 25)] rfl
set_option maxRecDepth 40000 in
theorem mt_ini_7 : ∀ q ∈ mt_7, Cond.initialized q.1.cls ∈ lw_tbl := pl_all (f := fun q : mt_T => Cond.initialized q.1.cls) [(1, 25), (1, 25), (1, 25), (1, 25), (1, 25), (1, 25), (1, 25), (1, 25), (1, 25), (1, 25), (1, 25), (1, 25), (1, 25), (1, 25), (1, 25), (1, 25)] rfl
theorem mt_ini : ∀ q ∈ mt, Cond.initialized q.1.cls ∈ lw_tbl := by
  intro q hq
  simp only [mt, List.mem_append] at hq
  rcases hq with ((((((h | h) | h) | h) | h) | h) | h) | h
  · exact mt_ini_0 q h
  · exact mt_ini_1 q h
  · exact mt_ini_2 q h
  · exact mt_ini_3 q h
  · exact mt_ini_4 q h
  · exact mt_ini_5 q h
  · exact mt_ini_6 q h
  · exact mt_ini_7 q h
theorem mt_plain : mt.all (fun q => plainName q.1.cls) = true := by decide +kernel
