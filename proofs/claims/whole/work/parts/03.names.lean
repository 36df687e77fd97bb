/-- a method: name, code, locals, answer, table of handlers -/
abbrev Mt : Type := MethodName × ByteArray × Nat × Option FieldType × List (Nat × Nat × Nat × Nat)
/-- a word that stays true while the tables grow warmer -/
def okW : Cond → Bool
  | .fieldLinkNest .. => true
  | .methodLinkNest .. => true
  | w => goodWord w
theorem okW_tr {w : Cond} (h : okW w = true) {s U : State} {a a' : Array Value} (hW : s.WarmedH U.vm) (hb : w.before a s = true) : w.before a' U = true := by
  cases w <;> first
    | exact va_Nw.use rfl (va_Nw.warmF hW (va_Nw.of rfl hb))
    | exact va_Nw.use rfl (va_Nw.warmM hW (va_Nw.of rfl hb))
    | exact word_at hW (good_of_word h) hb
def InT (w : Cond) : Prop := w ∈ lw_tbl ∧ okW w = true
/-! names, by program (wip/whole/gen03.py): classes and fields, methods, words of the tables by their places, decode rows -/
def nT0 : u_T := fun k => match k with
  | 0 => ("NameWriter$Nodes", "cells", "[I", true)
  | 1 => ("NameWriter$Nodes", "kept", "I", false)
  | _ => ("NameWriter$Nodes", "drafted", "I", false)
def nY0 : Nat → FieldType := fun k => match k with
  | 0 => .array .int
  | 1 => .int
  | _ => .int
def nT1 : u_T := fun k => match k with
  | 0 => ("NameWriter$Reader", "told", "LNameWriter$Row;", true)
  | 1 => ("NameWriter$Reader", "nodes", "LNameWriter$Nodes;", true)
  | 2 => ("NameWriter$Reader", "letters", "LNameWriter$Row;", true)
  | _ => ("NameWriter$Reader", "place", "I", false)
def nY1 : Nat → FieldType := fun k => match k with
  | 0 => .object "NameWriter$Row"
  | 1 => .object "NameWriter$Nodes"
  | 2 => .object "NameWriter$Row"
  | _ => .int
def nT2 : u_T := fun k => match k with
  | 0 => ("NameWriter$Row", "items", "[I", true)
  | _ => ("NameWriter$Row", "size", "I", false)
def nY2 : Nat → FieldType := fun k => match k with
  | 0 => .array .int
  | _ => .int
def nT3 : u_T := fun k => match k with
  | 0 => ("NameWriter$Writer", "letters", "LNameWriter$Row;", true)
  | 1 => ("NameWriter$Writer", "told", "LNameWriter$Row;", true)
  | _ => ("NameWriter$Writer", "nodes", "LNameWriter$Nodes;", true)
def nY3 : Nat → FieldType := fun k => match k with
  | 0 => .object "NameWriter$Row"
  | 1 => .object "NameWriter$Row"
  | _ => .object "NameWriter$Nodes"
def nT4 : u_T := fun k => match k with
  | 0 => ("NameWriter", "nodes", "LNameWriter$Nodes;", true)
  | 1 => ("NameWriter", "text", "LNameWriter$Row;", true)
  | 2 => ("NameWriter", "table", "LNameWriter$Row;", true)
  | 3 => ("NameWriter", "writer", "LNameWriter$Writer;", true)
  | _ => ("NameWriter", "reader", "LNameWriter$Reader;", true)
def nY4 : Nat → FieldType := fun k => match k with
  | 0 => .object "NameWriter$Nodes"
  | 1 => .object "NameWriter$Row"
  | 2 => .object "NameWriter$Row"
  | 3 => .object "NameWriter$Writer"
  | _ => .object "NameWriter$Reader"
def nT5 : u_T := fun k => match k with
  | 0 => ("NameWriterModel", "thrown", "I", false)
  | 1 => ("NameWriterModel", "count", "I", false)
  | 2 => ("NameWriterModel", "all", "I", false)
  | 3 => ("NameWriterModel", "kind", "[I", true)
  | 4 => ("NameWriterModel", "value", "[I", true)
  | 5 => ("NameWriterModel", "first", "[I", true)
  | 6 => ("NameWriterModel", "gives", "[I", true)
  | 7 => ("NameWriterModel", "parts", "[I", true)
  | 8 => ("NameWriterModel", "depth", "[I", true)
  | 9 => ("NameWriterModel", "text", "[I", true)
  | 10 => ("NameWriterModel", "size", "I", false)
  | 11 => ("NameWriterModel", "out", "[I", true)
  | 12 => ("NameWriterModel", "outs", "I", false)
  | 13 => ("NameWriterModel", "over", "Z", false)
  | 14 => ("NameWriterModel", "seen", "I", false)
  | 15 => ("NameWriterModel", "seenTable", "[I", true)
  | 16 => ("NameWriterModel", "entries", "I", false)
  | 17 => ("NameWriterModel", "entry", "[I", true)
  | 18 => ("NameWriterModel", "top", "I", false)
  | 19 => ("NameWriterModel", "task", "[I", true)
  | 20 => ("NameWriterModel", "of", "[I", true)
  | 21 => ("NameWriterModel", "number", "[I", true)
  | 22 => ("NameWriterModel", "list", "[I", true)
  | 23 => ("NameWriterModel", "at", "I", false)
  | 24 => ("NameWriterModel", "wrong", "Z", false)
  | _ => ("NameWriterModel", "nested", "Z", false)
def nY5 : Nat → FieldType := fun k => match k with
  | 0 => .int
  | 1 => .int
  | 2 => .int
  | 3 => .array .int
  | 4 => .array .int
  | 5 => .array .int
  | 6 => .array .int
  | 7 => .array .int
  | 8 => .array .int
  | 9 => .array .int
  | 10 => .int
  | 11 => .array .int
  | 12 => .int
  | 13 => .boolean
  | 14 => .int
  | 15 => .array .int
  | 16 => .int
  | 17 => .array .int
  | 18 => .int
  | 19 => .array .int
  | 20 => .array .int
  | 21 => .array .int
  | 22 => .array .int
  | 23 => .int
  | 24 => .boolean
  | _ => .boolean
abbrev vCl : List vw_C := [("NameWriter$Nodes", nT0, 3), ("NameWriter$Reader", nT1, 4), ("NameWriter$Row", nT2, 2), ("NameWriter$Writer", nT3, 3), ("NameWriter", nT4, 5), ("NameWriterModel", nT5, 26)]
theorem nN0 : ∀ a, a < 3 → ∀ b, b < 3 → a ≠ b → (nT0 a).2.1 ≠ (nT0 b).2.1 := by decide +kernel
theorem nP0 : ∀ k, k < 3 → parseFieldDescriptor (nT0 k).2.2.1 = some (nY0 k) := by decide +kernel
theorem nU0 : ∀ w ∈ u_ws "NameWriter$Nodes" nT0 3, w ∈ lw_tbl := by decide +kernel
theorem nN1 : ∀ a, a < 4 → ∀ b, b < 4 → a ≠ b → (nT1 a).2.1 ≠ (nT1 b).2.1 := by decide +kernel
theorem nP1 : ∀ k, k < 4 → parseFieldDescriptor (nT1 k).2.2.1 = some (nY1 k) := by decide +kernel
theorem nU1 : ∀ w ∈ u_ws "NameWriter$Reader" nT1 4, w ∈ lw_tbl := by decide +kernel
theorem nN2 : ∀ a, a < 2 → ∀ b, b < 2 → a ≠ b → (nT2 a).2.1 ≠ (nT2 b).2.1 := by decide +kernel
theorem nP2 : ∀ k, k < 2 → parseFieldDescriptor (nT2 k).2.2.1 = some (nY2 k) := by decide +kernel
theorem nU2 : ∀ w ∈ u_ws "NameWriter$Row" nT2 2, w ∈ lw_tbl := by decide +kernel
theorem nN3 : ∀ a, a < 3 → ∀ b, b < 3 → a ≠ b → (nT3 a).2.1 ≠ (nT3 b).2.1 := by decide +kernel
theorem nP3 : ∀ k, k < 3 → parseFieldDescriptor (nT3 k).2.2.1 = some (nY3 k) := by decide +kernel
theorem nU3 : ∀ w ∈ u_ws "NameWriter$Writer" nT3 3, w ∈ lw_tbl := by decide +kernel
theorem nN4 : ∀ a, a < 5 → ∀ b, b < 5 → a ≠ b → (nT4 a).2.1 ≠ (nT4 b).2.1 := by decide +kernel
theorem nP4 : ∀ k, k < 5 → parseFieldDescriptor (nT4 k).2.2.1 = some (nY4 k) := by decide +kernel
theorem nU4 : ∀ w ∈ u_ws "NameWriter" nT4 5, w ∈ lw_tbl := by decide +kernel
theorem nN5 : ∀ a, a < 26 → ∀ b, b < 26 → a ≠ b → (nT5 a).2.1 ≠ (nT5 b).2.1 := by decide +kernel
theorem nP5 : ∀ k, k < 26 → parseFieldDescriptor (nT5 k).2.2.1 = some (nY5 k) := by decide +kernel
theorem nU5 : ∀ w ∈ u_ws "NameWriterModel" nT5 26, w ∈ lw_tbl := by decide +kernel
