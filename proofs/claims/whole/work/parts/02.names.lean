/-! names: classes, fields, methods; what the tables say of them. Printed by wip/whole/gen2.py out of the claim's own tables -/
def xTbl : List Cond := lw_tbl.filter goodWord
abbrev xM : Type := MethodName × ByteArray × Nat × Option FieldType
def xF0 : u_T := fun k => match k with
  | 0 => ("PastTheRim$Car", "depth", "I", false)
  | 1 => ("PastTheRim$Car", "ice", "I", false)
  | 2 => ("PastTheRim$Car", "height", "I", false)
  | 3 => ("PastTheRim$Car", "side", "I", false)
  | 4 => ("PastTheRim$Car", "sand", "I", false)
  | 5 => ("PastTheRim$Car", "swing", "I", false)
  | 6 => ("PastTheRim$Car", "outs", "I", false)
  | _ => ("PastTheRim$Car", "out", "Z", false)
def xY0 : Nat → FieldType := fun k => match k with
  | 0 => .int
  | 1 => .int
  | 2 => .int
  | 3 => .int
  | 4 => .int
  | 5 => .int
  | 6 => .int
  | _ => .boolean
theorem xFn0 : ∀ a, a < 8 → ∀ b, b < 8 → a ≠ b → (xF0 a).2.1 ≠ (xF0 b).2.1 := by decide +kernel
theorem xFt0 : ∀ k, k < 8 → parseFieldDescriptor (xF0 k).2.2.1 = some (xY0 k) := by decide +kernel
theorem xFi0 : ∀ w ∈ u_ws "PastTheRim$Car" xF0 8, w ∈ xTbl := by decide +kernel
def xF1 : u_T := fun k => match k with
  | 0 => ("PastTheRim$Law", "use", "I", true)
  | 1 => ("PastTheRim$Law", "code", "[I", true)
  | 2 => ("PastTheRim$Law", "stack", "[I", true)
  | 3 => ("PastTheRim$Law", "length", "I", false)
  | _ => ("PastTheRim$Law", "hasText", "Z", false)
def xY1 : Nat → FieldType := fun k => match k with
  | 0 => .int
  | 1 => .array .int
  | 2 => .array .int
  | 3 => .int
  | _ => .boolean
theorem xFn1 : ∀ a, a < 5 → ∀ b, b < 5 → a ≠ b → (xF1 a).2.1 ≠ (xF1 b).2.1 := by decide +kernel
theorem xFt1 : ∀ k, k < 5 → parseFieldDescriptor (xF1 k).2.2.1 = some (xY1 k) := by decide +kernel
theorem xFi1 : ∀ w ∈ u_ws "PastTheRim$Law" xF1 5, w ∈ xTbl := by decide +kernel
def xF2 : u_T := fun k => match k with
  | 0 => ("PastTheRim$Numbers", "cells", "[I", true)
  | _ => ("PastTheRim$Numbers", "size", "I", false)
def xY2 : Nat → FieldType := fun k => match k with
  | 0 => .array .int
  | _ => .int
theorem xFn2 : ∀ a, a < 2 → ∀ b, b < 2 → a ≠ b → (xF2 a).2.1 ≠ (xF2 b).2.1 := by decide +kernel
theorem xFt2 : ∀ k, k < 2 → parseFieldDescriptor (xF2 k).2.2.1 = some (xY2 k) := by decide +kernel
theorem xFi2 : ∀ w ∈ u_ws "PastTheRim$Numbers" xF2 2, w ∈ xTbl := by decide +kernel
def xF3 : u_T := fun k => match k with
  | 0 => ("PastTheRim$Pushers", "kinds", "[I", true)
  | 1 => ("PastTheRim$Pushers", "levels", "[I", true)
  | _ => ("PastTheRim$Pushers", "size", "I", false)
def xY3 : Nat → FieldType := fun k => match k with
  | 0 => .array .int
  | 1 => .array .int
  | _ => .int
theorem xFn3 : ∀ a, a < 3 → ∀ b, b < 3 → a ≠ b → (xF3 a).2.1 ≠ (xF3 b).2.1 := by decide +kernel
theorem xFt3 : ∀ k, k < 3 → parseFieldDescriptor (xF3 k).2.2.1 = some (xY3 k) := by decide +kernel
theorem xFi3 : ∀ w ∈ u_ws "PastTheRim$Pushers" xF3 3, w ∈ xTbl := by decide +kernel
def xF4 : u_T := fun k => match k with
  | 0 => ("PastTheRim$Reader", "tape", "LPastTheRim$Numbers;", true)
  | 1 => ("PastTheRim$Reader", "code", "LPastTheRim$Numbers;", true)
  | 2 => ("PastTheRim$Reader", "use", "I", false)
  | _ => ("PastTheRim$Reader", "place", "I", false)
def xY4 : Nat → FieldType := fun k => match k with
  | 0 => .object "PastTheRim$Numbers"
  | 1 => .object "PastTheRim$Numbers"
  | 2 => .int
  | _ => .int
theorem xFn4 : ∀ a, a < 4 → ∀ b, b < 4 → a ≠ b → (xF4 a).2.1 ≠ (xF4 b).2.1 := by decide +kernel
theorem xFt4 : ∀ k, k < 4 → parseFieldDescriptor (xF4 k).2.2.1 = some (xY4 k) := by decide +kernel
theorem xFi4 : ∀ w ∈ u_ws "PastTheRim$Reader" xF4 4, w ∈ xTbl := by decide +kernel
def xF5 : u_T := fun k => match k with
  | 0 => ("PastTheRim$Rows", "cars", "[LPastTheRim$Car;", true)
  | 1 => ("PastTheRim$Rows", "sought", "LPastTheRim$Numbers;", true)
  | 2 => ("PastTheRim$Rows", "row", "[I", true)
  | 3 => ("PastTheRim$Rows", "keptRow", "[I", true)
  | 4 => ("PastTheRim$Rows", "aim", "I", false)
  | 5 => ("PastTheRim$Rows", "length", "I", false)
  | 6 => ("PastTheRim$Rows", "fewest", "I", false)
  | 7 => ("PastTheRim$Rows", "over", "I", false)
  | _ => ("PastTheRim$Rows", "found", "I", false)
def xY5 : Nat → FieldType := fun k => match k with
  | 0 => .array (.object "PastTheRim$Car")
  | 1 => .object "PastTheRim$Numbers"
  | 2 => .array .int
  | 3 => .array .int
  | 4 => .int
  | 5 => .int
  | 6 => .int
  | 7 => .int
  | _ => .int
theorem xFn5 : ∀ a, a < 9 → ∀ b, b < 9 → a ≠ b → (xF5 a).2.1 ≠ (xF5 b).2.1 := by decide +kernel
theorem xFt5 : ∀ k, k < 9 → parseFieldDescriptor (xF5 k).2.2.1 = some (xY5 k) := by decide +kernel
theorem xFi5 : ∀ w ∈ u_ws "PastTheRim$Rows" xF5 9, w ∈ xTbl := by decide +kernel
def xF6 : u_T := fun k => match k with
  | 0 => ("PastTheRim$Sheet", "numbers", "[I", true)
  | 1 => ("PastTheRim$Sheet", "bits", "I", false)
  | _ => ("PastTheRim$Sheet", "size", "I", false)
def xY6 : Nat → FieldType := fun k => match k with
  | 0 => .array .int
  | 1 => .int
  | _ => .int
theorem xFn6 : ∀ a, a < 3 → ∀ b, b < 3 → a ≠ b → (xF6 a).2.1 ≠ (xF6 b).2.1 := by decide +kernel
theorem xFt6 : ∀ k, k < 3 → parseFieldDescriptor (xF6 k).2.2.1 = some (xY6 k) := by decide +kernel
theorem xFi6 : ∀ w ∈ u_ws "PastTheRim$Sheet" xF6 3, w ∈ xTbl := by decide +kernel
def xF7 : u_T := fun k => match k with
  | 0 => ("PastTheRim$Voices", "trace", "LPastTheRim$Numbers;", true)
  | 1 => ("PastTheRim$Voices", "kind", "I", false)
  | 2 => ("PastTheRim$Voices", "k", "I", false)
  | 3 => ("PastTheRim$Voices", "m", "I", false)
  | 4 => ("PastTheRim$Voices", "answer", "I", false)
  | _ => ("PastTheRim$Voices", "parted", "Z", false)
def xY7 : Nat → FieldType := fun k => match k with
  | 0 => .object "PastTheRim$Numbers"
  | 1 => .int
  | 2 => .int
  | 3 => .int
  | 4 => .int
  | _ => .boolean
theorem xFn7 : ∀ a, a < 6 → ∀ b, b < 6 → a ≠ b → (xF7 a).2.1 ≠ (xF7 b).2.1 := by decide +kernel
theorem xFt7 : ∀ k, k < 6 → parseFieldDescriptor (xF7 k).2.2.1 = some (xY7 k) := by decide +kernel
theorem xFi7 : ∀ w ∈ u_ws "PastTheRim$Voices" xF7 6, w ∈ xTbl := by decide +kernel
def xF8 : u_T := fun k => match k with
  | 0 => ("PastTheRim$World", "car", "LPastTheRim$Car;", true)
  | 1 => ("PastTheRim$World", "pushers", "LPastTheRim$Pushers;", true)
  | 2 => ("PastTheRim$World", "grip", "LPastTheRim$Law;", true)
  | 3 => ("PastTheRim$World", "rub", "LPastTheRim$Law;", true)
  | 4 => ("PastTheRim$World", "tape", "LPastTheRim$Numbers;", true)
  | 5 => ("PastTheRim$World", "waiting", "LPastTheRim$Numbers;", true)
  | _ => ("PastTheRim$World", "z", "I", false)
def xY8 : Nat → FieldType := fun k => match k with
  | 0 => .object "PastTheRim$Car"
  | 1 => .object "PastTheRim$Pushers"
  | 2 => .object "PastTheRim$Law"
  | 3 => .object "PastTheRim$Law"
  | 4 => .object "PastTheRim$Numbers"
  | 5 => .object "PastTheRim$Numbers"
  | _ => .int
theorem xFn8 : ∀ a, a < 7 → ∀ b, b < 7 → a ≠ b → (xF8 a).2.1 ≠ (xF8 b).2.1 := by decide +kernel
theorem xFt8 : ∀ k, k < 7 → parseFieldDescriptor (xF8 k).2.2.1 = some (xY8 k) := by decide +kernel
theorem xFi8 : ∀ w ∈ u_ws "PastTheRim$World" xF8 7, w ∈ xTbl := by decide +kernel
def xF9 : u_T := fun k => match k with
  | 0 => ("PastTheRim", "world", "LPastTheRim$World;", true)
  | 1 => ("PastTheRim", "kept", "LPastTheRim$World;", true)
  | 2 => ("PastTheRim", "thought", "LPastTheRim$Car;", true)
  | 3 => ("PastTheRim", "rows", "LPastTheRim$Rows;", true)
  | 4 => ("PastTheRim", "reader", "LPastTheRim$Reader;", true)
  | 5 => ("PastTheRim", "voices", "LPastTheRim$Voices;", true)
  | 6 => ("PastTheRim", "sheets", "[LPastTheRim$Sheet;", true)
  | 7 => ("PastTheRim", "failed", "[I", true)
  | _ => ("PastTheRim", "images", "I", false)
def xY9 : Nat → FieldType := fun k => match k with
  | 0 => .object "PastTheRim$World"
  | 1 => .object "PastTheRim$World"
  | 2 => .object "PastTheRim$Car"
  | 3 => .object "PastTheRim$Rows"
  | 4 => .object "PastTheRim$Reader"
  | 5 => .object "PastTheRim$Voices"
  | 6 => .array (.object "PastTheRim$Sheet")
  | 7 => .array .int
  | _ => .int
theorem xFn9 : ∀ a, a < 9 → ∀ b, b < 9 → a ≠ b → (xF9 a).2.1 ≠ (xF9 b).2.1 := by decide +kernel
theorem xFt9 : ∀ k, k < 9 → parseFieldDescriptor (xF9 k).2.2.1 = some (xY9 k) := by decide +kernel
theorem xFi9 : ∀ w ∈ u_ws "PastTheRim" xF9 9, w ∈ xTbl := by decide +kernel
def xF10 : u_T := fun k => match k with
  | 0 => ("PastTheRimModel", "s", "[I", true)
  | 1 => ("PastTheRimModel", "kept", "[I", true)
  | 2 => ("PastTheRimModel", "laid", "[I", true)
  | 3 => ("PastTheRimModel", "images", "I", false)
  | 4 => ("PastTheRimModel", "errors", "[I", true)
  | 5 => ("PastTheRimModel", "there", "I", false)
  | 6 => ("PastTheRimModel", "at", "I", false)
  | 7 => ("PastTheRimModel", "open", "I", false)
  | 8 => ("PastTheRimModel", "steps", "I", false)
  | 9 => ("PastTheRimModel", "use", "I", false)
  | 10 => ("PastTheRimModel", "step", "[I", true)
  | 11 => ("PastTheRimModel", "named", "[I", true)
  | 12 => ("PastTheRimModel", "pile", "[I", true)
  | 13 => ("PastTheRimModel", "outBehind", "I", false)
  | 14 => ("PastTheRimModel", "above1", "I", false)
  | 15 => ("PastTheRimModel", "traced", "I", false)
  | 16 => ("PastTheRimModel", "trace", "[I", true)
  | 17 => ("PastTheRimModel", "speaks", "I", false)
  | 18 => ("PastTheRimModel", "isParted", "Z", false)
  | 19 => ("PastTheRimModel", "bits", "[I", true)
  | 20 => ("PastTheRimModel", "sizes", "[I", true)
  | 21 => ("PastTheRimModel", "number", "[I", true)
  | _ => ("PastTheRimModel", "aside", "[I", true)
def xY10 : Nat → FieldType := fun k => match k with
  | 0 => .array .int
  | 1 => .array .int
  | 2 => .array .int
  | 3 => .int
  | 4 => .array .int
  | 5 => .int
  | 6 => .int
  | 7 => .int
  | 8 => .int
  | 9 => .int
  | 10 => .array .int
  | 11 => .array .int
  | 12 => .array .int
  | 13 => .int
  | 14 => .int
  | 15 => .int
  | 16 => .array .int
  | 17 => .int
  | 18 => .boolean
  | 19 => .array .int
  | 20 => .array .int
  | 21 => .array .int
  | _ => .array .int
theorem xFn10 : ∀ a, a < 23 → ∀ b, b < 23 → a ≠ b → (xF10 a).2.1 ≠ (xF10 b).2.1 := by decide +kernel
theorem xFt10 : ∀ k, k < 23 → parseFieldDescriptor (xF10 k).2.2.1 = some (xY10 k) := by decide +kernel
theorem xFi10 : ∀ w ∈ u_ws "PastTheRimModel" xF10 23, w ∈ xTbl := by decide +kernel
def xcl : List vw_C := [("PastTheRim$Car", xF0, 8), ("PastTheRim$Law", xF1, 5), ("PastTheRim$Numbers", xF2, 2), ("PastTheRim$Pushers", xF3, 3), ("PastTheRim$Reader", xF4, 4), ("PastTheRim$Rows", xF5, 9), ("PastTheRim$Sheet", xF6, 3), ("PastTheRim$Voices", xF7, 6), ("PastTheRim$World", xF8, 7), ("PastTheRim", xF9, 9), ("PastTheRimModel", xF10, 23)]
theorem xcl_ok : ∀ (ci : Nat) (q : vw_C), xcl[ci]? = some q → (∀ w ∈ u_ws q.1 q.2.1 q.2.2, w ∈ xTbl) ∧ (∃ ty : Nat → FieldType, ∀ k, k < q.2.2 → parseFieldDescriptor (q.2.1 k).2.2.1 = some (ty k)) ∧ (∀ a, a < q.2.2 → ∀ b, b < q.2.2 → a ≠ b → (q.2.1 a).2.1 ≠ (q.2.1 b).2.1) := by
  intro ci q h
  have hl : ci < 11 := (List.getElem?_eq_some_iff.mp h).1
  rcases (show ci = 0 ∨ ci = 1 ∨ ci = 2 ∨ ci = 3 ∨ ci = 4 ∨ ci = 5 ∨ ci = 6 ∨ ci = 7 ∨ ci = 8 ∨ ci = 9 ∨ ci = 10 by omega) with rfl | rfl | rfl | rfl | rfl | rfl | rfl | rfl | rfl | rfl | rfl <;> cases h
  · exact ⟨xFi0, ⟨xY0, xFt0⟩, xFn0⟩
  · exact ⟨xFi1, ⟨xY1, xFt1⟩, xFn1⟩
  · exact ⟨xFi2, ⟨xY2, xFt2⟩, xFn2⟩
  · exact ⟨xFi3, ⟨xY3, xFt3⟩, xFn3⟩
  · exact ⟨xFi4, ⟨xY4, xFt4⟩, xFn4⟩
  · exact ⟨xFi5, ⟨xY5, xFt5⟩, xFn5⟩
  · exact ⟨xFi6, ⟨xY6, xFt6⟩, xFn6⟩
  · exact ⟨xFi7, ⟨xY7, xFt7⟩, xFn7⟩
  · exact ⟨xFi8, ⟨xY8, xFt8⟩, xFn8⟩
  · exact ⟨xFi9, ⟨xY9, xFt9⟩, xFn9⟩
  · exact ⟨xFi10, ⟨xY10, xFt10⟩, xFn10⟩
def m_P_init : xM := (⟨"PastTheRim", "<init>", "()V"⟩, prog_1_method_1_code, 2, none)
def m_World_init : xM := (⟨"PastTheRim$World", "<init>", "()V"⟩, prog_11_method_1_code, 1, none)
def m_Car_init : xM := (⟨"PastTheRim$Car", "<init>", "()V"⟩, prog_2_method_1_code, 1, none)
def m_Push_init : xM := (⟨"PastTheRim$Pushers", "<init>", "()V"⟩, prog_6_method_1_code, 1, none)
def m_Law_init : xM := (⟨"PastTheRim$Law", "<init>", "(I)V"⟩, prog_4_method_1_code, 2, none)
def m_Nums_init : xM := (⟨"PastTheRim$Numbers", "<init>", "(I)V"⟩, prog_5_method_1_code, 2, none)
def m_J_max : xM := (⟨"java/lang/Math", "max", "(II)I"⟩, prog_15_method_65_code, 2, (some .int))
def m_Rows_init : xM := (⟨"PastTheRim$Rows", "<init>", "()V"⟩, prog_8_method_1_code, 2, none)
def m_Read_init : xM := (⟨"PastTheRim$Reader", "<init>", "()V"⟩, prog_7_method_1_code, 1, none)
def m_Voi_init : xM := (⟨"PastTheRim$Voices", "<init>", "()V"⟩, prog_10_method_1_code, 1, none)
def m_Sheet_init : xM := (⟨"PastTheRim$Sheet", "<init>", "()V"⟩, prog_9_method_1_code, 1, none)
def m_P_pusher : xM := (⟨"PastTheRim", "pusher", "(I)I"⟩, prog_1_method_2_code, 2, (some .int))
def m_P_isKindAndLevel : xM := (⟨"PastTheRim", "isKindAndLevel", "(I)Z"⟩, prog_1_method_49_code, 1, (some .boolean))
def m_Kinds_isKind : xM := (⟨"PastTheRim$Kinds", "isKind", "(I)Z"⟩, prog_3_method_2_code, 1, (some .boolean))
def m_P_fails : xM := (⟨"PastTheRim", "fails", "(I)I"⟩, prog_1_method_41_code, 2, (some .int))
def m_Push_hasRoom : xM := (⟨"PastTheRim$Pushers", "hasRoom", "()Z"⟩, prog_6_method_4_code, 1, (some .boolean))
def m_Push_comes : xM := (⟨"PastTheRim$Pushers", "comes", "(II)I"⟩, prog_6_method_5_code, 3, (some .int))
def m_Push_turn : xM := (⟨"PastTheRim$Pushers", "turn", "(III)V"⟩, prog_6_method_6_code, 4, none)
def m_Push_has : xM := (⟨"PastTheRim$Pushers", "has", "(I)Z"⟩, prog_6_method_3_code, 2, (some .boolean))
def m_P_pusherIs : xM := (⟨"PastTheRim", "pusherIs", "(II)I"⟩, prog_1_method_3_code, 3, (some .int))
def m_Push_kindOf : xM := (⟨"PastTheRim$Pushers", "kindOf", "(I)I"⟩, prog_6_method_8_code, 2, (some .int))
def m_Push_levelOf : xM := (⟨"PastTheRim$Pushers", "levelOf", "(I)I"⟩, prog_6_method_9_code, 2, (some .int))
def m_Push_pushOf : xM := (⟨"PastTheRim$Pushers", "pushOf", "(ILPastTheRim$Car;)I"⟩, prog_6_method_11_code, 7, (some .int))
def m_Push_weightOf : xM := (⟨"PastTheRim$Pushers", "weightOf", "(I)I"⟩, prog_6_method_10_code, 2, (some .int))
def m_P_become : xM := (⟨"PastTheRim", "become", "(II)I"⟩, prog_1_method_4_code, 4, (some .int))
def m_P_as : xM := (⟨"PastTheRim", "as", "(II)I"⟩, prog_1_method_5_code, 3, (some .int))
def m_Kinds_isUnder : xM := (⟨"PastTheRim$Kinds", "isUnder", "(II)Z"⟩, prog_3_method_4_code, 4, (some .boolean))
def m_Kinds_above : xM := (⟨"PastTheRim$Kinds", "above", "(I)I"⟩, prog_3_method_3_code, 1, (some .int))
def m_P_leaves : xM := (⟨"PastTheRim", "leaves", "()I"⟩, prog_1_method_6_code, 1, (some .int))
def m_Push_size : xM := (⟨"PastTheRim$Pushers", "size", "()I"⟩, prog_6_method_2_code, 1, (some .int))
def m_Push_dropLast : xM := (⟨"PastTheRim$Pushers", "dropLast", "()V"⟩, prog_6_method_7_code, 1, none)
def m_P_car : xM := (⟨"PastTheRim", "car", "(II)I"⟩, prog_1_method_7_code, 4, (some .int))
def m_Car_canBecome : xM := (⟨"PastTheRim$Car", "canBecome", "(II)Z"⟩, prog_2_method_2_code, 2, (some .boolean))
def m_P_within : xM := (⟨"PastTheRim", "within", "(III)Z"⟩, prog_1_method_47_code, 3, (some .boolean))
def m_Car_tells : xM := (⟨"PastTheRim$Car", "tells", "(I)I"⟩, prog_2_method_3_code, 2, (some .int))
def m_Car_alter : xM := (⟨"PastTheRim$Car", "alter", "(II)V"⟩, prog_2_method_4_code, 3, none)
def m_P_carIs : xM := (⟨"PastTheRim", "carIs", "(I)I"⟩, prog_1_method_8_code, 2, (some .int))
def m_P_park : xM := (⟨"PastTheRim", "park", "(I)I"⟩, prog_1_method_9_code, 2, (some .int))
def m_Car_standIn : xM := (⟨"PastTheRim$Car", "standIn", "(I)V"⟩, prog_2_method_5_code, 2, none)
def m_P_feed : xM := (⟨"PastTheRim", "feed", "(JI)I"⟩, prog_1_method_10_code, 5, (some .int))
def m_Nums_hasRoom : xM := (⟨"PastTheRim$Numbers", "hasRoom", "(I)Z"⟩, prog_5_method_4_code, 2, (some .boolean))
def m_Nums_add : xM := (⟨"PastTheRim$Numbers", "add", "(I)V"⟩, prog_5_method_6_code, 2, none)
def m_Nums_size : xM := (⟨"PastTheRim$Numbers", "size", "()I"⟩, prog_5_method_2_code, 1, (some .int))
def m_P_text : xM := (⟨"PastTheRim", "text", "(I)I"⟩, prog_1_method_11_code, 3, (some .int))
def m_Read_reads : xM := (⟨"PastTheRim$Reader", "reads", "(LPastTheRim$Numbers;I)Z"⟩, prog_7_method_2_code, 3, (some .boolean))
def m_Nums_copyFrom : xM := (⟨"PastTheRim$Numbers", "copyFrom", "(LPastTheRim$Numbers;)V"⟩, prog_5_method_8_code, 2, none)
def m_J_min : xM := (⟨"java/lang/Math", "min", "(II)I"⟩, prog_15_method_69_code, 2, (some .int))
def m_Nums_empty : xM := (⟨"PastTheRim$Numbers", "empty", "()V"⟩, prog_5_method_7_code, 1, none)
def m_Read_readsPart : xM := (⟨"PastTheRim$Reader", "readsPart", "(II)Z"⟩, prog_7_method_5_code, 3, (some .boolean))
def m_Read_readsLeaf : xM := (⟨"PastTheRim$Reader", "readsLeaf", "(I)Z"⟩, prog_7_method_7_code, 4, (some .boolean))
def m_Read_sign : xM := (⟨"PastTheRim$Reader", "sign", "()I"⟩, prog_7_method_10_code, 1, (some .int))
def m_Nums_has : xM := (⟨"PastTheRim$Numbers", "has", "(I)Z"⟩, prog_5_method_3_code, 2, (some .boolean))
def m_Nums_at : xM := (⟨"PastTheRim$Numbers", "at", "(I)I"⟩, prog_5_method_5_code, 2, (some .int))
def m_Read_isDigit : xM := (⟨"PastTheRim$Reader", "isDigit", "(I)Z"⟩, prog_7_method_12_code, 1, (some .boolean))
def m_Read_readNumber : xM := (⟨"PastTheRim$Reader", "readNumber", "()V"⟩, prog_7_method_9_code, 3, none)
def m_Read_readsOpened : xM := (⟨"PastTheRim$Reader", "readsOpened", "(II)Z"⟩, prog_7_method_8_code, 4, (some .boolean))
def m_Read_nameOf : xM := (⟨"PastTheRim$Reader", "nameOf", "(I)I"⟩, prog_7_method_11_code, 2, (some .int))
def m_Read_readsLevel : xM := (⟨"PastTheRim$Reader", "readsLevel", "(II)Z"⟩, prog_7_method_6_code, 6, (some .boolean))
def m_Read_levelOf : xM := (⟨"PastTheRim$Reader", "levelOf", "(I)I"⟩, prog_7_method_13_code, 1, (some .int))
def m_Read_place : xM := (⟨"PastTheRim$Reader", "place", "()I"⟩, prog_7_method_3_code, 1, (some .int))
def m_World_lawOf : xM := (⟨"PastTheRim$World", "lawOf", "(I)LPastTheRim$Law;"⟩, prog_11_method_2_code, 2, (some (.object "PastTheRim$Law")))
def m_Read_code : xM := (⟨"PastTheRim$Reader", "code", "()LPastTheRim$Numbers;"⟩, prog_7_method_4_code, 1, (some (.object "PastTheRim$Numbers")))
def m_Law_takes : xM := (⟨"PastTheRim$Law", "takes", "(LPastTheRim$Numbers;)V"⟩, prog_4_method_2_code, 3, none)
def m_P_untell : xM := (⟨"PastTheRim", "untell", "(I)I"⟩, prog_1_method_12_code, 2, (some .int))
def m_Law_forgets : xM := (⟨"PastTheRim$Law", "forgets", "()Z"⟩, prog_4_method_3_code, 2, (some .boolean))
def m_P_law : xM := (⟨"PastTheRim", "law", "(IIII)I"⟩, prog_1_method_13_code, 5, (some .int))
def m_Law_gives : xM := (⟨"PastTheRim$Law", "gives", "(III)I"⟩, prog_4_method_4_code, 4, (some .int))
def m_Law_byText : xM := (⟨"PastTheRim$Law", "byText", "(III)I"⟩, prog_4_method_7_code, 7, (some .int))
def m_Law_valueOf : xM := (⟨"PastTheRim$Law", "valueOf", "(IIII)I"⟩, prog_4_method_8_code, 4, (some .int))
def m_Law_workedOut : xM := (⟨"PastTheRim$Law", "workedOut", "(III)I"⟩, prog_4_method_9_code, 3, (some .int))
def m_Law_withoutText : xM := (⟨"PastTheRim$Law", "withoutText", "(III)I"⟩, prog_4_method_6_code, 4, (some .int))
def m_P_swing : xM := (⟨"PastTheRim", "swing", "(I)I"⟩, prog_1_method_14_code, 2, (some .int))
def m_P_isGas : xM := (⟨"PastTheRim", "isGas", "(I)Z"⟩, prog_1_method_48_code, 1, (some .boolean))
def m_P_isAtRest : xM := (⟨"PastTheRim", "isAtRest", "()Z"⟩, prog_1_method_42_code, 1, (some .boolean))
def m_World_drive : xM := (⟨"PastTheRim$World", "drive", "(LPastTheRim$Car;II)Z"⟩, prog_11_method_6_code, 4, (some .boolean))
def m_World_gripOf : xM := (⟨"PastTheRim$World", "gripOf", "(LPastTheRim$Car;I)I"⟩, prog_11_method_3_code, 4, (some .int))
def m_Push_weightOfSet : xM := (⟨"PastTheRim$Pushers", "weightOfSet", "(I)I"⟩, prog_6_method_12_code, 4, (some .int))
def m_Push_isIn : xM := (⟨"PastTheRim$Pushers", "isIn", "(II)Z"⟩, prog_6_method_15_code, 2, (some .boolean))
def m_World_pushOf : xM := (⟨"PastTheRim$World", "pushOf", "(LPastTheRim$Car;I)I"⟩, prog_11_method_4_code, 3, (some .int))
def m_Push_pushOfSet : xM := (⟨"PastTheRim$Pushers", "pushOfSet", "(ILPastTheRim$Car;)I"⟩, prog_6_method_13_code, 5, (some .int))
def m_World_rubOf : xM := (⟨"PastTheRim$World", "rubOf", "(LPastTheRim$Car;)I"⟩, prog_11_method_5_code, 2, (some .int))
def m_Car_go : xM := (⟨"PastTheRim$Car", "go", "(IIII)Z"⟩, prog_2_method_8_code, 7, (some .boolean))
def m_Car_isOverTheRim : xM := (⟨"PastTheRim$Car", "isOverTheRim", "()Z"⟩, prog_2_method_7_code, 1, (some .boolean))
def m_P_swings : xM := (⟨"PastTheRim", "swings", "(I)I"⟩, prog_1_method_15_code, 3, (some .int))
def m_P_drawnBehind : xM := (⟨"PastTheRim", "drawnBehind", "(I)I"⟩, prog_1_method_50_code, 1, (some .int))
def m_P_gasOf : xM := (⟨"PastTheRim", "gasOf", "(I)I"⟩, prog_1_method_51_code, 1, (some .int))
def m_P_shovel : xM := (⟨"PastTheRim", "shovel", "(I)I"⟩, prog_1_method_16_code, 2, (some .int))
def m_Car_dig : xM := (⟨"PastTheRim$Car", "dig", "(I)V"⟩, prog_2_method_6_code, 2, none)
def m_P_seed : xM := (⟨"PastTheRim", "seed", "(I)I"⟩, prog_1_method_17_code, 3, (some .int))
def m_P_now : xM := (⟨"PastTheRim", "now", "(I)I"⟩, prog_1_method_18_code, 2, (some .int))
def m_P_would : xM := (⟨"PastTheRim", "would", "(II)I"⟩, prog_1_method_19_code, 4, (some .int))
def m_Car_copyFrom : xM := (⟨"PastTheRim$Car", "copyFrom", "(LPastTheRim$Car;)V"⟩, prog_2_method_9_code, 2, none)
def m_P_plan : xM := (⟨"PastTheRim", "plan", "(II)I"⟩, prog_1_method_20_code, 3, (some .int))
def m_Rows_seekBest : xM := (⟨"PastTheRim$Rows", "seekBest", "(LPastTheRim$World;I)V"⟩, prog_8_method_2_code, 3, none)
def m_Rows_tryAll : xM := (⟨"PastTheRim$Rows", "tryAll", "(LPastTheRim$World;II)V"⟩, prog_8_method_9_code, 5, none)
def m_Rows_carAt : xM := (⟨"PastTheRim$Rows", "carAt", "(I)LPastTheRim$Car;"⟩, prog_8_method_15_code, 2, (some (.object "PastTheRim$Car")))
def m_Rows_tryFrom : xM := (⟨"PastTheRim$Rows", "tryFrom", "(LPastTheRim$World;I)V"⟩, prog_8_method_10_code, 9, none)
def m_Rows_note : xM := (⟨"PastTheRim$Rows", "note", "(II)V"⟩, prog_8_method_16_code, 3, none)
def m_Rows_goesOn : xM := (⟨"PastTheRim$Rows", "goesOn", "(ILPastTheRim$Car;)Z"⟩, prog_8_method_11_code, 3, (some .boolean))
def m_Rows_fitsSoFar : xM := (⟨"PastTheRim$Rows", "fitsSoFar", "(ILPastTheRim$Car;)Z"⟩, prog_8_method_13_code, 3, (some .boolean))
def m_Rows_keep : xM := (⟨"PastTheRim$Rows", "keep", "(I)V"⟩, prog_8_method_17_code, 3, none)
def m_Rows_countsIfOut : xM := (⟨"PastTheRim$Rows", "countsIfOut", "(ILPastTheRim$Car;)Z"⟩, prog_8_method_14_code, 3, (some .boolean))
def m_Rows_rowsOf : xM := (⟨"PastTheRim$Rows", "rowsOf", "(I)I"⟩, prog_8_method_8_code, 3, (some .int))
def m_Rows_canBeBetter : xM := (⟨"PastTheRim$Rows", "canBeBetter", "(ILPastTheRim$Car;)Z"⟩, prog_8_method_12_code, 7, (some .boolean))
def m_Rows_bestSwings : xM := (⟨"PastTheRim$Rows", "bestSwings", "()I"⟩, prog_8_method_3_code, 1, (some .int))
def m_Rows_bestOver : xM := (⟨"PastTheRim$Rows", "bestOver", "()I"⟩, prog_8_method_4_code, 1, (some .int))
def m_Rows_keptGas : xM := (⟨"PastTheRim$Rows", "keptGas", "(I)I"⟩, prog_8_method_5_code, 2, (some .int))
def m_P_steady : xM := (⟨"PastTheRim", "steady", "(I)I"⟩, prog_1_method_21_code, 3, (some .int))
def m_P_swingsTillOut : xM := (⟨"PastTheRim", "swingsTillOut", "(I)I"⟩, prog_1_method_44_code, 2, (some .int))
def m_World_swingsTillOut : xM := (⟨"PastTheRim$World", "swingsTillOut", "(LPastTheRim$Car;III)I"⟩, prog_11_method_7_code, 6, (some .int))
def m_P_least : xM := (⟨"PastTheRim", "least", "()I"⟩, prog_1_method_22_code, 2, (some .int))
def m_P_crew : xM := (⟨"PastTheRim", "crew", "(III)I"⟩, prog_1_method_23_code, 5, (some .int))
def m_P_leastSet : xM := (⟨"PastTheRim", "leastSet", "(II)I"⟩, prog_1_method_45_code, 6, (some .int))
def m_J_bitCount : xM := (⟨"java/lang/Integer", "bitCount", "(I)I"⟩, prog_14_method_49_code, 1, (some .int))
def m_P_deepest : xM := (⟨"PastTheRim", "deepest", "(II)I"⟩, prog_1_method_24_code, 4, (some .int))
def m_P_strokes : xM := (⟨"PastTheRim", "strokes", "(II)I"⟩, prog_1_method_25_code, 4, (some .int))
def m_P_fits : xM := (⟨"PastTheRim", "fits", "(II)I"⟩, prog_1_method_26_code, 5, (some .int))
def m_P_sheetAt : xM := (⟨"PastTheRim", "sheetAt", "(I)LPastTheRim$Sheet;"⟩, prog_1_method_43_code, 2, (some (.object "PastTheRim$Sheet")))
def m_Sheet_isMissing : xM := (⟨"PastTheRim$Sheet", "isMissing", "()Z"⟩, prog_9_method_3_code, 1, (some .boolean))
def m_Sheet_size : xM := (⟨"PastTheRim$Sheet", "size", "()I"⟩, prog_9_method_5_code, 1, (some .int))
def m_Rows_seekFits : xM := (⟨"PastTheRim$Rows", "seekFits", "(LPastTheRim$World;LPastTheRim$Sheet;)I"⟩, prog_8_method_6_code, 4, (some .int))
def m_Sheet_at : xM := (⟨"PastTheRim$Sheet", "at", "(I)I"⟩, prog_9_method_9_code, 2, (some .int))
def m_P_odds : xM := (⟨"PastTheRim", "odds", "(II)I"⟩, prog_1_method_27_code, 6, (some .int))
def m_Rows_countOuts : xM := (⟨"PastTheRim$Rows", "countOuts", "(LPastTheRim$World;I)I"⟩, prog_8_method_7_code, 3, (some .int))
def m_P_commonDivisor : xM := (⟨"PastTheRim", "commonDivisor", "(II)I"⟩, prog_1_method_52_code, 6, (some .int))
def m_P_voice : xM := (⟨"PastTheRim", "voice", "(III)I"⟩, prog_1_method_28_code, 5, (some .int))
def m_Voi_isVoice : xM := (⟨"PastTheRim$Voices", "isVoice", "(I)Z"⟩, prog_10_method_2_code, 1, (some .boolean))
def m_Voi_speaks : xM := (⟨"PastTheRim$Voices", "speaks", "(IIIII)Z"⟩, prog_10_method_3_code, 6, (some .boolean))
def m_Voi_says : xM := (⟨"PastTheRim$Voices", "says", "(IIII)I"⟩, prog_10_method_6_code, 6, (some .int))
def m_Voi_bodyFrom : xM := (⟨"PastTheRim$Voices", "bodyFrom", "(II)I"⟩, prog_10_method_7_code, 5, (some .int))
def m_Voi_bodyAt : xM := (⟨"PastTheRim$Voices", "bodyAt", "(I)I"⟩, prog_10_method_8_code, 1, (some .int))
def m_Voi_worksOut : xM := (⟨"PastTheRim$Voices", "worksOut", "(III)I"⟩, prog_10_method_9_code, 4, (some .int))
def m_Voi_partsBy : xM := (⟨"PastTheRim$Voices", "partsBy", "(II)I"⟩, prog_10_method_10_code, 3, (some .int))
def m_Voi_answer : xM := (⟨"PastTheRim$Voices", "answer", "()I"⟩, prog_10_method_4_code, 1, (some .int))
def m_P_body : xM := (⟨"PastTheRim", "body", "(I)I"⟩, prog_1_method_29_code, 2, (some .int))
def m_Voi_trace : xM := (⟨"PastTheRim$Voices", "trace", "()LPastTheRim$Numbers;"⟩, prog_10_method_5_code, 1, (some (.object "PastTheRim$Numbers")))
def m_P_sheet : xM := (⟨"PastTheRim", "sheet", "(III)I"⟩, prog_1_method_30_code, 5, (some .int))
def m_Sheet_canHaveBits : xM := (⟨"PastTheRim$Sheet", "canHaveBits", "(I)Z"⟩, prog_9_method_2_code, 1, (some .boolean))
def m_Sheet_goesMissing : xM := (⟨"PastTheRim$Sheet", "goesMissing", "()V"⟩, prog_9_method_6_code, 1, none)
def m_Sheet_begins : xM := (⟨"PastTheRim$Sheet", "begins", "(II)V"⟩, prog_9_method_7_code, 4, none)
def m_P_put : xM := (⟨"PastTheRim", "put", "(III)I"⟩, prog_1_method_31_code, 5, (some .int))
def m_Sheet_holds : xM := (⟨"PastTheRim$Sheet", "holds", "(II)Z"⟩, prog_9_method_8_code, 3, (some .boolean))
def m_Sheet_write : xM := (⟨"PastTheRim$Sheet", "write", "(II)V"⟩, prog_9_method_10_code, 3, none)
def m_P_move : xM := (⟨"PastTheRim", "move", "(IIIII)I"⟩, prog_1_method_32_code, 8, (some .int))
def m_Sheet_bits : xM := (⟨"PastTheRim$Sheet", "bits", "()I"⟩, prog_9_method_4_code, 1, (some .int))
def m_Sheet_takes : xM := (⟨"PastTheRim$Sheet", "takes", "(ILPastTheRim$Sheet;II)V"⟩, prog_9_method_11_code, 5, none)
def m_P_levels : xM := (⟨"PastTheRim", "levels", "(I)I"⟩, prog_1_method_33_code, 6, (some .int))
def m_P_judge : xM := (⟨"PastTheRim", "judge", "(I)I"⟩, prog_1_method_34_code, 5, (some .int))
def m_P_image : xM := (⟨"PastTheRim", "image", "()I"⟩, prog_1_method_35_code, 1, (some .int))
def m_World_copyFrom : xM := (⟨"PastTheRim$World", "copyFrom", "(LPastTheRim$World;)V"⟩, prog_11_method_8_code, 2, none)
def m_Push_copyFrom : xM := (⟨"PastTheRim$Pushers", "copyFrom", "(LPastTheRim$Pushers;)V"⟩, prog_6_method_14_code, 2, none)
def m_Law_copyFrom : xM := (⟨"PastTheRim$Law", "copyFrom", "(LPastTheRim$Law;)V"⟩, prog_4_method_5_code, 2, none)
def m_P_restore : xM := (⟨"PastTheRim", "restore", "()I"⟩, prog_1_method_36_code, 1, (some .int))
def m_P_tell : xM := (⟨"PastTheRim", "tell", "(I)I"⟩, prog_1_method_37_code, 2, (some .int))
def m_P_check : xM := (⟨"PastTheRim", "check", "()I"⟩, prog_1_method_38_code, 2, (some .int))
def m_P_firstUnlikePush : xM := (⟨"PastTheRim", "firstUnlikePush", "()I"⟩, prog_1_method_46_code, 2, (some .int))
def m_P_count : xM := (⟨"PastTheRim", "count", "(I)I"⟩, prog_1_method_39_code, 2, (some .int))
def m_P_told : xM := (⟨"PastTheRim", "told", "(I)I"⟩, prog_1_method_40_code, 2, (some .int))
def m_R_init : xM := (⟨"PastTheRimModel", "<init>", "()V"⟩, prog_13_method_1_code, 1, none)
def m_R_feed : xM := (⟨"PastTheRimModel", "feed", "(JI)I"⟩, prog_13_method_13_code, 5, (some .int))
def m_R_in : xM := (⟨"PastTheRimModel", "in", "(III)Z"⟩, prog_13_method_3_code, 3, (some .boolean))
def m_R_error : xM := (⟨"PastTheRimModel", "error", "(I)I"⟩, prog_13_method_2_code, 2, (some .int))
def m_R_text : xM := (⟨"PastTheRimModel", "text", "(I)I"⟩, prog_13_method_25_code, 5, (some .int))
def m_R_whole : xM := (⟨"PastTheRimModel", "whole", "()Z"⟩, prog_13_method_17_code, 1, (some .boolean))
def m_R_both : xM := (⟨"PastTheRimModel", "both", "()Z"⟩, prog_13_method_18_code, 1, (some .boolean))
def m_R_compared : xM := (⟨"PastTheRimModel", "compared", "()Z"⟩, prog_13_method_19_code, 2, (some .boolean))
def m_R_sum : xM := (⟨"PastTheRimModel", "sum", "()Z"⟩, prog_13_method_20_code, 2, (some .boolean))
def m_R_product : xM := (⟨"PastTheRimModel", "product", "()Z"⟩, prog_13_method_21_code, 2, (some .boolean))
def m_R_one : xM := (⟨"PastTheRimModel", "one", "()Z"⟩, prog_13_method_23_code, 4, (some .boolean))
def m_R_look : xM := (⟨"PastTheRimModel", "look", "()I"⟩, prog_13_method_14_code, 1, (some .int))
def m_R_isName : xM := (⟨"PastTheRimModel", "isName", "(I)Z"⟩, prog_13_method_15_code, 2, (some .boolean))
def m_R_step1 : xM := (⟨"PastTheRimModel", "step1", "(II)V"⟩, prog_13_method_16_code, 3, none)
def m_R_opens : xM := (⟨"PastTheRimModel", "opens", "()Z"⟩, prog_13_method_22_code, 1, (some .boolean))
def m_R_untell : xM := (⟨"PastTheRimModel", "untell", "(I)I"⟩, prog_13_method_26_code, 3, (some .int))
def m_R_hasText : xM := (⟨"PastTheRimModel", "hasText", "(I)Z"⟩, prog_13_method_24_code, 2, (some .boolean))
def m_R_pusher : xM := (⟨"PastTheRimModel", "pusher", "(I)I"⟩, prog_13_method_42_code, 3, (some .int))
def m_R_isKind : xM := (⟨"PastTheRimModel", "isKind", "(I)Z"⟩, prog_13_method_40_code, 1, (some .boolean))
def m_R_lays1 : xM := (⟨"PastTheRimModel", "lays1", "(III)V"⟩, prog_13_method_10_code, 4, none)
def m_R_pusherIs : xM := (⟨"PastTheRimModel", "pusherIs", "(II)I"⟩, prog_13_method_43_code, 3, (some .int))
def m_R_isPusher : xM := (⟨"PastTheRimModel", "isPusher", "(I)Z"⟩, prog_13_method_8_code, 2, (some .boolean))
def m_R_its : xM := (⟨"PastTheRimModel", "its", "(II)I"⟩, prog_13_method_9_code, 3, (some .int))
def m_R_pushOf : xM := (⟨"PastTheRimModel", "pushOf", "(I)I"⟩, prog_13_method_29_code, 6, (some .int))
def m_R_weightOf : xM := (⟨"PastTheRimModel", "weightOf", "(I)I"⟩, prog_13_method_30_code, 2, (some .int))
def m_R_become : xM := (⟨"PastTheRimModel", "become", "(II)I"⟩, prog_13_method_44_code, 3, (some .int))
def m_R_change1 : xM := (⟨"PastTheRimModel", "change1", "(II)I"⟩, prog_13_method_11_code, 4, (some .int))
def m_R_as : xM := (⟨"PastTheRimModel", "as", "(II)I"⟩, prog_13_method_45_code, 4, (some .int))
def m_R_above : xM := (⟨"PastTheRimModel", "above", "(I)I"⟩, prog_13_method_76_code, 1, (some .int))
def m_R_leaves : xM := (⟨"PastTheRimModel", "leaves", "()I"⟩, prog_13_method_46_code, 1, (some .int))
def m_R_car : xM := (⟨"PastTheRimModel", "car", "(II)I"⟩, prog_13_method_48_code, 3, (some .int))
def m_R_isOfCar : xM := (⟨"PastTheRimModel", "isOfCar", "(II)Z"⟩, prog_13_method_47_code, 2, (some .boolean))
def m_R_carIs : xM := (⟨"PastTheRimModel", "carIs", "(I)I"⟩, prog_13_method_49_code, 2, (some .int))
def m_R_park : xM := (⟨"PastTheRimModel", "park", "(I)I"⟩, prog_13_method_50_code, 2, (some .int))
def m_R_law : xM := (⟨"PastTheRimModel", "law", "(IIII)I"⟩, prog_13_method_51_code, 5, (some .int))
def m_R_gripTold : xM := (⟨"PastTheRimModel", "gripTold", "(III)I"⟩, prog_13_method_33_code, 4, (some .int))
def m_R_worked : xM := (⟨"PastTheRimModel", "worked", "(I)I"⟩, prog_13_method_28_code, 7, (some .int))
def m_R_joined : xM := (⟨"PastTheRimModel", "joined", "(III)I"⟩, prog_13_method_27_code, 3, (some .int))
def m_R_held : xM := (⟨"PastTheRimModel", "held", "(III)I"⟩, prog_13_method_4_code, 3, (some .int))
def m_R_rubTold : xM := (⟨"PastTheRimModel", "rubTold", "(III)I"⟩, prog_13_method_34_code, 4, (some .int))
def m_R_swing : xM := (⟨"PastTheRimModel", "swing", "(I)I"⟩, prog_13_method_53_code, 3, (some .int))
def m_R_isGas : xM := (⟨"PastTheRimModel", "isGas", "(I)Z"⟩, prog_13_method_41_code, 1, (some .boolean))
def m_R_canSwing : xM := (⟨"PastTheRimModel", "canSwing", "()Z"⟩, prog_13_method_52_code, 1, (some .boolean))
def m_R_isOut : xM := (⟨"PastTheRimModel", "isOut", "()Z"⟩, prog_13_method_12_code, 1, (some .boolean))
def m_R_goes : xM := (⟨"PastTheRimModel", "goes", "(I)Z"⟩, prog_13_method_37_code, 5, (some .boolean))
def m_R_grip : xM := (⟨"PastTheRimModel", "grip", "()I"⟩, prog_13_method_35_code, 1, (some .int))
def m_R_weighs : xM := (⟨"PastTheRimModel", "weighs", "()I"⟩, prog_13_method_32_code, 3, (some .int))
def m_R_pushes : xM := (⟨"PastTheRimModel", "pushes", "()I"⟩, prog_13_method_31_code, 3, (some .int))
def m_R_rub : xM := (⟨"PastTheRimModel", "rub", "()I"⟩, prog_13_method_36_code, 1, (some .int))
def m_R_swings : xM := (⟨"PastTheRimModel", "swings", "(I)I"⟩, prog_13_method_54_code, 4, (some .int))
def m_R_draw : xM := (⟨"PastTheRimModel", "draw", "()I"⟩, prog_13_method_38_code, 1, (some .int))
def m_R_shovel : xM := (⟨"PastTheRimModel", "shovel", "(I)I"⟩, prog_13_method_56_code, 2, (some .int))
def m_R_shovels : xM := (⟨"PastTheRimModel", "shovels", "(I)V"⟩, prog_13_method_55_code, 3, none)
def m_R_seed : xM := (⟨"PastTheRimModel", "seed", "(I)I"⟩, prog_13_method_57_code, 2, (some .int))
def m_R_now : xM := (⟨"PastTheRimModel", "now", "(I)I"⟩, prog_13_method_58_code, 2, (some .int))
def m_R_would : xM := (⟨"PastTheRimModel", "would", "(II)I"⟩, prog_13_method_59_code, 6, (some .int))
def m_R_layDown : xM := (⟨"PastTheRimModel", "layDown", "()V"⟩, prog_13_method_6_code, 2, none)
def m_R_layBack : xM := (⟨"PastTheRimModel", "layBack", "()V"⟩, prog_13_method_7_code, 2, none)
def m_R_plan : xM := (⟨"PastTheRimModel", "plan", "(II)I"⟩, prog_13_method_63_code, 10, (some .int))
def m_R_tens : xM := (⟨"PastTheRimModel", "tens", "(I)I"⟩, prog_13_method_60_code, 3, (some .int))
def m_R_triesRow : xM := (⟨"PastTheRimModel", "triesRow", "(II)V"⟩, prog_13_method_62_code, 5, none)
def m_R_gasAt : xM := (⟨"PastTheRimModel", "gasAt", "(III)I"⟩, prog_13_method_61_code, 3, (some .int))
def m_R_steady : xM := (⟨"PastTheRimModel", "steady", "(I)I"⟩, prog_13_method_64_code, 3, (some .int))
def m_R_outBy : xM := (⟨"PastTheRimModel", "outBy", "(II)I"⟩, prog_13_method_39_code, 5, (some .int))
def m_R_least : xM := (⟨"PastTheRimModel", "least", "()I"⟩, prog_13_method_65_code, 2, (some .int))
def m_R_crew : xM := (⟨"PastTheRimModel", "crew", "(III)I"⟩, prog_13_method_68_code, 6, (some .int))
def m_R_isTime : xM := (⟨"PastTheRimModel", "isTime", "(I)Z"⟩, prog_13_method_66_code, 1, (some .boolean))
def m_R_bitsOf : xM := (⟨"PastTheRimModel", "bitsOf", "(I)I"⟩, prog_13_method_67_code, 3, (some .int))
def m_R_deepest : xM := (⟨"PastTheRimModel", "deepest", "(II)I"⟩, prog_13_method_69_code, 6, (some .int))
def m_R_strokes : xM := (⟨"PastTheRimModel", "strokes", "(II)I"⟩, prog_13_method_70_code, 7, (some .int))
def m_R_fits : xM := (⟨"PastTheRimModel", "fits", "(II)I"⟩, prog_13_method_72_code, 9, (some .int))
def m_R_lacks : xM := (⟨"PastTheRimModel", "lacks", "(I)I"⟩, prog_13_method_89_code, 2, (some .int))
def m_R_isSheet : xM := (⟨"PastTheRimModel", "isSheet", "(I)Z"⟩, prog_13_method_85_code, 1, (some .boolean))
def m_R_comesSo : xM := (⟨"PastTheRimModel", "comesSo", "(III)Z"⟩, prog_13_method_71_code, 7, (some .boolean))
def m_R_odds : xM := (⟨"PastTheRimModel", "odds", "(II)I"⟩, prog_13_method_74_code, 6, (some .int))
def m_R_divisor : xM := (⟨"PastTheRimModel", "divisor", "(II)I"⟩, prog_13_method_73_code, 5, (some .int))
def m_R_voice : xM := (⟨"PastTheRimModel", "voice", "(III)I"⟩, prog_13_method_83_code, 6, (some .int))
def m_R_kindNow : xM := (⟨"PastTheRimModel", "kindNow", "()I"⟩, prog_13_method_77_code, 1, (some .int))
def m_R_heavesAs : xM := (⟨"PastTheRimModel", "heavesAs", "(II)I"⟩, prog_13_method_79_code, 3, (some .int))
def m_R_begins : xM := (⟨"PastTheRimModel", "begins", "(I)V"⟩, prog_13_method_75_code, 2, none)
def m_R_slipsAs : xM := (⟨"PastTheRimModel", "slipsAs", "(II)I"⟩, prog_13_method_80_code, 3, (some .int))
def m_R_mNow : xM := (⟨"PastTheRimModel", "mNow", "()I"⟩, prog_13_method_78_code, 1, (some .int))
def m_R_cursesAs : xM := (⟨"PastTheRimModel", "cursesAs", "(II)I"⟩, prog_13_method_81_code, 3, (some .int))
def m_R_partsAs : xM := (⟨"PastTheRimModel", "partsAs", "(II)I"⟩, prog_13_method_82_code, 5, (some .int))
def m_R_body : xM := (⟨"PastTheRimModel", "body", "(I)I"⟩, prog_13_method_84_code, 2, (some .int))
def m_R_sheet : xM := (⟨"PastTheRimModel", "sheet", "(III)I"⟩, prog_13_method_86_code, 5, (some .int))
def m_R_put : xM := (⟨"PastTheRimModel", "put", "(III)I"⟩, prog_13_method_87_code, 5, (some .int))
def m_R_move : xM := (⟨"PastTheRimModel", "move", "(IIIII)I"⟩, prog_13_method_88_code, 7, (some .int))
def m_R_levels : xM := (⟨"PastTheRimModel", "levels", "(I)I"⟩, prog_13_method_90_code, 4, (some .int))
def m_R_judge : xM := (⟨"PastTheRimModel", "judge", "(I)I"⟩, prog_13_method_91_code, 6, (some .int))
def m_R_image : xM := (⟨"PastTheRimModel", "image", "()I"⟩, prog_13_method_92_code, 1, (some .int))
def m_R_carry : xM := (⟨"PastTheRimModel", "carry", "([I[I)V"⟩, prog_13_method_5_code, 3, none)
def m_R_restore : xM := (⟨"PastTheRimModel", "restore", "()I"⟩, prog_13_method_93_code, 1, (some .int))
def m_R_tell : xM := (⟨"PastTheRimModel", "tell", "(I)I"⟩, prog_13_method_94_code, 2, (some .int))
def m_R_check : xM := (⟨"PastTheRimModel", "check", "()I"⟩, prog_13_method_95_code, 3, (some .int))
def m_R_count : xM := (⟨"PastTheRimModel", "count", "(I)I"⟩, prog_13_method_96_code, 2, (some .int))
def m_R_told : xM := (⟨"PastTheRimModel", "told", "(I)I"⟩, prog_13_method_97_code, 2, (some .int))
def m_Lw_law : xM := (x, code, 4, ret)
def xnest : Cond → Bool
  | .fieldLinkNest .. => true
  | .methodLinkNest .. => true
  | .arrayOver .. => true
  | _ => false
theorem xtbl_in {w : Cond} (h : w ∈ lw_tbl) (hg : goodWord w = true) : w ∈ xTbl := List.mem_filter.mpr ⟨h, hg⟩
theorem xtbl_good : GoodIn xTbl xTbl := fun w h => ⟨h, good_of_word (List.mem_filter.mp h).2⟩
