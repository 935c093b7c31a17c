def F_F : u_T := fun k => match k with
  | 0 => ("FractalMaps", "side", "I", true)
  | 1 => ("FractalMaps", "picture", "LFractalMaps$Grid;", true)
  | 2 => ("FractalMaps", "shown", "LFractalMaps$Grid;", true)
  | 3 => ("FractalMaps", "half", "LFractalMaps$Grid;", true)
  | 4 => ("FractalMaps", "view", "LFractalMaps$View;", true)
  | 5 => ("FractalMaps", "search", "LFractalMaps$Search;", true)
  | 6 => ("FractalMaps", "blocks", "LFractalMaps$Blocks;", true)
  | 7 => ("FractalMaps", "fitRead", "LFractalMaps$Fit;", true)
  | 8 => ("FractalMaps", "encoded", "LFractalMaps$Bits;", true)
  | _ => ("FractalMaps", "waiting", "LFractalMaps$Bits;", true)
def ty_F : Nat → FieldType := fun k => match k with
  | 0 => .int
  | 1 => .object "FractalMaps$Grid"
  | 2 => .object "FractalMaps$Grid"
  | 3 => .object "FractalMaps$Grid"
  | 4 => .object "FractalMaps$View"
  | 5 => .object "FractalMaps$Search"
  | 6 => .object "FractalMaps$Blocks"
  | 7 => .object "FractalMaps$Fit"
  | 8 => .object "FractalMaps$Bits"
  | _ => .object "FractalMaps$Bits"
theorem nm_F : ∀ a, a < 10 → ∀ b, b < 10 → a ≠ b → (F_F a).2.1 ≠ (F_F b).2.1 := by decide +kernel
theorem ty_F_ok : ∀ k, k < 10 → parseFieldDescriptor (F_F k).2.2.1 = some (ty_F k) := by decide +kernel
def F_G : u_T := fun k => match k with
  | 0 => ("FractalMaps$Grid", "mostSide", "I", true)
  | 1 => ("FractalMaps$Grid", "cells", "[I", true)
  | _ => ("FractalMaps$Grid", "side", "I", false)
def ty_G : Nat → FieldType := fun k => match k with
  | 0 => .int
  | 1 => .array .int
  | _ => .int
theorem nm_G : ∀ a, a < 3 → ∀ b, b < 3 → a ≠ b → (F_G a).2.1 ≠ (F_G b).2.1 := by decide +kernel
theorem ty_G_ok : ∀ k, k < 3 → parseFieldDescriptor (F_G k).2.2.1 = some (ty_G k) := by decide +kernel
def F_V : u_T := fun k => match k with
  | 0 => ("FractalMaps$View", "half", "LFractalMaps$Grid;", true)
  | 1 => ("FractalMaps$View", "left", "I", false)
  | 2 => ("FractalMaps$View", "top", "I", false)
  | 3 => ("FractalMaps$View", "start", "I", false)
  | 4 => ("FractalMaps$View", "stepAcross", "I", false)
  | _ => ("FractalMaps$View", "stepDown", "I", false)
def ty_V : Nat → FieldType := fun k => match k with
  | 0 => .object "FractalMaps$Grid"
  | 1 => .int
  | 2 => .int
  | 3 => .int
  | 4 => .int
  | _ => .int
theorem nm_V : ∀ a, a < 6 → ∀ b, b < 6 → a ≠ b → (F_V a).2.1 ≠ (F_V b).2.1 := by decide +kernel
theorem ty_V_ok : ∀ k, k < 6 → parseFieldDescriptor (F_V k).2.2.1 = some (ty_V k) := by decide +kernel
def F_S : u_T := fun k => match k with
  | 0 => ("FractalMaps$Search", "picture", "LFractalMaps$Grid;", true)
  | 1 => ("FractalMaps$Search", "half", "LFractalMaps$Grid;", true)
  | 2 => ("FractalMaps$Search", "view", "LFractalMaps$View;", true)
  | 3 => ("FractalMaps$Search", "wanted", "[I", true)
  | 4 => ("FractalMaps$Search", "found", "[I", true)
  | 5 => ("FractalMaps$Search", "quarterSums", "[I", true)
  | 6 => ("FractalMaps$Search", "sourceQuarters", "[I", true)
  | 7 => ("FractalMaps$Search", "best", "LFractalMaps$Fit;", true)
  | 8 => ("FractalMaps$Search", "tried", "I", false)
  | 9 => ("FractalMaps$Search", "size", "I", false)
  | 10 => ("FractalMaps$Search", "count", "I", false)
  | 11 => ("FractalMaps$Search", "wantedSum", "I", false)
  | 12 => ("FractalMaps$Search", "foundSum", "I", false)
  | _ => ("FractalMaps$Search", "foundSquares", "I", false)
def ty_S : Nat → FieldType := fun k => match k with
  | 0 => .object "FractalMaps$Grid"
  | 1 => .object "FractalMaps$Grid"
  | 2 => .object "FractalMaps$View"
  | 3 => .array .int
  | 4 => .array .int
  | 5 => .array .int
  | 6 => .array .int
  | 7 => .object "FractalMaps$Fit"
  | 8 => .int
  | 9 => .int
  | 10 => .int
  | 11 => .int
  | 12 => .int
  | _ => .int
theorem nm_S : ∀ a, a < 14 → ∀ b, b < 14 → a ≠ b → (F_S a).2.1 ≠ (F_S b).2.1 := by decide +kernel
theorem ty_S_ok : ∀ k, k < 14 → parseFieldDescriptor (F_S k).2.2.1 = some (ty_S k) := by decide +kernel
def F_T : u_T := fun k => match k with
  | 0 => ("FractalMaps$Fit", "domain", "I", false)
  | 1 => ("FractalMaps$Fit", "turn", "I", false)
  | 2 => ("FractalMaps$Fit", "contrast", "I", false)
  | 3 => ("FractalMaps$Fit", "offset", "I", false)
  | _ => ("FractalMaps$Fit", "error", "I", false)
def ty_T : Nat → FieldType := fun k => match k with
  | 0 => .int
  | 1 => .int
  | 2 => .int
  | 3 => .int
  | _ => .int
theorem nm_T : ∀ a, a < 5 → ∀ b, b < 5 → a ≠ b → (F_T a).2.1 ≠ (F_T b).2.1 := by decide +kernel
theorem ty_T_ok : ∀ k, k < 5 → parseFieldDescriptor (F_T k).2.2.1 = some (ty_T k) := by decide +kernel
def F_K : u_T := fun k => match k with
  | 0 => ("FractalMaps$Blocks", "facts", "[I", true)
  | _ => ("FractalMaps$Blocks", "count", "I", false)
def ty_K : Nat → FieldType := fun k => match k with
  | 0 => .array .int
  | _ => .int
theorem nm_K : ∀ a, a < 2 → ∀ b, b < 2 → a ≠ b → (F_K a).2.1 ≠ (F_K b).2.1 := by decide +kernel
theorem ty_K_ok : ∀ k, k < 2 → parseFieldDescriptor (F_K k).2.2.1 = some (ty_K k) := by decide +kernel
def F_B : u_T := fun k => match k with
  | 0 => ("FractalMaps$Bits", "row", "[I", true)
  | 1 => ("FractalMaps$Bits", "filled", "I", false)
  | _ => ("FractalMaps$Bits", "taken", "I", false)
def ty_B : Nat → FieldType := fun k => match k with
  | 0 => .array .int
  | 1 => .int
  | _ => .int
theorem nm_B : ∀ a, a < 3 → ∀ b, b < 3 → a ≠ b → (F_B a).2.1 ≠ (F_B b).2.1 := by decide +kernel
theorem ty_B_ok : ∀ k, k < 3 → parseFieldDescriptor (F_B k).2.2.1 = some (ty_B k) := by decide +kernel
def F_M : u_T := fun k => match k with
  | 0 => ("FractalMapsModel", "code", "I", false)
  | 1 => ("FractalMapsModel", "side", "I", true)
  | 2 => ("FractalMapsModel", "picture", "[I", true)
  | 3 => ("FractalMapsModel", "half", "[I", true)
  | 4 => ("FractalMapsModel", "many", "I", false)
  | 5 => ("FractalMapsModel", "blocks", "[I", true)
  | 6 => ("FractalMapsModel", "found", "I", false)
  | 7 => ("FractalMapsModel", "encodedBits", "I", false)
  | 8 => ("FractalMapsModel", "encoded", "[I", true)
  | 9 => ("FractalMapsModel", "fedMany", "I", false)
  | 10 => ("FractalMapsModel", "fed", "[I", true)
  | 11 => ("FractalMapsModel", "readAt", "I", false)
  | 12 => ("FractalMapsModel", "why", "I", false)
  | 13 => ("FractalMapsModel", "tried", "I", false)
  | 14 => ("FractalMapsModel", "waiting", "I", false)
  | 15 => ("FractalMapsModel", "pile", "[I", true)
  | 16 => ("FractalMapsModel", "decoded", "I", false)
  | 17 => ("FractalMapsModel", "news", "[I", true)
  | 18 => ("FractalMapsModel", "olds", "[I", true)
  | 19 => ("FractalMapsModel", "halves", "[I", true)
  | 20 => ("FractalMapsModel", "ds", "[I", true)
  | 21 => ("FractalMapsModel", "rs", "[I", true)
  | 22 => ("FractalMapsModel", "best", "[I", true)
  | _ => ("FractalMapsModel", "bestError", "J", false)
def ty_M : Nat → FieldType := fun k => match k with
  | 0 => .int
  | 1 => .int
  | 2 => .array .int
  | 3 => .array .int
  | 4 => .int
  | 5 => .array .int
  | 6 => .int
  | 7 => .int
  | 8 => .array .int
  | 9 => .int
  | 10 => .array .int
  | 11 => .int
  | 12 => .int
  | 13 => .int
  | 14 => .int
  | 15 => .array .int
  | 16 => .int
  | 17 => .array .int
  | 18 => .array .int
  | 19 => .array .int
  | 20 => .array .int
  | 21 => .array .int
  | 22 => .array .int
  | _ => .long
theorem nm_M : ∀ a, a < 24 → ∀ b, b < 24 → a ≠ b → (F_M a).2.1 ≠ (F_M b).2.1 := by decide +kernel
theorem ty_M_ok : ∀ k, k < 24 → parseFieldDescriptor (F_M k).2.2.1 = some (ty_M k) := by decide +kernel
abbrev classes : List vw_C := [("FractalMaps", F_F, 10), ("FractalMaps$Grid", F_G, 3), ("FractalMaps$View", F_V, 6), ("FractalMaps$Search", F_S, 14), ("FractalMaps$Fit", F_T, 5), ("FractalMaps$Blocks", F_K, 2), ("FractalMaps$Bits", F_B, 3), ("FractalMapsModel", F_M, 24)]
/-- the tables' words that every contract holds -/
def BIG : List Cond := lw_tbl.filter goodWord
theorem big_in {w : Cond} (h : w ∈ lw_tbl) (g : goodWord w = true) : w ∈ BIG := List.mem_filter.mpr ⟨h, g⟩
theorem big_good : ∀ w ∈ BIG, (w.onTables && w.keeps) = true ∨ ∃ ty, w = .arrayClass ty := fun w h => good_of_word (List.mem_filter.mp h).2
theorem z_g {y : MethodName} {b : ByteArray} {n : Nat} {r : Option FieldType} (h : Cond.code y b n r ∈ BIG) : GoodIn BIG (Cond.code y b n r :: BIG) := fun w hw => by
  rcases List.mem_cons.mp hw with e | e
  · subst e; exact ⟨h, big_good _ h⟩
  · exact ⟨e, big_good _ e⟩
theorem z_gV {own C : String} {idx : Nat} {y : MethodName} {b : ByteArray} {n : Nat} {r : Option FieldType} (h1 : Cond.methodLink own idx y ∈ BIG) (h2 : Cond.instanceMethod y ∈ BIG) (h3 : Cond.selects C y y ∈ BIG) (h4 : Cond.initialized C ∈ BIG) (h : Cond.code y b n r ∈ BIG) : GoodIn BIG (wsV own idx C y (Cond.code y b n r :: BIG)) := fun w hw => by
  unfold wsV at hw
  rcases List.mem_append.mp hw with e | e
  · simp only [List.mem_cons, List.not_mem_nil, or_false] at e
    rcases e with rfl | rfl | rfl | rfl
    · exact ⟨h1, big_good _ h1⟩
    · exact ⟨h2, big_good _ h2⟩
    · exact ⟨h3, big_good _ h3⟩
    · exact ⟨h4, big_good _ h4⟩
  · exact z_g h w e
abbrev b_G_sum : ByteArray := prog_5_method_7_code
def y_G_sum : MethodName := ⟨"FractalMaps$Grid", "sum", "(III)I"⟩
abbrev b_G_sample : ByteArray := prog_5_method_3_code
def y_G_sample : MethodName := ⟨"FractalMaps$Grid", "sample", "(II)I"⟩
abbrev b_G_set : ByteArray := prog_5_method_4_code
def y_G_set : MethodName := ⟨"FractalMaps$Grid", "set", "(III)V"⟩
abbrev b_G_has : ByteArray := prog_5_method_2_code
def y_G_has : MethodName := ⟨"FractalMaps$Grid", "has", "(II)Z"⟩
abbrev b_B_append : ByteArray := prog_2_method_6_code
def y_B_append : MethodName := ⟨"FractalMaps$Bits", "append", "(II)V"⟩
abbrev b_B_appendBit : ByteArray := prog_2_method_7_code
def y_B_appendBit : MethodName := ⟨"FractalMaps$Bits", "appendBit", "(I)V"⟩
abbrev b_F_acrossOf : ByteArray := prog_1_method_32_code
def y_F_acrossOf : MethodName := ⟨"FractalMaps", "acrossOf", "(I)I"⟩
def w_G_sum : List Cond := .code y_G_sum b_G_sum 7 (some .int) :: BIG
def w_G_sample : List Cond := .code y_G_sample b_G_sample 3 (some .int) :: BIG
def w_G_set : List Cond := .code y_G_set b_G_set 4 none :: BIG
def w_G_has : List Cond := .code y_G_has b_G_has 3 (some .boolean) :: BIG
def w_B_append : List Cond := .code y_B_append b_B_append 4 none :: BIG
def w_B_appendBit : List Cond := .code y_B_appendBit b_B_appendBit 5 none :: BIG
def w_F_acrossOf : List Cond := .code y_F_acrossOf b_F_acrossOf 1 (some .int) :: BIG
