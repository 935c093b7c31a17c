def F_F : u_T := fun k => match k with
  | 0 => ("FractalMaps", "side", "I", true)
  | 1 => ("FractalMaps", "picture", "LFractalMaps$Grid;", true)
  | 2 => ("FractalMaps", "shown", "LFractalMaps$Grid;", true)
  | 3 => ("FractalMaps", "half", "LFractalMaps$Grid;", true)
  | 4 => ("FractalMaps", "view", "LFractalMaps$View;", true)
  | 5 => ("FractalMaps", "search", "LFractalMaps$Search;", true)
  | 6 => ("FractalMaps", "blocks", "LFractalMaps$Blocks;", true)
  | 7 => ("FractalMaps", "fitRead", "LFractalMaps$Fit;", true)
  | 8 => ("FractalMaps", "encoded", "LFractalMaps$Bits;", true)
  | _ => ("FractalMaps", "waiting", "LFractalMaps$Bits;", true)
def ty_F : Nat → FieldType := fun k => match k with
  | 0 => .int
  | 1 => .object "FractalMaps$Grid"
  | 2 => .object "FractalMaps$Grid"
  | 3 => .object "FractalMaps$Grid"
  | 4 => .object "FractalMaps$View"
  | 5 => .object "FractalMaps$Search"
  | 6 => .object "FractalMaps$Blocks"
  | 7 => .object "FractalMaps$Fit"
  | 8 => .object "FractalMaps$Bits"
  | _ => .object "FractalMaps$Bits"
theorem nm_F : ∀ a, a < 10 → ∀ b, b < 10 → a ≠ b → (F_F a).2.1 ≠ (F_F b).2.1 := by decide +kernel
theorem ty_F_ok : ∀ k, k < 10 → parseFieldDescriptor (F_F k).2.2.1 = some (ty_F k) := by decide +kernel
def F_G : u_T := fun k => match k with
  | 0 => ("FractalMaps$Grid", "mostSide", "I", true)
  | 1 => ("FractalMaps$Grid", "cells", "[I", true)
  | _ => ("FractalMaps$Grid", "side", "I", false)
def ty_G : Nat → FieldType := fun k => match k with
  | 0 => .int
  | 1 => .array .int
  | _ => .int
theorem nm_G : ∀ a, a < 3 → ∀ b, b < 3 → a ≠ b → (F_G a).2.1 ≠ (F_G b).2.1 := by decide +kernel
theorem ty_G_ok : ∀ k, k < 3 → parseFieldDescriptor (F_G k).2.2.1 = some (ty_G k) := by decide +kernel
def F_V : u_T := fun k => match k with
  | 0 => ("FractalMaps$View", "half", "LFractalMaps$Grid;", true)
  | 1 => ("FractalMaps$View", "left", "I", false)
  | 2 => ("FractalMaps$View", "top", "I", false)
  | 3 => ("FractalMaps$View", "start", "I", false)
  | 4 => ("FractalMaps$View", "stepAcross", "I", false)
  | _ => ("FractalMaps$View", "stepDown", "I", false)
def ty_V : Nat → FieldType := fun k => match k with
  | 0 => .object "FractalMaps$Grid"
  | 1 => .int
  | 2 => .int
  | 3 => .int
  | 4 => .int
  | _ => .int
theorem nm_V : ∀ a, a < 6 → ∀ b, b < 6 → a ≠ b → (F_V a).2.1 ≠ (F_V b).2.1 := by decide +kernel
theorem ty_V_ok : ∀ k, k < 6 → parseFieldDescriptor (F_V k).2.2.1 = some (ty_V k) := by decide +kernel
def F_S : u_T := fun k => match k with
  | 0 => ("FractalMaps$Search", "picture", "LFractalMaps$Grid;", true)
  | 1 => ("FractalMaps$Search", "half", "LFractalMaps$Grid;", true)
  | 2 => ("FractalMaps$Search", "view", "LFractalMaps$View;", true)
  | 3 => ("FractalMaps$Search", "wanted", "[I", true)
  | 4 => ("FractalMaps$Search", "found", "[I", true)
  | 5 => ("FractalMaps$Search", "quarterSums", "[I", true)
  | 6 => ("FractalMaps$Search", "sourceQuarters", "[I", true)
  | 7 => ("FractalMaps$Search", "best", "LFractalMaps$Fit;", true)
  | 8 => ("FractalMaps$Search", "tried", "I", false)
  | 9 => ("FractalMaps$Search", "size", "I", false)
  | 10 => ("FractalMaps$Search", "count", "I", false)
  | 11 => ("FractalMaps$Search", "wantedSum", "I", false)
  | 12 => ("FractalMaps$Search", "foundSum", "I", false)
  | _ => ("FractalMaps$Search", "foundSquares", "I", false)
def ty_S : Nat → FieldType := fun k => match k with
  | 0 => .object "FractalMaps$Grid"
  | 1 => .object "FractalMaps$Grid"
  | 2 => .object "FractalMaps$View"
  | 3 => .array .int
  | 4 => .array .int
  | 5 => .array .int
  | 6 => .array .int
  | 7 => .object "FractalMaps$Fit"
  | 8 => .int
  | 9 => .int
  | 10 => .int
  | 11 => .int
  | 12 => .int
  | _ => .int
theorem nm_S : ∀ a, a < 14 → ∀ b, b < 14 → a ≠ b → (F_S a).2.1 ≠ (F_S b).2.1 := by decide +kernel
theorem ty_S_ok : ∀ k, k < 14 → parseFieldDescriptor (F_S k).2.2.1 = some (ty_S k) := by decide +kernel
def F_T : u_T := fun k => match k with
  | 0 => ("FractalMaps$Fit", "domain", "I", false)
  | 1 => ("FractalMaps$Fit", "turn", "I", false)
  | 2 => ("FractalMaps$Fit", "contrast", "I", false)
  | 3 => ("FractalMaps$Fit", "offset", "I", false)
  | _ => ("FractalMaps$Fit", "error", "I", false)
def ty_T : Nat → FieldType := fun k => match k with
  | 0 => .int
  | 1 => .int
  | 2 => .int
  | 3 => .int
  | _ => .int
theorem nm_T : ∀ a, a < 5 → ∀ b, b < 5 → a ≠ b → (F_T a).2.1 ≠ (F_T b).2.1 := by decide +kernel
theorem ty_T_ok : ∀ k, k < 5 → parseFieldDescriptor (F_T k).2.2.1 = some (ty_T k) := by decide +kernel
def F_K : u_T := fun k => match k with
  | 0 => ("FractalMaps$Blocks", "facts", "[I", true)
  | _ => ("FractalMaps$Blocks", "count", "I", false)
def ty_K : Nat → FieldType := fun k => match k with
  | 0 => .array .int
  | _ => .int
theorem nm_K : ∀ a, a < 2 → ∀ b, b < 2 → a ≠ b → (F_K a).2.1 ≠ (F_K b).2.1 := by decide +kernel
theorem ty_K_ok : ∀ k, k < 2 → parseFieldDescriptor (F_K k).2.2.1 = some (ty_K k) := by decide +kernel
def F_B : u_T := fun k => match k with
  | 0 => ("FractalMaps$Bits", "row", "[I", true)
  | 1 => ("FractalMaps$Bits", "filled", "I", false)
  | _ => ("FractalMaps$Bits", "taken", "I", false)
def ty_B : Nat → FieldType := fun k => match k with
  | 0 => .array .int
  | 1 => .int
  | _ => .int
theorem nm_B : ∀ a, a < 3 → ∀ b, b < 3 → a ≠ b → (F_B a).2.1 ≠ (F_B b).2.1 := by decide +kernel
theorem ty_B_ok : ∀ k, k < 3 → parseFieldDescriptor (F_B k).2.2.1 = some (ty_B k) := by decide +kernel
def F_M : u_T := fun k => match k with
  | 0 => ("FractalMapsModel", "code", "I", false)
  | 1 => ("FractalMapsModel", "side", "I", true)
  | 2 => ("FractalMapsModel", "picture", "[I", true)
  | 3 => ("FractalMapsModel", "half", "[I", true)
  | 4 => ("FractalMapsModel", "many", "I", false)
  | 5 => ("FractalMapsModel", "blocks", "[I", true)
  | 6 => ("FractalMapsModel", "found", "I", false)
  | 7 => ("FractalMapsModel", "encodedBits", "I", false)
  | 8 => ("FractalMapsModel", "encoded", "[I", true)
  | 9 => ("FractalMapsModel", "fedMany", "I", false)
  | 10 => ("FractalMapsModel", "fed", "[I", true)
  | 11 => ("FractalMapsModel", "readAt", "I", false)
  | 12 => ("FractalMapsModel", "why", "I", false)
  | 13 => ("FractalMapsModel", "tried", "I", false)
  | 14 => ("FractalMapsModel", "waiting", "I", false)
  | 15 => ("FractalMapsModel", "pile", "[I", true)
  | 16 => ("FractalMapsModel", "decoded", "I", false)
  | 17 => ("FractalMapsModel", "news", "[I", true)
  | 18 => ("FractalMapsModel", "olds", "[I", true)
  | 19 => ("FractalMapsModel", "halves", "[I", true)
  | 20 => ("FractalMapsModel", "ds", "[I", true)
  | 21 => ("FractalMapsModel", "rs", "[I", true)
  | 22 => ("FractalMapsModel", "best", "[I", true)
  | _ => ("FractalMapsModel", "bestError", "J", false)
def ty_M : Nat → FieldType := fun k => match k with
  | 0 => .int
  | 1 => .int
  | 2 => .array .int
  | 3 => .array .int
  | 4 => .int
  | 5 => .array .int
  | 6 => .int
  | 7 => .int
  | 8 => .array .int
  | 9 => .int
  | 10 => .array .int
  | 11 => .int
  | 12 => .int
  | 13 => .int
  | 14 => .int
  | 15 => .array .int
  | 16 => .int
  | 17 => .array .int
  | 18 => .array .int
  | 19 => .array .int
  | 20 => .array .int
  | 21 => .array .int
  | 22 => .array .int
  | _ => .long
theorem nm_M : ∀ a, a < 24 → ∀ b, b < 24 → a ≠ b → (F_M a).2.1 ≠ (F_M b).2.1 := by decide +kernel
theorem ty_M_ok : ∀ k, k < 24 → parseFieldDescriptor (F_M k).2.2.1 = some (ty_M k) := by decide +kernel
abbrev classes : List vw_C := [("FractalMaps", F_F, 10), ("FractalMaps$Grid", F_G, 3), ("FractalMaps$View", F_V, 6), ("FractalMaps$Search", F_S, 14), ("FractalMaps$Fit", F_T, 5), ("FractalMaps$Blocks", F_K, 2), ("FractalMaps$Bits", F_B, 3), ("FractalMapsModel", F_M, 24)]
/-- the tables' words that every contract holds -/
def BIG : List Cond := lw_tbl.filter goodWord
theorem big_in {w : Cond} (h : w ∈ lw_tbl) (g : goodWord w = true) : w ∈ BIG := List.mem_filter.mpr ⟨h, g⟩
theorem big_good : ∀ w ∈ BIG, (w.onTables && w.keeps) = true ∨ ∃ ty, w = .arrayClass ty := fun w h => good_of_word (List.mem_filter.mp h).2
theorem z_g {y : MethodName} {b : ByteArray} {n : Nat} {r : Option FieldType} (h : Cond.code y b n r ∈ BIG) : GoodIn BIG (Cond.code y b n r :: BIG) := fun w hw => by
  rcases List.mem_cons.mp hw with e | e
  · subst e; exact ⟨h, big_good _ h⟩
  · exact ⟨e, big_good _ e⟩
theorem z_gV {own C : String} {idx : Nat} {y : MethodName} {b : ByteArray} {n : Nat} {r : Option FieldType} (h1 : Cond.methodLink own idx y ∈ BIG) (h2 : Cond.instanceMethod y ∈ BIG) (h3 : Cond.selects C y y ∈ BIG) (h4 : Cond.initialized C ∈ BIG) (h : Cond.code y b n r ∈ BIG) : GoodIn BIG (wsV own idx C y (Cond.code y b n r :: BIG)) := fun w hw => by
  unfold wsV at hw
  rcases List.mem_append.mp hw with e | e
  · simp only [List.mem_cons, List.not_mem_nil, or_false] at e
    rcases e with rfl | rfl | rfl | rfl
    · exact ⟨h1, big_good _ h1⟩
    · exact ⟨h2, big_good _ h2⟩
    · exact ⟨h3, big_good _ h3⟩
    · exact ⟨h4, big_good _ h4⟩
  · exact z_g h w e
abbrev b_F_paint : ByteArray := prog_1_method_3_code
def y_F_paint : MethodName := ⟨"FractalMaps", "paint", "(III)I"⟩
abbrev b_F_brought : ByteArray := prog_1_method_34_code
def y_F_brought : MethodName := ⟨"FractalMaps", "brought", "(JJJ)J"⟩
abbrev b_G_sample : ByteArray := prog_5_method_3_code
def y_G_sample : MethodName := ⟨"FractalMaps$Grid", "sample", "(II)I"⟩
abbrev b_G_set : ByteArray := prog_5_method_4_code
def y_G_set : MethodName := ⟨"FractalMaps$Grid", "set", "(III)V"⟩
abbrev b_G_has : ByteArray := prog_5_method_2_code
def y_G_has : MethodName := ⟨"FractalMaps$Grid", "has", "(II)Z"⟩
abbrev b_F_read : ByteArray := prog_1_method_9_code
def y_F_read : MethodName := ⟨"FractalMaps", "read", "()I"⟩
abbrev b_F_readWaiting : ByteArray := prog_1_method_21_code
def y_F_readWaiting : MethodName := ⟨"FractalMaps", "readWaiting", "(Z)I"⟩
abbrev b_B_rewind : ByteArray := prog_2_method_3_code
def y_B_rewind : MethodName := ⟨"FractalMaps$Bits", "rewind", "()V"⟩
abbrev b_B_take : ByteArray := prog_2_method_8_code
def y_B_take : MethodName := ⟨"FractalMaps$Bits", "take", "(I)I"⟩
abbrev b_B_bitAt : ByteArray := prog_2_method_9_code
def y_B_bitAt : MethodName := ⟨"FractalMaps$Bits", "bitAt", "(I)I"⟩
abbrev b_B_byteOf : ByteArray := prog_2_method_5_code
def y_B_byteOf : MethodName := ⟨"FractalMaps$Bits", "byteOf", "(I)I"⟩
abbrev b_F_isSize : ByteArray := prog_1_method_28_code
def y_F_isSize : MethodName := ⟨"FractalMaps", "isSize", "(I)Z"⟩
abbrev b_F_readQuarters : ByteArray := prog_1_method_22_code
def y_F_readQuarters : MethodName := ⟨"FractalMaps", "readQuarters", "(IIIIZ)I"⟩
abbrev b_F_readSquare : ByteArray := prog_1_method_23_code
def y_F_readSquare : MethodName := ⟨"FractalMaps", "readSquare", "(IIIIZ)I"⟩
abbrev b_F_acrossOf : ByteArray := prog_1_method_32_code
def y_F_acrossOf : MethodName := ⟨"FractalMaps", "acrossOf", "(I)I"⟩
abbrev b_F_downOf : ByteArray := prog_1_method_33_code
def y_F_downOf : MethodName := ⟨"FractalMaps", "downOf", "(I)I"⟩
abbrev b_F_readFit : ByteArray := prog_1_method_24_code
def y_F_readFit : MethodName := ⟨"FractalMaps", "readFit", "(I)I"⟩
abbrev b_F_domainBits : ByteArray := prog_1_method_27_code
def y_F_domainBits : MethodName := ⟨"FractalMaps", "domainBits", "(I)I"⟩
abbrev b_F_domainsOf : ByteArray := prog_1_method_31_code
def y_F_domainsOf : MethodName := ⟨"FractalMaps", "domainsOf", "(II)I"⟩
abbrev b_F_domainsAcross : ByteArray := prog_1_method_30_code
def y_F_domainsAcross : MethodName := ⟨"FractalMaps", "domainsAcross", "(II)I"⟩
abbrev b_T_become : ByteArray := prog_4_method_2_code
def y_T_become : MethodName := ⟨"FractalMaps$Fit", "become", "(IIIII)V"⟩
abbrev b_K_add : ByteArray := prog_3_method_3_code
def y_K_add : MethodName := ⟨"FractalMaps$Blocks", "add", "(IIILFractalMaps$Fit;)V"⟩
abbrev b_B_restIsFilling : ByteArray := prog_2_method_10_code
def y_B_restIsFilling : MethodName := ⟨"FractalMaps$Bits", "restIsFilling", "()Z"⟩
abbrev b_B_wipe : ByteArray := prog_2_method_2_code
def y_B_wipe : MethodName := ⟨"FractalMaps$Bits", "wipe", "()V"⟩
abbrev b_K_wipe : ByteArray := prog_3_method_2_code
def y_K_wipe : MethodName := ⟨"FractalMaps$Blocks", "wipe", "()V"⟩
abbrev b_F_told : ByteArray := prog_1_method_16_code
def y_F_told : MethodName := ⟨"FractalMaps", "told", "(I)I"⟩
abbrev b_B_bytes : ByteArray := prog_2_method_4_code
def y_B_bytes : MethodName := ⟨"FractalMaps$Bits", "bytes", "()I"⟩
abbrev b_F_tried : ByteArray := prog_1_method_15_code
def y_F_tried : MethodName := ⟨"FractalMaps", "tried", "()I"⟩
abbrev b_M_thrown : ByteArray := prog_9_method_2_code
def y_M_thrown : MethodName := ⟨"FractalMapsModel", "thrown", "()I"⟩
abbrev b_M_put : ByteArray := prog_9_method_8_code
def y_M_put : MethodName := ⟨"FractalMapsModel", "put", "(III)I"⟩
abbrev b_M_isPlace : ByteArray := prog_9_method_7_code
def y_M_isPlace : MethodName := ⟨"FractalMapsModel", "isPlace", "(II)Z"⟩
abbrev b_M_in : ByteArray := prog_9_method_3_code
def y_M_in : MethodName := ⟨"FractalMapsModel", "in", "(JJJ)Z"⟩
abbrev b_M_paint : ByteArray := prog_9_method_9_code
def y_M_paint : MethodName := ⟨"FractalMapsModel", "paint", "(III)I"⟩
abbrev b_M_brought : ByteArray := prog_9_method_4_code
def y_M_brought : MethodName := ⟨"FractalMapsModel", "brought", "(JII)I"⟩
abbrev b_M_block : ByteArray := prog_9_method_28_code
def y_M_block : MethodName := ⟨"FractalMapsModel", "block", "(II)I"⟩
abbrev b_M_byteAt : ByteArray := prog_9_method_29_code
def y_M_byteAt : MethodName := ⟨"FractalMapsModel", "byteAt", "(I)I"⟩
abbrev b_M_bytes : ByteArray := prog_9_method_26_code
def y_M_bytes : MethodName := ⟨"FractalMapsModel", "bytes", "()I"⟩
abbrev b_M_feed : ByteArray := prog_9_method_30_code
def y_M_feed : MethodName := ⟨"FractalMapsModel", "feed", "(I)I"⟩
abbrev b_M_pass : ByteArray := prog_9_method_31_code
def y_M_pass : MethodName := ⟨"FractalMapsModel", "pass", "()I"⟩
abbrev b_M_at : ByteArray := prog_9_method_38_code
def y_M_at : MethodName := ⟨"FractalMapsModel", "at", "(II)I"⟩
abbrev b_M_missed : ByteArray := prog_9_method_39_code
def y_M_missed : MethodName := ⟨"FractalMapsModel", "missed", "()J"⟩
abbrev b_M_kind : ByteArray := prog_9_method_41_code
def y_M_kind : MethodName := ⟨"FractalMapsModel", "kind", "(III)I"⟩
abbrev b_M_isSize : ByteArray := prog_9_method_6_code
def y_M_isSize : MethodName := ⟨"FractalMapsModel", "isSize", "(I)Z"⟩
abbrev b_M_layBlock : ByteArray := prog_9_method_14_code
def y_M_layBlock : MethodName := ⟨"FractalMapsModel", "layBlock", "(III)V"⟩
abbrev b_M_classOf : ByteArray := prog_9_method_16_code
def y_M_classOf : MethodName := ⟨"FractalMapsModel", "classOf", "([II)I"⟩
abbrev b_M_quarterSum : ByteArray := prog_9_method_15_code
def y_M_quarterSum : MethodName := ⟨"FractalMapsModel", "quarterSum", "([III)I"⟩
abbrev b_M_tried : ByteArray := prog_9_method_42_code
def y_M_tried : MethodName := ⟨"FractalMapsModel", "tried", "()I"⟩
abbrev b_M_told : ByteArray := prog_9_method_43_code
def y_M_told : MethodName := ⟨"FractalMapsModel", "told", "(I)I"⟩
abbrev b_M_clear : ByteArray := prog_9_method_44_code
def y_M_clear : MethodName := ⟨"FractalMapsModel", "clear", "()V"⟩
abbrev b_M_read : ByteArray := prog_9_method_35_code
def y_M_read : MethodName := ⟨"FractalMapsModel", "read", "()I"⟩
abbrev b_M_take : ByteArray := prog_9_method_33_code
def y_M_take : MethodName := ⟨"FractalMapsModel", "take", "(I)I"⟩
abbrev b_M_bitAt : ByteArray := prog_9_method_32_code
def y_M_bitAt : MethodName := ⟨"FractalMapsModel", "bitAt", "(I)I"⟩
abbrev b_M_pileQuarters : ByteArray := prog_9_method_21_code
def y_M_pileQuarters : MethodName := ⟨"FractalMapsModel", "pileQuarters", "(III)V"⟩
abbrev b_M_pileUp : ByteArray := prog_9_method_20_code
def y_M_pileUp : MethodName := ⟨"FractalMapsModel", "pileUp", "(III)V"⟩
abbrev b_M_takeFound : ByteArray := prog_9_method_23_code
def y_M_takeFound : MethodName := ⟨"FractalMapsModel", "takeFound", "()V"⟩
abbrev b_M_readBlock : ByteArray := prog_9_method_34_code
def y_M_readBlock : MethodName := ⟨"FractalMapsModel", "readBlock", "(III)V"⟩
abbrev b_M_bitsFor : ByteArray := prog_9_method_24_code
def y_M_bitsFor : MethodName := ⟨"FractalMapsModel", "bitsFor", "(I)I"⟩
abbrev b_M_domains : ByteArray := prog_9_method_12_code
def y_M_domains : MethodName := ⟨"FractalMapsModel", "domains", "(I)I"⟩
abbrev b_M_note : ByteArray := prog_9_method_22_code
def y_M_note : MethodName := ⟨"FractalMapsModel", "note", "(IIII)V"⟩
abbrev b_M_domain : ByteArray := prog_9_method_40_code
def y_M_domain : MethodName := ⟨"FractalMapsModel", "domain", "(IIIII)I"⟩
abbrev b_M_halve : ByteArray := prog_9_method_10_code
def y_M_halve : MethodName := ⟨"FractalMapsModel", "halve", "([II[I)V"⟩
abbrev b_M_layDomain : ByteArray := prog_9_method_13_code
def y_M_layDomain : MethodName := ⟨"FractalMapsModel", "layDomain", "(III)V"⟩
abbrev b_M_turned : ByteArray := prog_9_method_11_code
def y_M_turned : MethodName := ⟨"FractalMapsModel", "turned", "([IIIIIII)I"⟩
abbrev b_M_decode : ByteArray := prog_9_method_37_code
def y_M_decode : MethodName := ⟨"FractalMapsModel", "decode", "(II)I"⟩
abbrev b_M_decodeBlock : ByteArray := prog_9_method_36_code
def y_M_decodeBlock : MethodName := ⟨"FractalMapsModel", "decodeBlock", "(II)I"⟩
abbrev b_M_mapped : ByteArray := prog_9_method_17_code
def y_M_mapped : MethodName := ⟨"FractalMapsModel", "mapped", "(II)I"⟩
abbrev b_M_encode : ByteArray := prog_9_method_27_code
def y_M_encode : MethodName := ⟨"FractalMapsModel", "encode", "(II)I"⟩
abbrev b_M_tell : ByteArray := prog_9_method_25_code
def y_M_tell : MethodName := ⟨"FractalMapsModel", "tell", "(II)V"⟩
abbrev b_M_search : ByteArray := prog_9_method_19_code
def y_M_search : MethodName := ⟨"FractalMapsModel", "search", "(III)V"⟩
abbrev b_M_tryOne : ByteArray := prog_9_method_18_code
def y_M_tryOne : MethodName := ⟨"FractalMapsModel", "tryOne", "(III)V"⟩
abbrev b_M_nearest : ByteArray := prog_9_method_5_code
def y_M_nearest : MethodName := ⟨"FractalMapsModel", "nearest", "(JJ)J"⟩
def w_F_paint : List Cond := .code y_F_paint b_F_paint 10 (some .int) :: BIG
def w_F_brought : List Cond := .code y_F_brought b_F_brought 6 (some .long) :: BIG
def w_G_sample : List Cond := .code y_G_sample b_G_sample 3 (some .int) :: BIG
def w_G_set : List Cond := .code y_G_set b_G_set 4 none :: BIG
def w_G_has : List Cond := .code y_G_has b_G_has 3 (some .boolean) :: BIG
def w_F_read : List Cond := .code y_F_read b_F_read 2 (some .int) :: BIG
def w_F_readWaiting : List Cond := .code y_F_readWaiting b_F_readWaiting 5 (some .int) :: BIG
def w_B_rewind : List Cond := .code y_B_rewind b_B_rewind 1 none :: BIG
def w_B_take : List Cond := .code y_B_take b_B_take 4 (some .int) :: BIG
def w_B_bitAt : List Cond := .code y_B_bitAt b_B_bitAt 2 (some .int) :: BIG
def w_B_byteOf : List Cond := .code y_B_byteOf b_B_byteOf 2 (some .int) :: BIG
def w_F_isSize : List Cond := .code y_F_isSize b_F_isSize 1 (some .boolean) :: BIG
def w_F_readQuarters : List Cond := .code y_F_readQuarters b_F_readQuarters 8 (some .int) :: BIG
def w_F_readSquare : List Cond := .code y_F_readSquare b_F_readSquare 8 (some .int) :: BIG
def w_F_acrossOf : List Cond := .code y_F_acrossOf b_F_acrossOf 1 (some .int) :: BIG
def w_F_downOf : List Cond := .code y_F_downOf b_F_downOf 1 (some .int) :: BIG
def w_F_readFit : List Cond := .code y_F_readFit b_F_readFit 6 (some .int) :: BIG
def w_F_domainBits : List Cond := .code y_F_domainBits b_F_domainBits 4 (some .int) :: BIG
def w_F_domainsOf : List Cond := .code y_F_domainsOf b_F_domainsOf 3 (some .int) :: BIG
def w_F_domainsAcross : List Cond := .code y_F_domainsAcross b_F_domainsAcross 2 (some .int) :: BIG
def w_T_become : List Cond := .code y_T_become b_T_become 6 none :: BIG
def w_K_add : List Cond := .code y_K_add b_K_add 6 none :: BIG
def w_B_restIsFilling : List Cond := .code y_B_restIsFilling b_B_restIsFilling 2 (some .boolean) :: BIG
def w_B_wipe : List Cond := .code y_B_wipe b_B_wipe 1 none :: BIG
def w_K_wipe : List Cond := .code y_K_wipe b_K_wipe 1 none :: BIG
def w_F_told : List Cond := .code y_F_told b_F_told 2 (some .int) :: BIG
def w_B_bytes : List Cond := .code y_B_bytes b_B_bytes 1 (some .int) :: BIG
def w_F_tried : List Cond := .code y_F_tried b_F_tried 1 (some .int) :: BIG
def w_M_thrown : List Cond := .code y_M_thrown b_M_thrown 1 (some .int) :: BIG
def w_M_put : List Cond := .code y_M_put b_M_put 5 (some .int) :: BIG
def w_M_isPlace : List Cond := .code y_M_isPlace b_M_isPlace 3 (some .boolean) :: BIG
def w_M_in : List Cond := .code y_M_in b_M_in 6 (some .boolean) :: BIG
def w_M_paint : List Cond := .code y_M_paint b_M_paint 9 (some .int) :: BIG
def w_M_brought : List Cond := .code y_M_brought b_M_brought 4 (some .int) :: BIG
def w_M_block : List Cond := .code y_M_block b_M_block 3 (some .int) :: BIG
def w_M_byteAt : List Cond := .code y_M_byteAt b_M_byteAt 2 (some .int) :: BIG
def w_M_bytes : List Cond := .code y_M_bytes b_M_bytes 1 (some .int) :: BIG
def w_M_feed : List Cond := .code y_M_feed b_M_feed 2 (some .int) :: BIG
def w_M_pass : List Cond := .code y_M_pass b_M_pass 2 (some .int) :: BIG
def w_M_at : List Cond := .code y_M_at b_M_at 3 (some .int) :: BIG
def w_M_missed : List Cond := .code y_M_missed b_M_missed 6 (some .long) :: BIG
def w_M_kind : List Cond := .code y_M_kind b_M_kind 4 (some .int) :: BIG
def w_M_isSize : List Cond := .code y_M_isSize b_M_isSize 1 (some .boolean) :: BIG
def w_M_layBlock : List Cond := .code y_M_layBlock b_M_layBlock 5 none :: BIG
def w_M_classOf : List Cond := .code y_M_classOf b_M_classOf 4 (some .int) :: BIG
def w_M_quarterSum : List Cond := .code y_M_quarterSum b_M_quarterSum 6 (some .int) :: BIG
def w_M_tried : List Cond := .code y_M_tried b_M_tried 1 (some .int) :: BIG
def w_M_told : List Cond := .code y_M_told b_M_told 2 (some .int) :: BIG
def w_M_clear : List Cond := .code y_M_clear b_M_clear 2 none :: BIG
def w_M_read : List Cond := .code y_M_read b_M_read 6 (some .int) :: BIG
def w_M_take : List Cond := .code y_M_take b_M_take 4 (some .int) :: BIG
def w_M_bitAt : List Cond := .code y_M_bitAt b_M_bitAt 2 (some .int) :: BIG
def w_M_pileQuarters : List Cond := .code y_M_pileQuarters b_M_pileQuarters 5 none :: BIG
def w_M_pileUp : List Cond := .code y_M_pileUp b_M_pileUp 4 none :: BIG
def w_M_takeFound : List Cond := .code y_M_takeFound b_M_takeFound 2 none :: BIG
def w_M_readBlock : List Cond := .code y_M_readBlock b_M_readBlock 4 none :: BIG
def w_M_bitsFor : List Cond := .code y_M_bitsFor b_M_bitsFor 5 (some .int) :: BIG
def w_M_domains : List Cond := .code y_M_domains b_M_domains 2 (some .int) :: BIG
def w_M_note : List Cond := .code y_M_note b_M_note 7 none :: BIG
def w_M_domain : List Cond := .code y_M_domain b_M_domain 7 (some .int) :: BIG
def w_M_halve : List Cond := .code y_M_halve b_M_halve 6 none :: BIG
def w_M_layDomain : List Cond := .code y_M_layDomain b_M_layDomain 6 none :: BIG
def w_M_turned : List Cond := .code y_M_turned b_M_turned 11 (some .int) :: BIG
def w_M_decode : List Cond := .code y_M_decode b_M_decode 7 (some .int) :: BIG
def w_M_decodeBlock : List Cond := .code y_M_decodeBlock b_M_decodeBlock 15 (some .int) :: BIG
def w_M_mapped : List Cond := .code y_M_mapped b_M_mapped 3 (some .int) :: BIG
def w_M_encode : List Cond := .code y_M_encode b_M_encode 7 (some .int) :: BIG
def w_M_tell : List Cond := .code y_M_tell b_M_tell 6 none :: BIG
def w_M_search : List Cond := .code y_M_search b_M_search 10 none :: BIG
def w_M_tryOne : List Cond := .code y_M_tryOne b_M_tryOne 27 none :: BIG
def w_M_nearest : List Cond := .code y_M_nearest b_M_nearest 8 (some .long) :: BIG
