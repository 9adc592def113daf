abbrev RBr : String := "ScriptStack$Branches"
def TBr : u_T := fun k => match k with
  | 0 => (RBr, "open", "I", false)
  | _ => (RBr, "shutAt", "I", false)
def tyBr : Nat → FieldType := fun k => match k with
  | 0 => .int
  | _ => .int
abbrev REl : String := "ScriptStack$Elements"
def TEl : u_T := fun k => match k with
  | 0 => (REl, "bytes", "[B", true)
  | 1 => (REl, "sizes", "[I", true)
  | _ => (REl, "count", "I", false)
def tyEl : Nat → FieldType := fun k => match k with
  | 0 => .array .byte
  | 1 => .array .int
  | _ => .int
abbrev RRow : String := "ScriptStack$Row"
def TRow : u_T := fun k => match k with
  | 0 => (RRow, "bytes", "[B", true)
  | _ => (RRow, "size", "I", false)
def tyRow : Nat → FieldType := fun k => match k with
  | 0 => .array .byte
  | _ => .int
abbrev RRun : String := "ScriptStack$Runner"
def TRun : u_T := fun k => match k with
  | 0 => (RRun, "stack", "LScriptStack$Elements;", true)
  | 1 => (RRun, "signer", "LScriptStack$Signer;", true)
  | 2 => (RRun, "hasher", "LScriptStack$Sha256;", true)
  | _ => (RRun, "branches", "LScriptStack$Branches;", true)
def tyRun : Nat → FieldType := fun k => match k with
  | 0 => .object "ScriptStack$Elements"
  | 1 => .object "ScriptStack$Signer"
  | 2 => .object "ScriptStack$Sha256"
  | _ => .object "ScriptStack$Branches"
abbrev RSha : String := "ScriptStack$Sha256"
def TSha : u_T := fun k => match k with
  | 0 => (RSha, "state", "[I", true)
  | _ => (RSha, "words", "[I", true)
def tySha : Nat → FieldType := fun k => match k with
  | 0 => .array .int
  | _ => .array .int
abbrev RSig : String := "ScriptStack$Signer"
def TSig : u_T := fun k => match k with
  | 0 => (RSig, "message", "[B", true)
  | 1 => (RSig, "made", "[B", true)
  | 2 => (RSig, "hasher", "LScriptStack$Sha256;", true)
  | _ => (RSig, "text", "[B", true)
def tySig : Nat → FieldType := fun k => match k with
  | 0 => .array .byte
  | 1 => .array .byte
  | 2 => .object "ScriptStack$Sha256"
  | _ => .array .byte
abbrev RSS : String := "ScriptStack"
def TSS : u_T := fun k => match k with
  | 0 => (RSS, "tape", "LScriptStack$Row;", true)
  | 1 => (RSS, "out", "LScriptStack$Row;", true)
  | 2 => (RSS, "firstScript", "LScriptStack$Row;", true)
  | 3 => (RSS, "secondScript", "LScriptStack$Row;", true)
  | 4 => (RSS, "runner", "LScriptStack$Runner;", true)
  | 5 => (RSS, "stack", "LScriptStack$Elements;", true)
  | 6 => (RSS, "signer", "LScriptStack$Signer;", true)
  | 7 => (RSS, "hasher", "LScriptStack$Sha256;", true)
  | _ => (RSS, "nothingFailed", "Z", false)
def tySS : Nat → FieldType := fun k => match k with
  | 0 => .object "ScriptStack$Row"
  | 1 => .object "ScriptStack$Row"
  | 2 => .object "ScriptStack$Row"
  | 3 => .object "ScriptStack$Row"
  | 4 => .object "ScriptStack$Runner"
  | 5 => .object "ScriptStack$Elements"
  | 6 => .object "ScriptStack$Signer"
  | 7 => .object "ScriptStack$Sha256"
  | _ => .boolean
abbrev RMod : String := "ScriptStackModel"
def TMod : u_T := fun k => match k with
  | 0 => (RMod, "tape", "[B", true)
  | 1 => (RMod, "tapeLength", "I", false)
  | 2 => (RMod, "out", "[B", true)
  | 3 => (RMod, "outLength", "I", false)
  | 4 => (RMod, "mem", "[B", true)
  | 5 => (RMod, "length", "[I", true)
  | 6 => (RMod, "signHash", "[B", true)
  | 7 => (RMod, "w", "[I", true)
  | 8 => (RMod, "h", "[I", true)
  | 9 => (RMod, "once", "[B", true)
  | 10 => (RMod, "digest", "[B", true)
  | 11 => (RMod, "buffer", "[B", true)
  | 12 => (RMod, "stack", "[B", true)
  | 13 => (RMod, "sizes", "[I", true)
  | 14 => (RMod, "depth", "I", false)
  | 15 => (RMod, "good", "Z", false)
  | _ => (RMod, "branch", "[Z", true)
def tyMod : Nat → FieldType := fun k => match k with
  | 0 => .array .byte
  | 1 => .int
  | 2 => .array .byte
  | 3 => .int
  | 4 => .array .byte
  | 5 => .array .int
  | 6 => .array .byte
  | 7 => .array .int
  | 8 => .array .int
  | 9 => .array .byte
  | 10 => .array .byte
  | 11 => .array .byte
  | 12 => .array .byte
  | 13 => .array .int
  | 14 => .int
  | 15 => .boolean
  | _ => .array .boolean
abbrev clz : List vw_C := [(RBr, TBr, 2), (REl, TEl, 3), (RRow, TRow, 2), (RRun, TRun, 4), (RSha, TSha, 2), (RSig, TSig, 4), (RSS, TSS, 9), (RMod, TMod, 17)]
def ALLW : List Cond := lw_tbl.filter goodWord
theorem ALLW_good : ∀ w ∈ ALLW, goodWord w = true := fun w h => (List.mem_filter.mp h).2
theorem ALLW_tbl : ∀ w ∈ ALLW, w ∈ lw_tbl := fun w h => (List.mem_filter.mp h).1
theorem al1 {w : Cond} (i : Nat) (h : tables_1_1[i]? = some w) (hg : goodWord w = true) : w ∈ ALLW := List.mem_filter.mpr ⟨List.mem_append_right _ (List.mem_append_left _ (List.mem_of_getElem? h)), hg⟩
theorem al2 {w : Cond} (i : Nat) (h : tables_1_2[i]? = some w) (hg : goodWord w = true) : w ∈ ALLW := List.mem_filter.mpr ⟨List.mem_append_right _ (List.mem_append_right _ (List.mem_append_left _ (List.mem_of_getElem? h))), hg⟩
theorem al3 {w : Cond} (i : Nat) (h : tables_1_3[i]? = some w) (hg : goodWord w = true) : w ∈ ALLW := List.mem_filter.mpr ⟨List.mem_append_right _ (List.mem_append_right _ (List.mem_append_right _ (List.mem_of_getElem? h))), hg⟩
theorem als {w : Cond} (i : Nat) (h : (k2_sels lw_privs)[i]? = some w) (hg : goodWord w = true) : w ∈ ALLW := List.mem_filter.mpr ⟨List.mem_append_left _ (List.mem_of_getElem? h), hg⟩
theorem in_Br : ∀ w ∈ u_ws RBr TBr 2, w ∈ ALLW := by
  intro w hw
  simp only [u_ws, List.range, List.range.loop, List.map_cons, List.map_nil, List.mem_cons, List.not_mem_nil, or_false] at hw
  rcases hw with rfl | rfl
  · exact al1 111 rfl rfl
  · exact al1 113 rfl rfl
theorem nm_Br : ∀ a, a < 2 → ∀ b, b < 2 → a ≠ b → (TBr a).2.1 ≠ (TBr b).2.1 := by decide +kernel
theorem tyok_Br : ∀ k, k < 2 → parseFieldDescriptor (TBr k).2.2.1 = some (tyBr k) := by decide +kernel
theorem in_El : ∀ w ∈ u_ws REl TEl 3, w ∈ ALLW := by
  intro w hw
  simp only [u_ws, List.range, List.range.loop, List.map_cons, List.map_nil, List.mem_cons, List.not_mem_nil, or_false] at hw
  rcases hw with rfl | rfl | rfl
  · exact al1 58 rfl rfl
  · exact al1 60 rfl rfl
  · exact al1 62 rfl rfl
theorem nm_El : ∀ a, a < 3 → ∀ b, b < 3 → a ≠ b → (TEl a).2.1 ≠ (TEl b).2.1 := by decide +kernel
theorem tyok_El : ∀ k, k < 3 → parseFieldDescriptor (TEl k).2.2.1 = some (tyEl k) := by decide +kernel
theorem in_Row : ∀ w ∈ u_ws RRow TRow 2, w ∈ ALLW := by
  intro w hw
  simp only [u_ws, List.range, List.range.loop, List.map_cons, List.map_nil, List.mem_cons, List.not_mem_nil, or_false] at hw
  rcases hw with rfl | rfl
  · exact al1 31 rfl rfl
  · exact al1 33 rfl rfl
theorem nm_Row : ∀ a, a < 2 → ∀ b, b < 2 → a ≠ b → (TRow a).2.1 ≠ (TRow b).2.1 := by decide +kernel
theorem tyok_Row : ∀ k, k < 2 → parseFieldDescriptor (TRow k).2.2.1 = some (tyRow k) := by decide +kernel
theorem in_Run : ∀ w ∈ u_ws RRun TRun 4, w ∈ ALLW := by
  intro w hw
  simp only [u_ws, List.range, List.range.loop, List.map_cons, List.map_nil, List.mem_cons, List.not_mem_nil, or_false] at hw
  rcases hw with rfl | rfl | rfl | rfl
  · exact al1 122 rfl rfl
  · exact al1 124 rfl rfl
  · exact al1 126 rfl rfl
  · exact al1 128 rfl rfl
theorem nm_Run : ∀ a, a < 4 → ∀ b, b < 4 → a ≠ b → (TRun a).2.1 ≠ (TRun b).2.1 := by decide +kernel
theorem tyok_Run : ∀ k, k < 4 → parseFieldDescriptor (TRun k).2.2.1 = some (tyRun k) := by decide +kernel
theorem in_Sha : ∀ w ∈ u_ws RSha TSha 2, w ∈ ALLW := by
  intro w hw
  simp only [u_ws, List.range, List.range.loop, List.map_cons, List.map_nil, List.mem_cons, List.not_mem_nil, or_false] at hw
  rcases hw with rfl | rfl
  · exact al1 80 rfl rfl
  · exact al1 82 rfl rfl
theorem nm_Sha : ∀ a, a < 2 → ∀ b, b < 2 → a ≠ b → (TSha a).2.1 ≠ (TSha b).2.1 := by decide +kernel
theorem tyok_Sha : ∀ k, k < 2 → parseFieldDescriptor (TSha k).2.2.1 = some (tySha k) := by decide +kernel
theorem in_Sig : ∀ w ∈ u_ws RSig TSig 4, w ∈ ALLW := by
  intro w hw
  simp only [u_ws, List.range, List.range.loop, List.map_cons, List.map_nil, List.mem_cons, List.not_mem_nil, or_false] at hw
  rcases hw with rfl | rfl | rfl | rfl
  · exact al1 94 rfl rfl
  · exact al1 96 rfl rfl
  · exact al1 98 rfl rfl
  · exact al1 100 rfl rfl
theorem nm_Sig : ∀ a, a < 4 → ∀ b, b < 4 → a ≠ b → (TSig a).2.1 ≠ (TSig b).2.1 := by decide +kernel
theorem tyok_Sig : ∀ k, k < 4 → parseFieldDescriptor (TSig k).2.2.1 = some (tySig k) := by decide +kernel
theorem in_SS : ∀ w ∈ u_ws RSS TSS 9, w ∈ ALLW := by
  intro w hw
  simp only [u_ws, List.range, List.range.loop, List.map_cons, List.map_nil, List.mem_cons, List.not_mem_nil, or_false] at hw
  rcases hw with rfl | rfl | rfl | rfl | rfl | rfl | rfl | rfl | rfl
  · exact al1 140 rfl rfl
  · exact al1 142 rfl rfl
  · exact al1 144 rfl rfl
  · exact al1 146 rfl rfl
  · exact al1 148 rfl rfl
  · exact al1 150 rfl rfl
  · exact al1 152 rfl rfl
  · exact al1 154 rfl rfl
  · exact al1 156 rfl rfl
theorem nm_SS : ∀ a, a < 9 → ∀ b, b < 9 → a ≠ b → (TSS a).2.1 ≠ (TSS b).2.1 := by decide +kernel
theorem tyok_SS : ∀ k, k < 9 → parseFieldDescriptor (TSS k).2.2.1 = some (tySS k) := by decide +kernel
theorem in_Mod : ∀ w ∈ u_ws RMod TMod 17, w ∈ ALLW := by
  intro w hw
  simp only [u_ws, List.range, List.range.loop, List.map_cons, List.map_nil, List.mem_cons, List.not_mem_nil, or_false] at hw
  rcases hw with rfl | rfl | rfl | rfl | rfl | rfl | rfl | rfl | rfl | rfl | rfl | rfl | rfl | rfl | rfl | rfl | rfl
  · exact al2 164 rfl rfl
  · exact al2 166 rfl rfl
  · exact al2 168 rfl rfl
  · exact al2 170 rfl rfl
  · exact al2 172 rfl rfl
  · exact al2 174 rfl rfl
  · exact al2 176 rfl rfl
  · exact al2 178 rfl rfl
  · exact al2 180 rfl rfl
  · exact al2 182 rfl rfl
  · exact al2 184 rfl rfl
  · exact al2 186 rfl rfl
  · exact al2 188 rfl rfl
  · exact al2 190 rfl rfl
  · exact al2 192 rfl rfl
  · exact al2 194 rfl rfl
  · exact al2 196 rfl rfl
theorem nm_Mod : ∀ a, a < 17 → ∀ b, b < 17 → a ≠ b → (TMod a).2.1 ≠ (TMod b).2.1 := by decide +kernel
theorem tyok_Mod : ∀ k, k < 17 → parseFieldDescriptor (TMod k).2.2.1 = some (tyMod k) := by decide +kernel
abbrev b_SS_init : ByteArray := prog_1_method_1_code
abbrev y_SS_init : MethodName := ⟨RSS, "<init>", "()V"⟩
abbrev b_SS_feed : ByteArray := prog_1_method_2_code
abbrev y_SS_feed : MethodName := ⟨RSS, "feed", "(IIIII)I"⟩
abbrev b_SS_end : ByteArray := prog_1_method_3_code
abbrev y_SS_end : MethodName := ⟨RSS, "end", "(I)I"⟩
abbrev b_SS_script : ByteArray := prog_1_method_4_code
abbrev y_SS_script : MethodName := ⟨RSS, "script", "(I)I"⟩
abbrev b_SS_message : ByteArray := prog_1_method_5_code
abbrev y_SS_message : MethodName := ⟨RSS, "message", "()I"⟩
abbrev b_SS_run : ByteArray := prog_1_method_6_code
abbrev y_SS_run : MethodName := ⟨RSS, "run", "(I)Z"⟩
abbrev b_SS_depth : ByteArray := prog_1_method_7_code
abbrev y_SS_depth : MethodName := ⟨RSS, "depth", "()I"⟩
abbrev b_SS_element : ByteArray := prog_1_method_8_code
abbrev y_SS_element : MethodName := ⟨RSS, "element", "(II)I"⟩
abbrev b_SS_sha : ByteArray := prog_1_method_9_code
abbrev y_SS_sha : MethodName := ⟨RSS, "sha", "()I"⟩
abbrev b_SS_sign : ByteArray := prog_1_method_10_code
abbrev y_SS_sign : MethodName := ⟨RSS, "sign", "()I"⟩
abbrev b_SS_back : ByteArray := prog_1_method_11_code
abbrev y_SS_back : MethodName := ⟨RSS, "back", "()I"⟩
abbrev b_SS_octet : ByteArray := prog_1_method_12_code
abbrev y_SS_octet : MethodName := ⟨RSS, "octet", "(I)I"⟩
abbrev b_Mod_init : ByteArray := prog_9_method_1_code
abbrev y_Mod_init : MethodName := ⟨RMod, "<init>", "()V"⟩
abbrev b_Mod_round : ByteArray := prog_9_method_2_code
abbrev y_Mod_round : MethodName := ⟨RMod, "round", "()V"⟩
abbrev b_Mod_sha5 : ByteArray := prog_9_method_3_code
abbrev y_Mod_sha5 : MethodName := ⟨RMod, "sha", "([BII[BI)V"⟩
abbrev b_Mod_hash : ByteArray := prog_9_method_4_code
abbrev y_Mod_hash : MethodName := ⟨RMod, "hash", "([BII[BI)V"⟩
abbrev b_Mod_same : ByteArray := prog_9_method_5_code
abbrev y_Mod_same : MethodName := ⟨RMod, "same", "([BI[BII)Z"⟩
abbrev b_Mod_push : ByteArray := prog_9_method_6_code
abbrev y_Mod_push : MethodName := ⟨RMod, "push", "([BII)Z"⟩
abbrev b_Mod_pushNumber : ByteArray := prog_9_method_7_code
abbrev y_Mod_pushNumber : MethodName := ⟨RMod, "pushNumber", "(I)Z"⟩
abbrev b_Mod_isTrue : ByteArray := prog_9_method_8_code
abbrev y_Mod_isTrue : MethodName := ⟨RMod, "isTrue", "(I)Z"⟩
abbrev b_Mod_numberOf : ByteArray := prog_9_method_9_code
abbrev y_Mod_numberOf : MethodName := ⟨RMod, "numberOf", "(I)I"⟩
abbrev b_Mod_signed : ByteArray := prog_9_method_10_code
abbrev y_Mod_signed : MethodName := ⟨RMod, "signed", "(II)Z"⟩
abbrev b_Mod_many : ByteArray := prog_9_method_11_code
abbrev y_Mod_many : MethodName := ⟨RMod, "many", "()Z"⟩
abbrev b_Mod_act : ByteArray := prog_9_method_12_code
abbrev y_Mod_act : MethodName := ⟨RMod, "act", "(II)Z"⟩
abbrev b_Mod_script3 : ByteArray := prog_9_method_13_code
abbrev y_Mod_script3 : MethodName := ⟨RMod, "script", "(III)Z"⟩
abbrev b_Mod_put : ByteArray := prog_9_method_14_code
abbrev y_Mod_put : MethodName := ⟨RMod, "put", "(I)V"⟩
abbrev b_Mod_feed : ByteArray := prog_9_method_15_code
abbrev y_Mod_feed : MethodName := ⟨RMod, "feed", "(IIIII)I"⟩
abbrev b_Mod_end : ByteArray := prog_9_method_16_code
abbrev y_Mod_end : MethodName := ⟨RMod, "end", "(I)I"⟩
abbrev b_Mod_script1 : ByteArray := prog_9_method_17_code
abbrev y_Mod_script1 : MethodName := ⟨RMod, "script", "(I)I"⟩
abbrev b_Mod_message : ByteArray := prog_9_method_18_code
abbrev y_Mod_message : MethodName := ⟨RMod, "message", "()I"⟩
abbrev b_Mod_run : ByteArray := prog_9_method_19_code
abbrev y_Mod_run : MethodName := ⟨RMod, "run", "(I)Z"⟩
abbrev b_Mod_depth : ByteArray := prog_9_method_20_code
abbrev y_Mod_depth : MethodName := ⟨RMod, "depth", "()I"⟩
abbrev b_Mod_element : ByteArray := prog_9_method_21_code
abbrev y_Mod_element : MethodName := ⟨RMod, "element", "(II)I"⟩
abbrev b_Mod_sha0 : ByteArray := prog_9_method_22_code
abbrev y_Mod_sha0 : MethodName := ⟨RMod, "sha", "()I"⟩
abbrev b_Mod_sign : ByteArray := prog_9_method_23_code
abbrev y_Mod_sign : MethodName := ⟨RMod, "sign", "()I"⟩
abbrev b_Mod_back : ByteArray := prog_9_method_24_code
abbrev y_Mod_back : MethodName := ⟨RMod, "back", "()I"⟩
abbrev b_Mod_octet : ByteArray := prog_9_method_25_code
abbrev y_Mod_octet : MethodName := ⟨RMod, "octet", "(I)I"⟩
abbrev b_Br_init : ByteArray := prog_2_method_1_code
abbrev y_Br_init : MethodName := ⟨RBr, "<init>", "()V"⟩
abbrev b_Br_clear : ByteArray := prog_2_method_2_code
abbrev y_Br_clear : MethodName := ⟨RBr, "clear", "()V"⟩
abbrev b_Br_allEnded : ByteArray := prog_2_method_3_code
abbrev y_Br_allEnded : MethodName := ⟨RBr, "allEnded", "()Z"⟩
abbrev b_Br_isDone : ByteArray := prog_2_method_4_code
abbrev y_Br_isDone : MethodName := ⟨RBr, "isDone", "()Z"⟩
abbrev b_Br_enter : ByteArray := prog_2_method_5_code
abbrev y_Br_enter : MethodName := ⟨RBr, "enter", "(Z)V"⟩
abbrev b_Br_turn : ByteArray := prog_2_method_6_code
abbrev y_Br_turn : MethodName := ⟨RBr, "turn", "()Z"⟩
abbrev b_Br_leave : ByteArray := prog_2_method_7_code
abbrev y_Br_leave : MethodName := ⟨RBr, "leave", "()Z"⟩
abbrev b_El_init : ByteArray := prog_3_method_1_code
abbrev y_El_init : MethodName := ⟨REl, "<init>", "()V"⟩
abbrev b_El_place : ByteArray := prog_3_method_2_code
abbrev y_El_place : MethodName := ⟨REl, "place", "(I)I"⟩
abbrev b_El_has : ByteArray := prog_3_method_3_code
abbrev y_El_has : MethodName := ⟨REl, "has", "(I)Z"⟩
abbrev b_El_push : ByteArray := prog_3_method_4_code
abbrev y_El_push : MethodName := ⟨REl, "push", "([BII)Z"⟩
abbrev b_El_pushNumber : ByteArray := prog_3_method_5_code
abbrev y_El_pushNumber : MethodName := ⟨REl, "pushNumber", "(I)Z"⟩
abbrev b_El_pushCopy : ByteArray := prog_3_method_6_code
abbrev y_El_pushCopy : MethodName := ⟨REl, "pushCopy", "(I)Z"⟩
abbrev b_El_drop : ByteArray := prog_3_method_7_code
abbrev y_El_drop : MethodName := ⟨REl, "drop", "(I)Z"⟩
abbrev b_El_replace : ByteArray := prog_3_method_8_code
abbrev y_El_replace : MethodName := ⟨REl, "replace", "(II)Z"⟩
abbrev b_El_replaceByTruth : ByteArray := prog_3_method_9_code
abbrev y_El_replaceByTruth : MethodName := ⟨REl, "replaceByTruth", "(IZ)Z"⟩
abbrev b_El_swapLast : ByteArray := prog_3_method_10_code
abbrev y_El_swapLast : MethodName := ⟨REl, "swapLast", "()Z"⟩
abbrev b_El_isTrue : ByteArray := prog_3_method_11_code
abbrev y_El_isTrue : MethodName := ⟨REl, "isTrue", "(I)Z"⟩
abbrev b_El_isNumber : ByteArray := prog_3_method_12_code
abbrev y_El_isNumber : MethodName := ⟨REl, "isNumber", "(I)Z"⟩
abbrev b_El_number : ByteArray := prog_3_method_13_code
abbrev y_El_number : MethodName := ⟨REl, "number", "(I)I"⟩
abbrev b_El_holds : ByteArray := prog_3_method_14_code
abbrev y_El_holds : MethodName := ⟨REl, "holds", "(I[BII)Z"⟩
abbrev b_Row_init : ByteArray := prog_4_method_1_code
abbrev y_Row_init : MethodName := ⟨RRow, "<init>", "(I)V"⟩
abbrev b_Row_hasRoomFor : ByteArray := prog_4_method_2_code
abbrev y_Row_hasRoomFor : MethodName := ⟨RRow, "hasRoomFor", "(I)Z"⟩
abbrev b_Row_addByte : ByteArray := prog_4_method_3_code
abbrev y_Row_addByte : MethodName := ⟨RRow, "addByte", "(I)V"⟩
abbrev b_Row_addWord : ByteArray := prog_4_method_4_code
abbrev y_Row_addWord : MethodName := ⟨RRow, "addWord", "(I)V"⟩
abbrev b_Row_become : ByteArray := prog_4_method_5_code
abbrev y_Row_become : MethodName := ⟨RRow, "become", "([BI)V"⟩
abbrev b_Run_init : ByteArray := prog_5_method_1_code
abbrev y_Run_init : MethodName := ⟨RRun, "<init>", "()V"⟩
abbrev b_Run_runScript : ByteArray := prog_5_method_2_code
abbrev y_Run_runScript : MethodName := ⟨RRun, "runScript", "(LScriptStack$Row;I)Z"⟩
abbrev b_Run_branch : ByteArray := prog_5_method_3_code
abbrev y_Run_branch : MethodName := ⟨RRun, "branch", "(I)Z"⟩
abbrev b_Run_perform : ByteArray := prog_5_method_4_code
abbrev y_Run_perform : MethodName := ⟨RRun, "perform", "(II)Z"⟩
abbrev b_Run_reckon : ByteArray := prog_5_method_5_code
abbrev y_Run_reckon : MethodName := ⟨RRun, "reckon", "(I)Z"⟩
abbrev b_Run_equal : ByteArray := prog_5_method_6_code
abbrev y_Run_equal : MethodName := ⟨RRun, "equal", "()Z"⟩
abbrev b_Run_digestLast : ByteArray := prog_5_method_7_code
abbrev y_Run_digestLast : MethodName := ⟨RRun, "digestLast", "(Z)Z"⟩
abbrev b_Run_signed : ByteArray := prog_5_method_8_code
abbrev y_Run_signed : MethodName := ⟨RRun, "signed", "()Z"⟩
abbrev b_Run_many : ByteArray := prog_5_method_9_code
abbrev y_Run_many : MethodName := ⟨RRun, "many", "()Z"⟩
abbrev b_Sha_init : ByteArray := prog_6_method_1_code
abbrev y_Sha_init : MethodName := ⟨RSha, "<init>", "()V"⟩
abbrev b_Sha_hash : ByteArray := prog_6_method_2_code
abbrev y_Sha_hash : MethodName := ⟨RSha, "hash", "([BII[BI)V"⟩
abbrev b_Sha_digest : ByteArray := prog_6_method_3_code
abbrev y_Sha_digest : MethodName := ⟨RSha, "digest", "([BII[BI)V"⟩
abbrev b_Sha_loadWords : ByteArray := prog_6_method_4_code
abbrev y_Sha_loadWords : MethodName := ⟨RSha, "loadWords", "([BIII)V"⟩
abbrev b_Sha_extendWords : ByteArray := prog_6_method_5_code
abbrev y_Sha_extendWords : MethodName := ⟨RSha, "extendWords", "()V"⟩
abbrev b_Sha_mixWords : ByteArray := prog_6_method_6_code
abbrev y_Sha_mixWords : MethodName := ⟨RSha, "mixWords", "()V"⟩
abbrev b_Sig_init : ByteArray := prog_7_method_1_code
abbrev y_Sig_init : MethodName := ⟨RSig, "<init>", "()V"⟩
abbrev b_Sig_make : ByteArray := prog_7_method_2_code
abbrev y_Sig_make : MethodName := ⟨RSig, "make", "([BII)V"⟩
