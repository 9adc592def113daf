section
-- ===== PART A: goes FIRST, ahead of the names: the tables' words, and 'selects' of the private methods out of them =====
/-- a private method of a class that the tables say can be made, by its rows of tables_1 -/
def lw_okq (q : MethodName × Nat) : Prop := (q.1.cls ≠ "java/lang/invoke/MethodHandle" ∧ q.1.cls ≠ "java/lang/invoke/VarHandle") ∧ Cond.instantiable q.1.cls q.2 ∈ tables_1 ∧ Cond.privateMethod q.1 ∈ tables_1 ∧ Cond.instanceMethod q.1 ∈ tables_1
theorem lw_p0 : lw_okq (⟨"ScriptStack$Sha256", "loadWords", "([BIII)V"⟩, 2) := ⟨⟨by decide +kernel, by decide +kernel⟩, List.mem_of_getElem? (i := 73) (by decide +kernel), List.mem_of_getElem? (i := 209) (by decide +kernel), List.mem_of_getElem? (i := 210) (by decide +kernel)⟩
theorem lw_p1 : lw_okq (⟨"ScriptStack$Sha256", "extendWords", "()V"⟩, 2) := ⟨⟨by decide +kernel, by decide +kernel⟩, List.mem_of_getElem? (i := 73) (by decide +kernel), List.mem_of_getElem? (i := 213) (by decide +kernel), List.mem_of_getElem? (i := 214) (by decide +kernel)⟩
theorem lw_p2 : lw_okq (⟨"ScriptStack$Sha256", "mixWords", "()V"⟩, 2) := ⟨⟨by decide +kernel, by decide +kernel⟩, List.mem_of_getElem? (i := 73) (by decide +kernel), List.mem_of_getElem? (i := 217) (by decide +kernel), List.mem_of_getElem? (i := 218) (by decide +kernel)⟩
theorem lw_p3 : lw_okq (⟨"ScriptStack$Runner", "branch", "(I)Z"⟩, 4) := ⟨⟨by decide +kernel, by decide +kernel⟩, List.mem_of_getElem? (i := 38) (by decide +kernel), List.mem_of_getElem? (i := 248) (by decide +kernel), List.mem_of_getElem? (i := 249) (by decide +kernel)⟩
theorem lw_p4 : lw_okq (⟨"ScriptStack$Runner", "perform", "(II)Z"⟩, 4) := ⟨⟨by decide +kernel, by decide +kernel⟩, List.mem_of_getElem? (i := 38) (by decide +kernel), List.mem_of_getElem? (i := 277) (by decide +kernel), List.mem_of_getElem? (i := 278) (by decide +kernel)⟩
theorem lw_p5 : lw_okq (⟨"ScriptStack$Runner", "reckon", "(I)Z"⟩, 4) := ⟨⟨by decide +kernel, by decide +kernel⟩, List.mem_of_getElem? (i := 38) (by decide +kernel), List.mem_of_getElem? (i := 314) (by decide +kernel), List.mem_of_getElem? (i := 315) (by decide +kernel)⟩
theorem lw_p6 : lw_okq (⟨"ScriptStack$Runner", "equal", "()Z"⟩, 4) := ⟨⟨by decide +kernel, by decide +kernel⟩, List.mem_of_getElem? (i := 38) (by decide +kernel), List.mem_of_getElem? (i := 319) (by decide +kernel), List.mem_of_getElem? (i := 320) (by decide +kernel)⟩
theorem lw_p7 : lw_okq (⟨"ScriptStack$Runner", "digestLast", "(Z)Z"⟩, 4) := ⟨⟨by decide +kernel, by decide +kernel⟩, List.mem_of_getElem? (i := 38) (by decide +kernel), List.mem_of_getElem? (i := 328) (by decide +kernel), List.mem_of_getElem? (i := 329) (by decide +kernel)⟩
theorem lw_p8 : lw_okq (⟨"ScriptStack$Runner", "signed", "()Z"⟩, 4) := ⟨⟨by decide +kernel, by decide +kernel⟩, List.mem_of_getElem? (i := 38) (by decide +kernel), List.mem_of_getElem? (i := 334) (by decide +kernel), List.mem_of_getElem? (i := 335) (by decide +kernel)⟩
theorem lw_p9 : lw_okq (⟨"ScriptStack$Runner", "many", "()Z"⟩, 4) := ⟨⟨by decide +kernel, by decide +kernel⟩, List.mem_of_getElem? (i := 38) (by decide +kernel), List.mem_of_getElem? (i := 344) (by decide +kernel), List.mem_of_getElem? (i := 345) (by decide +kernel)⟩
theorem lw_p10 : lw_okq (⟨"ScriptStackModel", "put", "(I)V"⟩, 17) := ⟨⟨by decide +kernel, by decide +kernel⟩, List.mem_of_getElem? (i := 382) (by decide +kernel), List.mem_of_getElem? (i := 445) (by decide +kernel), List.mem_of_getElem? (i := 446) (by decide +kernel)⟩
theorem lw_p11 : lw_okq (⟨"ScriptStackModel", "hash", "([BII[BI)V"⟩, 17) := ⟨⟨by decide +kernel, by decide +kernel⟩, List.mem_of_getElem? (i := 382) (by decide +kernel), List.mem_of_getElem? (i := 461) (by decide +kernel), List.mem_of_getElem? (i := 462) (by decide +kernel)⟩
theorem lw_p12 : lw_okq (⟨"ScriptStackModel", "sha", "([BII[BI)V"⟩, 17) := ⟨⟨by decide +kernel, by decide +kernel⟩, List.mem_of_getElem? (i := 382) (by decide +kernel), List.mem_of_getElem? (i := 465) (by decide +kernel), List.mem_of_getElem? (i := 466) (by decide +kernel)⟩
theorem lw_p13 : lw_okq (⟨"ScriptStackModel", "round", "()V"⟩, 17) := ⟨⟨by decide +kernel, by decide +kernel⟩, List.mem_of_getElem? (i := 382) (by decide +kernel), List.mem_of_getElem? (i := 472) (by decide +kernel), List.mem_of_getElem? (i := 473) (by decide +kernel)⟩
theorem lw_p14 : lw_okq (⟨"ScriptStackModel", "script", "(III)Z"⟩, 17) := ⟨⟨by decide +kernel, by decide +kernel⟩, List.mem_of_getElem? (i := 382) (by decide +kernel), List.mem_of_getElem? (i := 482) (by decide +kernel), List.mem_of_getElem? (i := 483) (by decide +kernel)⟩
theorem lw_p15 : lw_okq (⟨"ScriptStackModel", "push", "([BII)Z"⟩, 17) := ⟨⟨by decide +kernel, by decide +kernel⟩, List.mem_of_getElem? (i := 382) (by decide +kernel), List.mem_of_getElem? (i := 486) (by decide +kernel), List.mem_of_getElem? (i := 487) (by decide +kernel)⟩
def lw_privs_1 : List (MethodName × Nat) := [(⟨"ScriptStack$Sha256", "loadWords", "([BIII)V"⟩, 2), (⟨"ScriptStack$Sha256", "extendWords", "()V"⟩, 2), (⟨"ScriptStack$Sha256", "mixWords", "()V"⟩, 2), (⟨"ScriptStack$Runner", "branch", "(I)Z"⟩, 4), (⟨"ScriptStack$Runner", "perform", "(II)Z"⟩, 4), (⟨"ScriptStack$Runner", "reckon", "(I)Z"⟩, 4), (⟨"ScriptStack$Runner", "equal", "()Z"⟩, 4), (⟨"ScriptStack$Runner", "digestLast", "(Z)Z"⟩, 4), (⟨"ScriptStack$Runner", "signed", "()Z"⟩, 4), (⟨"ScriptStack$Runner", "many", "()Z"⟩, 4), (⟨"ScriptStackModel", "put", "(I)V"⟩, 17), (⟨"ScriptStackModel", "hash", "([BII[BI)V"⟩, 17), (⟨"ScriptStackModel", "sha", "([BII[BI)V"⟩, 17), (⟨"ScriptStackModel", "round", "()V"⟩, 17), (⟨"ScriptStackModel", "script", "(III)Z"⟩, 17), (⟨"ScriptStackModel", "push", "([BII)Z"⟩, 17)]
theorem lw_r1 : ∀ q ∈ lw_privs_1, lw_okq q := List.forall_mem_cons.mpr ⟨lw_p0, List.forall_mem_cons.mpr ⟨lw_p1, List.forall_mem_cons.mpr ⟨lw_p2, List.forall_mem_cons.mpr ⟨lw_p3, List.forall_mem_cons.mpr ⟨lw_p4, List.forall_mem_cons.mpr ⟨lw_p5, List.forall_mem_cons.mpr ⟨lw_p6, List.forall_mem_cons.mpr ⟨lw_p7, List.forall_mem_cons.mpr ⟨lw_p8, List.forall_mem_cons.mpr ⟨lw_p9, List.forall_mem_cons.mpr ⟨lw_p10, List.forall_mem_cons.mpr ⟨lw_p11, List.forall_mem_cons.mpr ⟨lw_p12, List.forall_mem_cons.mpr ⟨lw_p13, List.forall_mem_cons.mpr ⟨lw_p14, List.forall_mem_cons.mpr ⟨lw_p15, fun _ h => absurd h List.not_mem_nil⟩⟩⟩⟩⟩⟩⟩⟩⟩⟩⟩⟩⟩⟩⟩⟩
theorem lw_p16 : lw_okq (⟨"ScriptStackModel", "isTrue", "(I)Z"⟩, 17) := ⟨⟨by decide +kernel, by decide +kernel⟩, List.mem_of_getElem? (i := 382) (by decide +kernel), List.mem_of_getElem? (i := 490) (by decide +kernel), List.mem_of_getElem? (i := 491) (by decide +kernel)⟩
theorem lw_p17 : lw_okq (⟨"ScriptStackModel", "many", "()Z"⟩, 17) := ⟨⟨by decide +kernel, by decide +kernel⟩, List.mem_of_getElem? (i := 382) (by decide +kernel), List.mem_of_getElem? (i := 494) (by decide +kernel), List.mem_of_getElem? (i := 495) (by decide +kernel)⟩
theorem lw_p18 : lw_okq (⟨"ScriptStackModel", "numberOf", "(I)I"⟩, 17) := ⟨⟨by decide +kernel, by decide +kernel⟩, List.mem_of_getElem? (i := 382) (by decide +kernel), List.mem_of_getElem? (i := 498) (by decide +kernel), List.mem_of_getElem? (i := 499) (by decide +kernel)⟩
theorem lw_p19 : lw_okq (⟨"ScriptStackModel", "signed", "(II)Z"⟩, 17) := ⟨⟨by decide +kernel, by decide +kernel⟩, List.mem_of_getElem? (i := 382) (by decide +kernel), List.mem_of_getElem? (i := 502) (by decide +kernel), List.mem_of_getElem? (i := 503) (by decide +kernel)⟩
theorem lw_p20 : lw_okq (⟨"ScriptStackModel", "pushNumber", "(I)Z"⟩, 17) := ⟨⟨by decide +kernel, by decide +kernel⟩, List.mem_of_getElem? (i := 382) (by decide +kernel), List.mem_of_getElem? (i := 509) (by decide +kernel), List.mem_of_getElem? (i := 510) (by decide +kernel)⟩
theorem lw_p21 : lw_okq (⟨"ScriptStackModel", "act", "(II)Z"⟩, 17) := ⟨⟨by decide +kernel, by decide +kernel⟩, List.mem_of_getElem? (i := 382) (by decide +kernel), List.mem_of_getElem? (i := 513) (by decide +kernel), List.mem_of_getElem? (i := 514) (by decide +kernel)⟩
def lw_privs_2 : List (MethodName × Nat) := [(⟨"ScriptStackModel", "isTrue", "(I)Z"⟩, 17), (⟨"ScriptStackModel", "many", "()Z"⟩, 17), (⟨"ScriptStackModel", "numberOf", "(I)I"⟩, 17), (⟨"ScriptStackModel", "signed", "(II)Z"⟩, 17), (⟨"ScriptStackModel", "pushNumber", "(I)Z"⟩, 17), (⟨"ScriptStackModel", "act", "(II)Z"⟩, 17)]
theorem lw_r2 : ∀ q ∈ lw_privs_2, lw_okq q := List.forall_mem_cons.mpr ⟨lw_p16, List.forall_mem_cons.mpr ⟨lw_p17, List.forall_mem_cons.mpr ⟨lw_p18, List.forall_mem_cons.mpr ⟨lw_p19, List.forall_mem_cons.mpr ⟨lw_p20, List.forall_mem_cons.mpr ⟨lw_p21, fun _ h => absurd h List.not_mem_nil⟩⟩⟩⟩⟩⟩
def lw_privs : List (MethodName × Nat) := lw_privs_1 ++ (lw_privs_2)
def lw_tbl : List Cond := k2_sels lw_privs ++ tables_1
theorem lw_privs_ok : ∀ q ∈ lw_privs, lw_okq q := by
  show ∀ q ∈ lw_privs_1 ++ (lw_privs_2), lw_okq q
  exact List.forall_mem_append.mpr ⟨lw_r1, lw_r2⟩
end
section
abbrev RBr : String := "ScriptStack$Branches"
def TBr : u_T := fun k => match k with
  | 0 => (RBr, "open", "I", false)
  | _ => (RBr, "shutAt", "I", false)
def tyBr : Nat → FieldType := fun k => match k with
  | 0 => .int
  | _ => .int
abbrev REl : String := "ScriptStack$Elements"
def TEl : u_T := fun k => match k with
  | 0 => (REl, "bytes", "[B", true)
  | 1 => (REl, "sizes", "[I", true)
  | _ => (REl, "count", "I", false)
def tyEl : Nat → FieldType := fun k => match k with
  | 0 => .array .byte
  | 1 => .array .int
  | _ => .int
abbrev RRow : String := "ScriptStack$Row"
def TRow : u_T := fun k => match k with
  | 0 => (RRow, "bytes", "[B", true)
  | _ => (RRow, "size", "I", false)
def tyRow : Nat → FieldType := fun k => match k with
  | 0 => .array .byte
  | _ => .int
abbrev RRun : String := "ScriptStack$Runner"
def TRun : u_T := fun k => match k with
  | 0 => (RRun, "stack", "LScriptStack$Elements;", true)
  | 1 => (RRun, "signer", "LScriptStack$Signer;", true)
  | 2 => (RRun, "hasher", "LScriptStack$Sha256;", true)
  | _ => (RRun, "branches", "LScriptStack$Branches;", true)
def tyRun : Nat → FieldType := fun k => match k with
  | 0 => .object "ScriptStack$Elements"
  | 1 => .object "ScriptStack$Signer"
  | 2 => .object "ScriptStack$Sha256"
  | _ => .object "ScriptStack$Branches"
abbrev RSha : String := "ScriptStack$Sha256"
def TSha : u_T := fun k => match k with
  | 0 => (RSha, "state", "[I", true)
  | _ => (RSha, "words", "[I", true)
def tySha : Nat → FieldType := fun k => match k with
  | 0 => .array .int
  | _ => .array .int
abbrev RSig : String := "ScriptStack$Signer"
def TSig : u_T := fun k => match k with
  | 0 => (RSig, "message", "[B", true)
  | 1 => (RSig, "made", "[B", true)
  | 2 => (RSig, "hasher", "LScriptStack$Sha256;", true)
  | _ => (RSig, "text", "[B", true)
def tySig : Nat → FieldType := fun k => match k with
  | 0 => .array .byte
  | 1 => .array .byte
  | 2 => .object "ScriptStack$Sha256"
  | _ => .array .byte
abbrev RSS : String := "ScriptStack"
def TSS : u_T := fun k => match k with
  | 0 => (RSS, "tape", "LScriptStack$Row;", true)
  | 1 => (RSS, "out", "LScriptStack$Row;", true)
  | 2 => (RSS, "firstScript", "LScriptStack$Row;", true)
  | 3 => (RSS, "secondScript", "LScriptStack$Row;", true)
  | 4 => (RSS, "runner", "LScriptStack$Runner;", true)
  | 5 => (RSS, "stack", "LScriptStack$Elements;", true)
  | 6 => (RSS, "signer", "LScriptStack$Signer;", true)
  | 7 => (RSS, "hasher", "LScriptStack$Sha256;", true)
  | _ => (RSS, "nothingFailed", "Z", false)
def tySS : Nat → FieldType := fun k => match k with
  | 0 => .object "ScriptStack$Row"
  | 1 => .object "ScriptStack$Row"
  | 2 => .object "ScriptStack$Row"
  | 3 => .object "ScriptStack$Row"
  | 4 => .object "ScriptStack$Runner"
  | 5 => .object "ScriptStack$Elements"
  | 6 => .object "ScriptStack$Signer"
  | 7 => .object "ScriptStack$Sha256"
  | _ => .boolean
abbrev RMod : String := "ScriptStackModel"
def TMod : u_T := fun k => match k with
  | 0 => (RMod, "tape", "[B", true)
  | 1 => (RMod, "tapeLength", "I", false)
  | 2 => (RMod, "out", "[B", true)
  | 3 => (RMod, "outLength", "I", false)
  | 4 => (RMod, "mem", "[B", true)
  | 5 => (RMod, "length", "[I", true)
  | 6 => (RMod, "signHash", "[B", true)
  | 7 => (RMod, "w", "[I", true)
  | 8 => (RMod, "h", "[I", true)
  | 9 => (RMod, "once", "[B", true)
  | 10 => (RMod, "digest", "[B", true)
  | 11 => (RMod, "buffer", "[B", true)
  | 12 => (RMod, "stack", "[B", true)
  | 13 => (RMod, "sizes", "[I", true)
  | 14 => (RMod, "depth", "I", false)
  | 15 => (RMod, "good", "Z", false)
  | _ => (RMod, "branch", "[Z", true)
def tyMod : Nat → FieldType := fun k => match k with
  | 0 => .array .byte
  | 1 => .int
  | 2 => .array .byte
  | 3 => .int
  | 4 => .array .byte
  | 5 => .array .int
  | 6 => .array .byte
  | 7 => .array .int
  | 8 => .array .int
  | 9 => .array .byte
  | 10 => .array .byte
  | 11 => .array .byte
  | 12 => .array .byte
  | 13 => .array .int
  | 14 => .int
  | 15 => .boolean
  | _ => .array .boolean
abbrev clz : List vw_C := [(RBr, TBr, 2), (REl, TEl, 3), (RRow, TRow, 2), (RRun, TRun, 4), (RSha, TSha, 2), (RSig, TSig, 4), (RSS, TSS, 9), (RMod, TMod, 17)]
def ALLW : List Cond := lw_tbl.filter goodWord
theorem ALLW_good : ∀ w ∈ ALLW, goodWord w = true := fun w h => (List.mem_filter.mp h).2
theorem ALLW_tbl : ∀ w ∈ ALLW, w ∈ lw_tbl := fun w h => (List.mem_filter.mp h).1
theorem al1 {w : Cond} (i : Nat) (h : tables_1_1[i]? = some w) (hg : goodWord w = true) : w ∈ ALLW := List.mem_filter.mpr ⟨List.mem_append_right _ (List.mem_append_left _ (List.mem_of_getElem? h)), hg⟩
theorem al2 {w : Cond} (i : Nat) (h : tables_1_2[i]? = some w) (hg : goodWord w = true) : w ∈ ALLW := List.mem_filter.mpr ⟨List.mem_append_right _ (List.mem_append_right _ (List.mem_append_left _ (List.mem_of_getElem? h))), hg⟩
theorem al3 {w : Cond} (i : Nat) (h : tables_1_3[i]? = some w) (hg : goodWord w = true) : w ∈ ALLW := List.mem_filter.mpr ⟨List.mem_append_right _ (List.mem_append_right _ (List.mem_append_right _ (List.mem_of_getElem? h))), hg⟩
theorem als {w : Cond} (i : Nat) (h : (k2_sels lw_privs)[i]? = some w) (hg : goodWord w = true) : w ∈ ALLW := List.mem_filter.mpr ⟨List.mem_append_left _ (List.mem_of_getElem? h), hg⟩
theorem in_Br : ∀ w ∈ u_ws RBr TBr 2, w ∈ ALLW := by
  intro w hw
  simp only [u_ws, List.range, List.range.loop, List.map_cons, List.map_nil, List.mem_cons, List.not_mem_nil, or_false] at hw
  rcases hw with rfl | rfl
  · exact al1 111 rfl rfl
  · exact al1 113 rfl rfl
theorem nm_Br : ∀ a, a < 2 → ∀ b, b < 2 → a ≠ b → (TBr a).2.1 ≠ (TBr b).2.1 := by decide +kernel
theorem tyok_Br : ∀ k, k < 2 → parseFieldDescriptor (TBr k).2.2.1 = some (tyBr k) := by decide +kernel
theorem in_El : ∀ w ∈ u_ws REl TEl 3, w ∈ ALLW := by
  intro w hw
  simp only [u_ws, List.range, List.range.loop, List.map_cons, List.map_nil, List.mem_cons, List.not_mem_nil, or_false] at hw
  rcases hw with rfl | rfl | rfl
  · exact al1 58 rfl rfl
  · exact al1 60 rfl rfl
  · exact al1 62 rfl rfl
theorem nm_El : ∀ a, a < 3 → ∀ b, b < 3 → a ≠ b → (TEl a).2.1 ≠ (TEl b).2.1 := by decide +kernel
theorem tyok_El : ∀ k, k < 3 → parseFieldDescriptor (TEl k).2.2.1 = some (tyEl k) := by decide +kernel
theorem in_Row : ∀ w ∈ u_ws RRow TRow 2, w ∈ ALLW := by
  intro w hw
  simp only [u_ws, List.range, List.range.loop, List.map_cons, List.map_nil, List.mem_cons, List.not_mem_nil, or_false] at hw
  rcases hw with rfl | rfl
  · exact al1 31 rfl rfl
  · exact al1 33 rfl rfl
theorem nm_Row : ∀ a, a < 2 → ∀ b, b < 2 → a ≠ b → (TRow a).2.1 ≠ (TRow b).2.1 := by decide +kernel
theorem tyok_Row : ∀ k, k < 2 → parseFieldDescriptor (TRow k).2.2.1 = some (tyRow k) := by decide +kernel
theorem in_Run : ∀ w ∈ u_ws RRun TRun 4, w ∈ ALLW := by
  intro w hw
  simp only [u_ws, List.range, List.range.loop, List.map_cons, List.map_nil, List.mem_cons, List.not_mem_nil, or_false] at hw
  rcases hw with rfl | rfl | rfl | rfl
  · exact al1 122 rfl rfl
  · exact al1 124 rfl rfl
  · exact al1 126 rfl rfl
  · exact al1 128 rfl rfl
theorem nm_Run : ∀ a, a < 4 → ∀ b, b < 4 → a ≠ b → (TRun a).2.1 ≠ (TRun b).2.1 := by decide +kernel
theorem tyok_Run : ∀ k, k < 4 → parseFieldDescriptor (TRun k).2.2.1 = some (tyRun k) := by decide +kernel
theorem in_Sha : ∀ w ∈ u_ws RSha TSha 2, w ∈ ALLW := by
  intro w hw
  simp only [u_ws, List.range, List.range.loop, List.map_cons, List.map_nil, List.mem_cons, List.not_mem_nil, or_false] at hw
  rcases hw with rfl | rfl
  · exact al1 80 rfl rfl
  · exact al1 82 rfl rfl
theorem nm_Sha : ∀ a, a < 2 → ∀ b, b < 2 → a ≠ b → (TSha a).2.1 ≠ (TSha b).2.1 := by decide +kernel
theorem tyok_Sha : ∀ k, k < 2 → parseFieldDescriptor (TSha k).2.2.1 = some (tySha k) := by decide +kernel
theorem in_Sig : ∀ w ∈ u_ws RSig TSig 4, w ∈ ALLW := by
  intro w hw
  simp only [u_ws, List.range, List.range.loop, List.map_cons, List.map_nil, List.mem_cons, List.not_mem_nil, or_false] at hw
  rcases hw with rfl | rfl | rfl | rfl
  · exact al1 94 rfl rfl
  · exact al1 96 rfl rfl
  · exact al1 98 rfl rfl
  · exact al1 100 rfl rfl
theorem nm_Sig : ∀ a, a < 4 → ∀ b, b < 4 → a ≠ b → (TSig a).2.1 ≠ (TSig b).2.1 := by decide +kernel
theorem tyok_Sig : ∀ k, k < 4 → parseFieldDescriptor (TSig k).2.2.1 = some (tySig k) := by decide +kernel
theorem in_SS : ∀ w ∈ u_ws RSS TSS 9, w ∈ ALLW := by
  intro w hw
  simp only [u_ws, List.range, List.range.loop, List.map_cons, List.map_nil, List.mem_cons, List.not_mem_nil, or_false] at hw
  rcases hw with rfl | rfl | rfl | rfl | rfl | rfl | rfl | rfl | rfl
  · exact al1 140 rfl rfl
  · exact al1 142 rfl rfl
  · exact al1 144 rfl rfl
  · exact al1 146 rfl rfl
  · exact al1 148 rfl rfl
  · exact al1 150 rfl rfl
  · exact al1 152 rfl rfl
  · exact al1 154 rfl rfl
  · exact al1 156 rfl rfl
theorem nm_SS : ∀ a, a < 9 → ∀ b, b < 9 → a ≠ b → (TSS a).2.1 ≠ (TSS b).2.1 := by decide +kernel
theorem tyok_SS : ∀ k, k < 9 → parseFieldDescriptor (TSS k).2.2.1 = some (tySS k) := by decide +kernel
theorem in_Mod : ∀ w ∈ u_ws RMod TMod 17, w ∈ ALLW := by
  intro w hw
  simp only [u_ws, List.range, List.range.loop, List.map_cons, List.map_nil, List.mem_cons, List.not_mem_nil, or_false] at hw
  rcases hw with rfl | rfl | rfl | rfl | rfl | rfl | rfl | rfl | rfl | rfl | rfl | rfl | rfl | rfl | rfl | rfl | rfl
  · exact al2 164 rfl rfl
  · exact al2 166 rfl rfl
  · exact al2 168 rfl rfl
  · exact al2 170 rfl rfl
  · exact al2 172 rfl rfl
  · exact al2 174 rfl rfl
  · exact al2 176 rfl rfl
  · exact al2 178 rfl rfl
  · exact al2 180 rfl rfl
  · exact al2 182 rfl rfl
  · exact al2 184 rfl rfl
  · exact al2 186 rfl rfl
  · exact al2 188 rfl rfl
  · exact al2 190 rfl rfl
  · exact al2 192 rfl rfl
  · exact al2 194 rfl rfl
  · exact al2 196 rfl rfl
theorem nm_Mod : ∀ a, a < 17 → ∀ b, b < 17 → a ≠ b → (TMod a).2.1 ≠ (TMod b).2.1 := by decide +kernel
theorem tyok_Mod : ∀ k, k < 17 → parseFieldDescriptor (TMod k).2.2.1 = some (tyMod k) := by decide +kernel
abbrev b_SS_init : ByteArray := prog_1_method_1_code
abbrev y_SS_init : MethodName := ⟨RSS, "<init>", "()V"⟩
abbrev b_SS_feed : ByteArray := prog_1_method_2_code
abbrev y_SS_feed : MethodName := ⟨RSS, "feed", "(IIIII)I"⟩
abbrev b_SS_end : ByteArray := prog_1_method_3_code
abbrev y_SS_end : MethodName := ⟨RSS, "end", "(I)I"⟩
abbrev b_SS_script : ByteArray := prog_1_method_4_code
abbrev y_SS_script : MethodName := ⟨RSS, "script", "(I)I"⟩
abbrev b_SS_message : ByteArray := prog_1_method_5_code
abbrev y_SS_message : MethodName := ⟨RSS, "message", "()I"⟩
abbrev b_SS_run : ByteArray := prog_1_method_6_code
abbrev y_SS_run : MethodName := ⟨RSS, "run", "(I)Z"⟩
abbrev b_SS_depth : ByteArray := prog_1_method_7_code
abbrev y_SS_depth : MethodName := ⟨RSS, "depth", "()I"⟩
abbrev b_SS_element : ByteArray := prog_1_method_8_code
abbrev y_SS_element : MethodName := ⟨RSS, "element", "(II)I"⟩
abbrev b_SS_sha : ByteArray := prog_1_method_9_code
abbrev y_SS_sha : MethodName := ⟨RSS, "sha", "()I"⟩
abbrev b_SS_sign : ByteArray := prog_1_method_10_code
abbrev y_SS_sign : MethodName := ⟨RSS, "sign", "()I"⟩
abbrev b_SS_back : ByteArray := prog_1_method_11_code
abbrev y_SS_back : MethodName := ⟨RSS, "back", "()I"⟩
abbrev b_SS_octet : ByteArray := prog_1_method_12_code
abbrev y_SS_octet : MethodName := ⟨RSS, "octet", "(I)I"⟩
abbrev b_Mod_init : ByteArray := prog_9_method_1_code
abbrev y_Mod_init : MethodName := ⟨RMod, "<init>", "()V"⟩
abbrev b_Mod_round : ByteArray := prog_9_method_2_code
abbrev y_Mod_round : MethodName := ⟨RMod, "round", "()V"⟩
abbrev b_Mod_sha5 : ByteArray := prog_9_method_3_code
abbrev y_Mod_sha5 : MethodName := ⟨RMod, "sha", "([BII[BI)V"⟩
abbrev b_Mod_hash : ByteArray := prog_9_method_4_code
abbrev y_Mod_hash : MethodName := ⟨RMod, "hash", "([BII[BI)V"⟩
abbrev b_Mod_same : ByteArray := prog_9_method_5_code
abbrev y_Mod_same : MethodName := ⟨RMod, "same", "([BI[BII)Z"⟩
abbrev b_Mod_push : ByteArray := prog_9_method_6_code
abbrev y_Mod_push : MethodName := ⟨RMod, "push", "([BII)Z"⟩
abbrev b_Mod_pushNumber : ByteArray := prog_9_method_7_code
abbrev y_Mod_pushNumber : MethodName := ⟨RMod, "pushNumber", "(I)Z"⟩
abbrev b_Mod_isTrue : ByteArray := prog_9_method_8_code
abbrev y_Mod_isTrue : MethodName := ⟨RMod, "isTrue", "(I)Z"⟩
abbrev b_Mod_numberOf : ByteArray := prog_9_method_9_code
abbrev y_Mod_numberOf : MethodName := ⟨RMod, "numberOf", "(I)I"⟩
abbrev b_Mod_signed : ByteArray := prog_9_method_10_code
abbrev y_Mod_signed : MethodName := ⟨RMod, "signed", "(II)Z"⟩
abbrev b_Mod_many : ByteArray := prog_9_method_11_code
abbrev y_Mod_many : MethodName := ⟨RMod, "many", "()Z"⟩
abbrev b_Mod_act : ByteArray := prog_9_method_12_code
abbrev y_Mod_act : MethodName := ⟨RMod, "act", "(II)Z"⟩
abbrev b_Mod_script3 : ByteArray := prog_9_method_13_code
abbrev y_Mod_script3 : MethodName := ⟨RMod, "script", "(III)Z"⟩
abbrev b_Mod_put : ByteArray := prog_9_method_14_code
abbrev y_Mod_put : MethodName := ⟨RMod, "put", "(I)V"⟩
abbrev b_Mod_feed : ByteArray := prog_9_method_15_code
abbrev y_Mod_feed : MethodName := ⟨RMod, "feed", "(IIIII)I"⟩
abbrev b_Mod_end : ByteArray := prog_9_method_16_code
abbrev y_Mod_end : MethodName := ⟨RMod, "end", "(I)I"⟩
abbrev b_Mod_script1 : ByteArray := prog_9_method_17_code
abbrev y_Mod_script1 : MethodName := ⟨RMod, "script", "(I)I"⟩
abbrev b_Mod_message : ByteArray := prog_9_method_18_code
abbrev y_Mod_message : MethodName := ⟨RMod, "message", "()I"⟩
abbrev b_Mod_run : ByteArray := prog_9_method_19_code
abbrev y_Mod_run : MethodName := ⟨RMod, "run", "(I)Z"⟩
abbrev b_Mod_depth : ByteArray := prog_9_method_20_code
abbrev y_Mod_depth : MethodName := ⟨RMod, "depth", "()I"⟩
abbrev b_Mod_element : ByteArray := prog_9_method_21_code
abbrev y_Mod_element : MethodName := ⟨RMod, "element", "(II)I"⟩
abbrev b_Mod_sha0 : ByteArray := prog_9_method_22_code
abbrev y_Mod_sha0 : MethodName := ⟨RMod, "sha", "()I"⟩
abbrev b_Mod_sign : ByteArray := prog_9_method_23_code
abbrev y_Mod_sign : MethodName := ⟨RMod, "sign", "()I"⟩
abbrev b_Mod_back : ByteArray := prog_9_method_24_code
abbrev y_Mod_back : MethodName := ⟨RMod, "back", "()I"⟩
abbrev b_Mod_octet : ByteArray := prog_9_method_25_code
abbrev y_Mod_octet : MethodName := ⟨RMod, "octet", "(I)I"⟩
abbrev b_Br_init : ByteArray := prog_2_method_1_code
abbrev y_Br_init : MethodName := ⟨RBr, "<init>", "()V"⟩
abbrev b_Br_clear : ByteArray := prog_2_method_2_code
abbrev y_Br_clear : MethodName := ⟨RBr, "clear", "()V"⟩
abbrev b_Br_allEnded : ByteArray := prog_2_method_3_code
abbrev y_Br_allEnded : MethodName := ⟨RBr, "allEnded", "()Z"⟩
abbrev b_Br_isDone : ByteArray := prog_2_method_4_code
abbrev y_Br_isDone : MethodName := ⟨RBr, "isDone", "()Z"⟩
abbrev b_Br_enter : ByteArray := prog_2_method_5_code
abbrev y_Br_enter : MethodName := ⟨RBr, "enter", "(Z)V"⟩
abbrev b_Br_turn : ByteArray := prog_2_method_6_code
abbrev y_Br_turn : MethodName := ⟨RBr, "turn", "()Z"⟩
abbrev b_Br_leave : ByteArray := prog_2_method_7_code
abbrev y_Br_leave : MethodName := ⟨RBr, "leave", "()Z"⟩
abbrev b_El_init : ByteArray := prog_3_method_1_code
abbrev y_El_init : MethodName := ⟨REl, "<init>", "()V"⟩
abbrev b_El_place : ByteArray := prog_3_method_2_code
abbrev y_El_place : MethodName := ⟨REl, "place", "(I)I"⟩
abbrev b_El_has : ByteArray := prog_3_method_3_code
abbrev y_El_has : MethodName := ⟨REl, "has", "(I)Z"⟩
abbrev b_El_push : ByteArray := prog_3_method_4_code
abbrev y_El_push : MethodName := ⟨REl, "push", "([BII)Z"⟩
abbrev b_El_pushNumber : ByteArray := prog_3_method_5_code
abbrev y_El_pushNumber : MethodName := ⟨REl, "pushNumber", "(I)Z"⟩
abbrev b_El_pushCopy : ByteArray := prog_3_method_6_code
abbrev y_El_pushCopy : MethodName := ⟨REl, "pushCopy", "(I)Z"⟩
abbrev b_El_drop : ByteArray := prog_3_method_7_code
abbrev y_El_drop : MethodName := ⟨REl, "drop", "(I)Z"⟩
abbrev b_El_replace : ByteArray := prog_3_method_8_code
abbrev y_El_replace : MethodName := ⟨REl, "replace", "(II)Z"⟩
abbrev b_El_replaceByTruth : ByteArray := prog_3_method_9_code
abbrev y_El_replaceByTruth : MethodName := ⟨REl, "replaceByTruth", "(IZ)Z"⟩
abbrev b_El_swapLast : ByteArray := prog_3_method_10_code
abbrev y_El_swapLast : MethodName := ⟨REl, "swapLast", "()Z"⟩
abbrev b_El_isTrue : ByteArray := prog_3_method_11_code
abbrev y_El_isTrue : MethodName := ⟨REl, "isTrue", "(I)Z"⟩
abbrev b_El_isNumber : ByteArray := prog_3_method_12_code
abbrev y_El_isNumber : MethodName := ⟨REl, "isNumber", "(I)Z"⟩
abbrev b_El_number : ByteArray := prog_3_method_13_code
abbrev y_El_number : MethodName := ⟨REl, "number", "(I)I"⟩
abbrev b_El_holds : ByteArray := prog_3_method_14_code
abbrev y_El_holds : MethodName := ⟨REl, "holds", "(I[BII)Z"⟩
abbrev b_Row_init : ByteArray := prog_4_method_1_code
abbrev y_Row_init : MethodName := ⟨RRow, "<init>", "(I)V"⟩
abbrev b_Row_hasRoomFor : ByteArray := prog_4_method_2_code
abbrev y_Row_hasRoomFor : MethodName := ⟨RRow, "hasRoomFor", "(I)Z"⟩
abbrev b_Row_addByte : ByteArray := prog_4_method_3_code
abbrev y_Row_addByte : MethodName := ⟨RRow, "addByte", "(I)V"⟩
abbrev b_Row_addWord : ByteArray := prog_4_method_4_code
abbrev y_Row_addWord : MethodName := ⟨RRow, "addWord", "(I)V"⟩
abbrev b_Row_become : ByteArray := prog_4_method_5_code
abbrev y_Row_become : MethodName := ⟨RRow, "become", "([BI)V"⟩
abbrev b_Run_init : ByteArray := prog_5_method_1_code
abbrev y_Run_init : MethodName := ⟨RRun, "<init>", "()V"⟩
abbrev b_Run_runScript : ByteArray := prog_5_method_2_code
abbrev y_Run_runScript : MethodName := ⟨RRun, "runScript", "(LScriptStack$Row;I)Z"⟩
abbrev b_Run_branch : ByteArray := prog_5_method_3_code
abbrev y_Run_branch : MethodName := ⟨RRun, "branch", "(I)Z"⟩
abbrev b_Run_perform : ByteArray := prog_5_method_4_code
abbrev y_Run_perform : MethodName := ⟨RRun, "perform", "(II)Z"⟩
abbrev b_Run_reckon : ByteArray := prog_5_method_5_code
abbrev y_Run_reckon : MethodName := ⟨RRun, "reckon", "(I)Z"⟩
abbrev b_Run_equal : ByteArray := prog_5_method_6_code
abbrev y_Run_equal : MethodName := ⟨RRun, "equal", "()Z"⟩
abbrev b_Run_digestLast : ByteArray := prog_5_method_7_code
abbrev y_Run_digestLast : MethodName := ⟨RRun, "digestLast", "(Z)Z"⟩
abbrev b_Run_signed : ByteArray := prog_5_method_8_code
abbrev y_Run_signed : MethodName := ⟨RRun, "signed", "()Z"⟩
abbrev b_Run_many : ByteArray := prog_5_method_9_code
abbrev y_Run_many : MethodName := ⟨RRun, "many", "()Z"⟩
abbrev b_Sha_init : ByteArray := prog_6_method_1_code
abbrev y_Sha_init : MethodName := ⟨RSha, "<init>", "()V"⟩
abbrev b_Sha_hash : ByteArray := prog_6_method_2_code
abbrev y_Sha_hash : MethodName := ⟨RSha, "hash", "([BII[BI)V"⟩
abbrev b_Sha_digest : ByteArray := prog_6_method_3_code
abbrev y_Sha_digest : MethodName := ⟨RSha, "digest", "([BII[BI)V"⟩
abbrev b_Sha_loadWords : ByteArray := prog_6_method_4_code
abbrev y_Sha_loadWords : MethodName := ⟨RSha, "loadWords", "([BIII)V"⟩
abbrev b_Sha_extendWords : ByteArray := prog_6_method_5_code
abbrev y_Sha_extendWords : MethodName := ⟨RSha, "extendWords", "()V"⟩
abbrev b_Sha_mixWords : ByteArray := prog_6_method_6_code
abbrev y_Sha_mixWords : MethodName := ⟨RSha, "mixWords", "()V"⟩
abbrev b_Sig_init : ByteArray := prog_7_method_1_code
abbrev y_Sig_init : MethodName := ⟨RSig, "<init>", "()V"⟩
abbrev b_Sig_make : ByteArray := prog_7_method_2_code
abbrev y_Sig_make : MethodName := ⟨RSig, "make", "([BII)V"⟩
end
section
theorem d_Br_init_0 : decode b_Br_init 0 = .ok (.aload_n 0, 1) := by decide +kernel
theorem d_Br_init_1 : decode b_Br_init 1 = .ok (.invokespecial 1, 3) := by decide +kernel
theorem d_Br_init_4 : decode b_Br_init 4 = .ok (.return_, 1) := by decide +kernel
theorem d_Br_clear_0 : decode b_Br_clear 0 = .ok (.aload_n 0, 1) := by decide +kernel
theorem d_Br_clear_1 : decode b_Br_clear 1 = .ok (.iconst 0, 1) := by decide +kernel
theorem d_Br_clear_2 : decode b_Br_clear 2 = .ok (.putfield 7, 3) := by decide +kernel
theorem d_Br_clear_5 : decode b_Br_clear 5 = .ok (.aload_n 0, 1) := by decide +kernel
theorem d_Br_clear_6 : decode b_Br_clear 6 = .ok (.iconst 0, 1) := by decide +kernel
theorem d_Br_clear_7 : decode b_Br_clear 7 = .ok (.putfield 13, 3) := by decide +kernel
theorem d_Br_clear_10 : decode b_Br_clear 10 = .ok (.return_, 1) := by decide +kernel
theorem d_Br_allEnded_0 : decode b_Br_allEnded 0 = .ok (.aload_n 0, 1) := by decide +kernel
theorem d_Br_allEnded_1 : decode b_Br_allEnded 1 = .ok (.getfield 7, 3) := by decide +kernel
theorem d_Br_allEnded_4 : decode b_Br_allEnded 4 = .ok (.ifCond .ne 7, 3) := by decide +kernel
theorem d_Br_allEnded_7 : decode b_Br_allEnded 7 = .ok (.iconst 1, 1) := by decide +kernel
theorem d_Br_allEnded_8 : decode b_Br_allEnded 8 = .ok (.goto 4, 3) := by decide +kernel
theorem d_Br_allEnded_11 : decode b_Br_allEnded 11 = .ok (.iconst 0, 1) := by decide +kernel
theorem d_Br_allEnded_12 : decode b_Br_allEnded 12 = .ok (.ireturn, 1) := by decide +kernel
theorem d_Br_isDone_0 : decode b_Br_isDone 0 = .ok (.aload_n 0, 1) := by decide +kernel
theorem d_Br_isDone_1 : decode b_Br_isDone 1 = .ok (.getfield 13, 3) := by decide +kernel
theorem d_Br_isDone_4 : decode b_Br_isDone 4 = .ok (.ifCond .ne 7, 3) := by decide +kernel
theorem d_Br_isDone_7 : decode b_Br_isDone 7 = .ok (.iconst 1, 1) := by decide +kernel
theorem d_Br_isDone_8 : decode b_Br_isDone 8 = .ok (.goto 4, 3) := by decide +kernel
theorem d_Br_isDone_11 : decode b_Br_isDone 11 = .ok (.iconst 0, 1) := by decide +kernel
theorem d_Br_isDone_12 : decode b_Br_isDone 12 = .ok (.ireturn, 1) := by decide +kernel
theorem d_Br_enter_0 : decode b_Br_enter 0 = .ok (.aload_n 0, 1) := by decide +kernel
theorem d_Br_enter_1 : decode b_Br_enter 1 = .ok (.dup, 1) := by decide +kernel
theorem d_Br_enter_2 : decode b_Br_enter 2 = .ok (.getfield 7, 3) := by decide +kernel
theorem d_Br_enter_5 : decode b_Br_enter 5 = .ok (.iconst 1, 1) := by decide +kernel
theorem d_Br_enter_6 : decode b_Br_enter 6 = .ok (.iadd, 1) := by decide +kernel
theorem d_Br_enter_7 : decode b_Br_enter 7 = .ok (.putfield 7, 3) := by decide +kernel
theorem d_Br_enter_10 : decode b_Br_enter 10 = .ok (.aload_n 0, 1) := by decide +kernel
theorem d_Br_enter_11 : decode b_Br_enter 11 = .ok (.invokevirtual 16, 3) := by decide +kernel
theorem d_Br_enter_14 : decode b_Br_enter 14 = .ok (.ifCond .eq 15, 3) := by decide +kernel
theorem d_Br_enter_17 : decode b_Br_enter 17 = .ok (.iload_n 1, 1) := by decide +kernel
theorem d_Br_enter_18 : decode b_Br_enter 18 = .ok (.ifCond .ne 11, 3) := by decide +kernel
theorem d_Br_enter_21 : decode b_Br_enter 21 = .ok (.aload_n 0, 1) := by decide +kernel
theorem d_Br_enter_22 : decode b_Br_enter 22 = .ok (.aload_n 0, 1) := by decide +kernel
theorem d_Br_enter_23 : decode b_Br_enter 23 = .ok (.getfield 7, 3) := by decide +kernel
theorem d_Br_enter_26 : decode b_Br_enter 26 = .ok (.putfield 13, 3) := by decide +kernel
theorem d_Br_enter_29 : decode b_Br_enter 29 = .ok (.return_, 1) := by decide +kernel
theorem d_Br_turn_0 : decode b_Br_turn 0 = .ok (.aload_n 0, 1) := by decide +kernel
theorem d_Br_turn_1 : decode b_Br_turn 1 = .ok (.getfield 7, 3) := by decide +kernel
theorem d_Br_turn_4 : decode b_Br_turn 4 = .ok (.ifCond .ne 5, 3) := by decide +kernel
theorem d_Br_turn_7 : decode b_Br_turn 7 = .ok (.iconst 0, 1) := by decide +kernel
theorem d_Br_turn_8 : decode b_Br_turn 8 = .ok (.ireturn, 1) := by decide +kernel
theorem d_Br_turn_9 : decode b_Br_turn 9 = .ok (.aload_n 0, 1) := by decide +kernel
theorem d_Br_turn_10 : decode b_Br_turn 10 = .ok (.invokevirtual 16, 3) := by decide +kernel
theorem d_Br_turn_13 : decode b_Br_turn 13 = .ok (.ifCond .eq 14, 3) := by decide +kernel
theorem d_Br_turn_16 : decode b_Br_turn 16 = .ok (.aload_n 0, 1) := by decide +kernel
theorem d_Br_turn_17 : decode b_Br_turn 17 = .ok (.aload_n 0, 1) := by decide +kernel
theorem d_Br_turn_18 : decode b_Br_turn 18 = .ok (.getfield 7, 3) := by decide +kernel
theorem d_Br_turn_21 : decode b_Br_turn 21 = .ok (.putfield 13, 3) := by decide +kernel
theorem d_Br_turn_24 : decode b_Br_turn 24 = .ok (.goto 19, 3) := by decide +kernel
theorem d_Br_turn_27 : decode b_Br_turn 27 = .ok (.aload_n 0, 1) := by decide +kernel
theorem d_Br_turn_28 : decode b_Br_turn 28 = .ok (.getfield 13, 3) := by decide +kernel
theorem d_Br_turn_31 : decode b_Br_turn 31 = .ok (.aload_n 0, 1) := by decide +kernel
theorem d_Br_turn_32 : decode b_Br_turn 32 = .ok (.getfield 7, 3) := by decide +kernel
theorem d_Br_turn_35 : decode b_Br_turn 35 = .ok (.if_icmp .ne 8, 3) := by decide +kernel
theorem d_Br_turn_38 : decode b_Br_turn 38 = .ok (.aload_n 0, 1) := by decide +kernel
theorem d_Br_turn_39 : decode b_Br_turn 39 = .ok (.iconst 0, 1) := by decide +kernel
theorem d_Br_turn_40 : decode b_Br_turn 40 = .ok (.putfield 13, 3) := by decide +kernel
theorem d_Br_turn_43 : decode b_Br_turn 43 = .ok (.iconst 1, 1) := by decide +kernel
theorem d_Br_turn_44 : decode b_Br_turn 44 = .ok (.ireturn, 1) := by decide +kernel
theorem d_Br_leave_0 : decode b_Br_leave 0 = .ok (.aload_n 0, 1) := by decide +kernel
theorem d_Br_leave_1 : decode b_Br_leave 1 = .ok (.getfield 7, 3) := by decide +kernel
theorem d_Br_leave_4 : decode b_Br_leave 4 = .ok (.ifCond .ne 5, 3) := by decide +kernel
theorem d_Br_leave_7 : decode b_Br_leave 7 = .ok (.iconst 0, 1) := by decide +kernel
theorem d_Br_leave_8 : decode b_Br_leave 8 = .ok (.ireturn, 1) := by decide +kernel
theorem d_Br_leave_9 : decode b_Br_leave 9 = .ok (.aload_n 0, 1) := by decide +kernel
theorem d_Br_leave_10 : decode b_Br_leave 10 = .ok (.getfield 13, 3) := by decide +kernel
theorem d_Br_leave_13 : decode b_Br_leave 13 = .ok (.aload_n 0, 1) := by decide +kernel
theorem d_Br_leave_14 : decode b_Br_leave 14 = .ok (.getfield 7, 3) := by decide +kernel
theorem d_Br_leave_17 : decode b_Br_leave 17 = .ok (.if_icmp .ne 8, 3) := by decide +kernel
theorem d_Br_leave_20 : decode b_Br_leave 20 = .ok (.aload_n 0, 1) := by decide +kernel
theorem d_Br_leave_21 : decode b_Br_leave 21 = .ok (.iconst 0, 1) := by decide +kernel
theorem d_Br_leave_22 : decode b_Br_leave 22 = .ok (.putfield 13, 3) := by decide +kernel
theorem d_Br_leave_25 : decode b_Br_leave 25 = .ok (.aload_n 0, 1) := by decide +kernel
theorem d_Br_leave_26 : decode b_Br_leave 26 = .ok (.dup, 1) := by decide +kernel
theorem d_Br_leave_27 : decode b_Br_leave 27 = .ok (.getfield 7, 3) := by decide +kernel
theorem d_Br_leave_30 : decode b_Br_leave 30 = .ok (.iconst 1, 1) := by decide +kernel
theorem d_Br_leave_31 : decode b_Br_leave 31 = .ok (.isub, 1) := by decide +kernel
theorem d_Br_leave_32 : decode b_Br_leave 32 = .ok (.putfield 7, 3) := by decide +kernel
theorem d_Br_leave_35 : decode b_Br_leave 35 = .ok (.iconst 1, 1) := by decide +kernel
theorem d_Br_leave_36 : decode b_Br_leave 36 = .ok (.ireturn, 1) := by decide +kernel
theorem d_El_init_0 : decode b_El_init 0 = .ok (.aload_n 0, 1) := by decide +kernel
theorem d_El_init_1 : decode b_El_init 1 = .ok (.invokespecial 1, 3) := by decide +kernel
theorem d_El_init_4 : decode b_El_init 4 = .ok (.aload_n 0, 1) := by decide +kernel
theorem d_El_init_5 : decode b_El_init 5 = .ok (.sipush 1920, 3) := by decide +kernel
theorem d_El_init_8 : decode b_El_init 8 = .ok (.newarray .byte, 2) := by decide +kernel
theorem d_El_init_10 : decode b_El_init 10 = .ok (.putfield 9, 3) := by decide +kernel
theorem d_El_init_13 : decode b_El_init 13 = .ok (.aload_n 0, 1) := by decide +kernel
theorem d_El_init_14 : decode b_El_init 14 = .ok (.bipush 24, 2) := by decide +kernel
theorem d_El_init_16 : decode b_El_init 16 = .ok (.newarray .int, 2) := by decide +kernel
theorem d_El_init_18 : decode b_El_init 18 = .ok (.putfield 13, 3) := by decide +kernel
theorem d_El_init_21 : decode b_El_init 21 = .ok (.aload_n 0, 1) := by decide +kernel
theorem d_El_init_22 : decode b_El_init 22 = .ok (.iconst 0, 1) := by decide +kernel
theorem d_El_init_23 : decode b_El_init 23 = .ok (.putfield 17, 3) := by decide +kernel
theorem d_El_init_26 : decode b_El_init 26 = .ok (.return_, 1) := by decide +kernel
theorem d_El_place_0 : decode b_El_place 0 = .ok (.iload_n 1, 1) := by decide +kernel
theorem d_El_place_1 : decode b_El_place 1 = .ok (.bipush 80, 2) := by decide +kernel
theorem d_El_place_3 : decode b_El_place 3 = .ok (.imul, 1) := by decide +kernel
theorem d_El_place_4 : decode b_El_place 4 = .ok (.ireturn, 1) := by decide +kernel
theorem d_El_has_0 : decode b_El_has 0 = .ok (.iload_n 1, 1) := by decide +kernel
theorem d_El_has_1 : decode b_El_has 1 = .ok (.ifCond .lt 15, 3) := by decide +kernel
theorem d_El_has_4 : decode b_El_has 4 = .ok (.iload_n 1, 1) := by decide +kernel
theorem d_El_has_5 : decode b_El_has 5 = .ok (.aload_n 0, 1) := by decide +kernel
theorem d_El_has_6 : decode b_El_has 6 = .ok (.getfield 17, 3) := by decide +kernel
theorem d_El_has_9 : decode b_El_has 9 = .ok (.if_icmp .ge 7, 3) := by decide +kernel
theorem d_El_has_12 : decode b_El_has 12 = .ok (.iconst 1, 1) := by decide +kernel
theorem d_El_has_13 : decode b_El_has 13 = .ok (.goto 4, 3) := by decide +kernel
theorem d_El_has_16 : decode b_El_has 16 = .ok (.iconst 0, 1) := by decide +kernel
theorem d_El_has_17 : decode b_El_has 17 = .ok (.ireturn, 1) := by decide +kernel
theorem d_El_push_0 : decode b_El_push 0 = .ok (.aload_n 0, 1) := by decide +kernel
theorem d_El_push_1 : decode b_El_push 1 = .ok (.getfield 17, 3) := by decide +kernel
theorem d_El_push_4 : decode b_El_push 4 = .ok (.bipush 24, 2) := by decide +kernel
theorem d_El_push_6 : decode b_El_push 6 = .ok (.if_icmp .ge 9, 3) := by decide +kernel
theorem d_El_push_9 : decode b_El_push 9 = .ok (.iload_n 3, 1) := by decide +kernel
theorem d_El_push_10 : decode b_El_push 10 = .ok (.bipush 80, 2) := by decide +kernel
theorem d_El_push_12 : decode b_El_push 12 = .ok (.if_icmp .le 5, 3) := by decide +kernel
theorem d_El_push_15 : decode b_El_push 15 = .ok (.iconst 0, 1) := by decide +kernel
theorem d_El_push_16 : decode b_El_push 16 = .ok (.ireturn, 1) := by decide +kernel
theorem d_El_push_17 : decode b_El_push 17 = .ok (.aload_n 1, 1) := by decide +kernel
theorem d_El_push_18 : decode b_El_push 18 = .ok (.iload_n 2, 1) := by decide +kernel
theorem d_El_push_19 : decode b_El_push 19 = .ok (.aload_n 0, 1) := by decide +kernel
theorem d_El_push_20 : decode b_El_push 20 = .ok (.getfield 9, 3) := by decide +kernel
theorem d_El_push_23 : decode b_El_push 23 = .ok (.aload_n 0, 1) := by decide +kernel
theorem d_El_push_24 : decode b_El_push 24 = .ok (.aload_n 0, 1) := by decide +kernel
theorem d_El_push_25 : decode b_El_push 25 = .ok (.getfield 17, 3) := by decide +kernel
theorem d_El_push_28 : decode b_El_push 28 = .ok (.invokevirtual 21, 3) := by decide +kernel
theorem d_El_push_31 : decode b_El_push 31 = .ok (.iload_n 3, 1) := by decide +kernel
theorem d_El_push_32 : decode b_El_push 32 = .ok (.invokestatic 25, 3) := by decide +kernel
theorem d_El_push_35 : decode b_El_push 35 = .ok (.aload_n 0, 1) := by decide +kernel
theorem d_El_push_36 : decode b_El_push 36 = .ok (.getfield 13, 3) := by decide +kernel
theorem d_El_push_39 : decode b_El_push 39 = .ok (.aload_n 0, 1) := by decide +kernel
theorem d_El_push_40 : decode b_El_push 40 = .ok (.getfield 17, 3) := by decide +kernel
theorem d_El_push_43 : decode b_El_push 43 = .ok (.iload_n 3, 1) := by decide +kernel
theorem d_El_push_44 : decode b_El_push 44 = .ok (.iastore, 1) := by decide +kernel
theorem d_El_push_45 : decode b_El_push 45 = .ok (.aload_n 0, 1) := by decide +kernel
theorem d_El_push_46 : decode b_El_push 46 = .ok (.dup, 1) := by decide +kernel
theorem d_El_push_47 : decode b_El_push 47 = .ok (.getfield 17, 3) := by decide +kernel
theorem d_El_push_50 : decode b_El_push 50 = .ok (.iconst 1, 1) := by decide +kernel
theorem d_El_push_51 : decode b_El_push 51 = .ok (.iadd, 1) := by decide +kernel
theorem d_El_push_52 : decode b_El_push 52 = .ok (.putfield 17, 3) := by decide +kernel
theorem d_El_push_55 : decode b_El_push 55 = .ok (.iconst 1, 1) := by decide +kernel
theorem d_El_push_56 : decode b_El_push 56 = .ok (.ireturn, 1) := by decide +kernel
theorem d_El_pushNumber_0 : decode b_El_pushNumber 0 = .ok (.aload_n 0, 1) := by decide +kernel
theorem d_El_pushNumber_1 : decode b_El_pushNumber 1 = .ok (.getfield 17, 3) := by decide +kernel
theorem d_El_pushNumber_4 : decode b_El_pushNumber 4 = .ok (.bipush 24, 2) := by decide +kernel
theorem d_El_pushNumber_6 : decode b_El_pushNumber 6 = .ok (.if_icmp .lt 5, 3) := by decide +kernel
theorem d_El_pushNumber_9 : decode b_El_pushNumber 9 = .ok (.iconst 0, 1) := by decide +kernel
theorem d_El_pushNumber_10 : decode b_El_pushNumber 10 = .ok (.ireturn, 1) := by decide +kernel
theorem d_El_pushNumber_11 : decode b_El_pushNumber 11 = .ok (.aload_n 0, 1) := by decide +kernel
theorem d_El_pushNumber_12 : decode b_El_pushNumber 12 = .ok (.aload_n 0, 1) := by decide +kernel
theorem d_El_pushNumber_13 : decode b_El_pushNumber 13 = .ok (.getfield 17, 3) := by decide +kernel
theorem d_El_pushNumber_16 : decode b_El_pushNumber 16 = .ok (.invokevirtual 21, 3) := by decide +kernel
theorem d_El_pushNumber_19 : decode b_El_pushNumber 19 = .ok (.istore_n 2, 1) := by decide +kernel
theorem d_El_pushNumber_20 : decode b_El_pushNumber 20 = .ok (.iconst 0, 1) := by decide +kernel
theorem d_El_pushNumber_21 : decode b_El_pushNumber 21 = .ok (.istore_n 3, 1) := by decide +kernel
theorem d_El_pushNumber_22 : decode b_El_pushNumber 22 = .ok (.iload_n 3, 1) := by decide +kernel
theorem d_El_pushNumber_23 : decode b_El_pushNumber 23 = .ok (.iconst 4, 1) := by decide +kernel
theorem d_El_pushNumber_24 : decode b_El_pushNumber 24 = .ok (.if_icmp .ge 27, 3) := by decide +kernel
theorem d_El_pushNumber_27 : decode b_El_pushNumber 27 = .ok (.aload_n 0, 1) := by decide +kernel
theorem d_El_pushNumber_28 : decode b_El_pushNumber 28 = .ok (.getfield 9, 3) := by decide +kernel
theorem d_El_pushNumber_31 : decode b_El_pushNumber 31 = .ok (.iload_n 2, 1) := by decide +kernel
theorem d_El_pushNumber_32 : decode b_El_pushNumber 32 = .ok (.iload_n 3, 1) := by decide +kernel
theorem d_El_pushNumber_33 : decode b_El_pushNumber 33 = .ok (.iadd, 1) := by decide +kernel
theorem d_El_pushNumber_34 : decode b_El_pushNumber 34 = .ok (.iload_n 1, 1) := by decide +kernel
theorem d_El_pushNumber_35 : decode b_El_pushNumber 35 = .ok (.bipush 24, 2) := by decide +kernel
theorem d_El_pushNumber_37 : decode b_El_pushNumber 37 = .ok (.iload_n 3, 1) := by decide +kernel
theorem d_El_pushNumber_38 : decode b_El_pushNumber 38 = .ok (.bipush 8, 2) := by decide +kernel
theorem d_El_pushNumber_40 : decode b_El_pushNumber 40 = .ok (.imul, 1) := by decide +kernel
theorem d_El_pushNumber_41 : decode b_El_pushNumber 41 = .ok (.isub, 1) := by decide +kernel
theorem d_El_pushNumber_42 : decode b_El_pushNumber 42 = .ok (.iushr, 1) := by decide +kernel
theorem d_El_pushNumber_43 : decode b_El_pushNumber 43 = .ok (.i2b, 1) := by decide +kernel
theorem d_El_pushNumber_44 : decode b_El_pushNumber 44 = .ok (.bastore, 1) := by decide +kernel
theorem d_El_pushNumber_45 : decode b_El_pushNumber 45 = .ok (.iinc 3 1, 3) := by decide +kernel
theorem d_El_pushNumber_48 : decode b_El_pushNumber 48 = .ok (.goto (-26), 3) := by decide +kernel
theorem d_El_pushNumber_51 : decode b_El_pushNumber 51 = .ok (.aload_n 0, 1) := by decide +kernel
theorem d_El_pushNumber_52 : decode b_El_pushNumber 52 = .ok (.getfield 13, 3) := by decide +kernel
theorem d_El_pushNumber_55 : decode b_El_pushNumber 55 = .ok (.aload_n 0, 1) := by decide +kernel
theorem d_El_pushNumber_56 : decode b_El_pushNumber 56 = .ok (.getfield 17, 3) := by decide +kernel
theorem d_El_pushNumber_59 : decode b_El_pushNumber 59 = .ok (.iload_n 1, 1) := by decide +kernel
theorem d_El_pushNumber_60 : decode b_El_pushNumber 60 = .ok (.ifCond .ne 7, 3) := by decide +kernel
theorem d_El_pushNumber_63 : decode b_El_pushNumber 63 = .ok (.iconst 0, 1) := by decide +kernel
theorem d_El_pushNumber_64 : decode b_El_pushNumber 64 = .ok (.goto 4, 3) := by decide +kernel
theorem d_El_pushNumber_67 : decode b_El_pushNumber 67 = .ok (.iconst 4, 1) := by decide +kernel
theorem d_El_pushNumber_68 : decode b_El_pushNumber 68 = .ok (.iastore, 1) := by decide +kernel
theorem d_El_pushNumber_69 : decode b_El_pushNumber 69 = .ok (.aload_n 0, 1) := by decide +kernel
theorem d_El_pushNumber_70 : decode b_El_pushNumber 70 = .ok (.dup, 1) := by decide +kernel
theorem d_El_pushNumber_71 : decode b_El_pushNumber 71 = .ok (.getfield 17, 3) := by decide +kernel
theorem d_El_pushNumber_74 : decode b_El_pushNumber 74 = .ok (.iconst 1, 1) := by decide +kernel
theorem d_El_pushNumber_75 : decode b_El_pushNumber 75 = .ok (.iadd, 1) := by decide +kernel
theorem d_El_pushNumber_76 : decode b_El_pushNumber 76 = .ok (.putfield 17, 3) := by decide +kernel
theorem d_El_pushNumber_79 : decode b_El_pushNumber 79 = .ok (.iconst 1, 1) := by decide +kernel
theorem d_El_pushNumber_80 : decode b_El_pushNumber 80 = .ok (.ireturn, 1) := by decide +kernel
theorem d_El_pushCopy_0 : decode b_El_pushCopy 0 = .ok (.aload_n 0, 1) := by decide +kernel
theorem d_El_pushCopy_1 : decode b_El_pushCopy 1 = .ok (.iload_n 1, 1) := by decide +kernel
theorem d_El_pushCopy_2 : decode b_El_pushCopy 2 = .ok (.invokevirtual 31, 3) := by decide +kernel
theorem d_El_pushCopy_5 : decode b_El_pushCopy 5 = .ok (.ifCond .eq 29, 3) := by decide +kernel
theorem d_El_pushCopy_8 : decode b_El_pushCopy 8 = .ok (.aload_n 0, 1) := by decide +kernel
theorem d_El_pushCopy_9 : decode b_El_pushCopy 9 = .ok (.aload_n 0, 1) := by decide +kernel
theorem d_El_pushCopy_10 : decode b_El_pushCopy 10 = .ok (.getfield 9, 3) := by decide +kernel
theorem d_El_pushCopy_13 : decode b_El_pushCopy 13 = .ok (.aload_n 0, 1) := by decide +kernel
theorem d_El_pushCopy_14 : decode b_El_pushCopy 14 = .ok (.iload_n 1, 1) := by decide +kernel
theorem d_El_pushCopy_15 : decode b_El_pushCopy 15 = .ok (.invokevirtual 21, 3) := by decide +kernel
theorem d_El_pushCopy_18 : decode b_El_pushCopy 18 = .ok (.aload_n 0, 1) := by decide +kernel
theorem d_El_pushCopy_19 : decode b_El_pushCopy 19 = .ok (.getfield 13, 3) := by decide +kernel
theorem d_El_pushCopy_22 : decode b_El_pushCopy 22 = .ok (.iload_n 1, 1) := by decide +kernel
theorem d_El_pushCopy_23 : decode b_El_pushCopy 23 = .ok (.iaload, 1) := by decide +kernel
theorem d_El_pushCopy_24 : decode b_El_pushCopy 24 = .ok (.invokevirtual 35, 3) := by decide +kernel
theorem d_El_pushCopy_27 : decode b_El_pushCopy 27 = .ok (.ifCond .eq 7, 3) := by decide +kernel
theorem d_El_pushCopy_30 : decode b_El_pushCopy 30 = .ok (.iconst 1, 1) := by decide +kernel
theorem d_El_pushCopy_31 : decode b_El_pushCopy 31 = .ok (.goto 4, 3) := by decide +kernel
theorem d_El_pushCopy_34 : decode b_El_pushCopy 34 = .ok (.iconst 0, 1) := by decide +kernel
theorem d_El_pushCopy_35 : decode b_El_pushCopy 35 = .ok (.ireturn, 1) := by decide +kernel
theorem d_El_drop_0 : decode b_El_drop 0 = .ok (.iload_n 1, 1) := by decide +kernel
theorem d_El_drop_1 : decode b_El_drop 1 = .ok (.aload_n 0, 1) := by decide +kernel
theorem d_El_drop_2 : decode b_El_drop 2 = .ok (.getfield 17, 3) := by decide +kernel
theorem d_El_drop_5 : decode b_El_drop 5 = .ok (.if_icmp .le 5, 3) := by decide +kernel
theorem d_El_drop_8 : decode b_El_drop 8 = .ok (.iconst 0, 1) := by decide +kernel
theorem d_El_drop_9 : decode b_El_drop 9 = .ok (.ireturn, 1) := by decide +kernel
theorem d_El_drop_10 : decode b_El_drop 10 = .ok (.aload_n 0, 1) := by decide +kernel
theorem d_El_drop_11 : decode b_El_drop 11 = .ok (.dup, 1) := by decide +kernel
theorem d_El_drop_12 : decode b_El_drop 12 = .ok (.getfield 17, 3) := by decide +kernel
theorem d_El_drop_15 : decode b_El_drop 15 = .ok (.iload_n 1, 1) := by decide +kernel
theorem d_El_drop_16 : decode b_El_drop 16 = .ok (.isub, 1) := by decide +kernel
theorem d_El_drop_17 : decode b_El_drop 17 = .ok (.putfield 17, 3) := by decide +kernel
theorem d_El_drop_20 : decode b_El_drop 20 = .ok (.iconst 1, 1) := by decide +kernel
theorem d_El_drop_21 : decode b_El_drop 21 = .ok (.ireturn, 1) := by decide +kernel
theorem d_El_replace_0 : decode b_El_replace 0 = .ok (.aload_n 0, 1) := by decide +kernel
theorem d_El_replace_1 : decode b_El_replace 1 = .ok (.iload_n 1, 1) := by decide +kernel
theorem d_El_replace_2 : decode b_El_replace 2 = .ok (.invokevirtual 39, 3) := by decide +kernel
theorem d_El_replace_5 : decode b_El_replace 5 = .ok (.ifCond .eq 15, 3) := by decide +kernel
theorem d_El_replace_8 : decode b_El_replace 8 = .ok (.aload_n 0, 1) := by decide +kernel
theorem d_El_replace_9 : decode b_El_replace 9 = .ok (.iload_n 2, 1) := by decide +kernel
theorem d_El_replace_10 : decode b_El_replace 10 = .ok (.invokevirtual 42, 3) := by decide +kernel
theorem d_El_replace_13 : decode b_El_replace 13 = .ok (.ifCond .eq 7, 3) := by decide +kernel
theorem d_El_replace_16 : decode b_El_replace 16 = .ok (.iconst 1, 1) := by decide +kernel
theorem d_El_replace_17 : decode b_El_replace 17 = .ok (.goto 4, 3) := by decide +kernel
theorem d_El_replace_20 : decode b_El_replace 20 = .ok (.iconst 0, 1) := by decide +kernel
theorem d_El_replace_21 : decode b_El_replace 21 = .ok (.ireturn, 1) := by decide +kernel
theorem d_El_replaceByTruth_0 : decode b_El_replaceByTruth 0 = .ok (.aload_n 0, 1) := by decide +kernel
theorem d_El_replaceByTruth_1 : decode b_El_replaceByTruth 1 = .ok (.iload_n 1, 1) := by decide +kernel
theorem d_El_replaceByTruth_2 : decode b_El_replaceByTruth 2 = .ok (.iload_n 2, 1) := by decide +kernel
theorem d_El_replaceByTruth_3 : decode b_El_replaceByTruth 3 = .ok (.ifCond .eq 7, 3) := by decide +kernel
theorem d_El_replaceByTruth_6 : decode b_El_replaceByTruth 6 = .ok (.iconst 1, 1) := by decide +kernel
theorem d_El_replaceByTruth_7 : decode b_El_replaceByTruth 7 = .ok (.goto 4, 3) := by decide +kernel
theorem d_El_replaceByTruth_10 : decode b_El_replaceByTruth 10 = .ok (.iconst 0, 1) := by decide +kernel
theorem d_El_replaceByTruth_11 : decode b_El_replaceByTruth 11 = .ok (.invokevirtual 45, 3) := by decide +kernel
theorem d_El_replaceByTruth_14 : decode b_El_replaceByTruth 14 = .ok (.ireturn, 1) := by decide +kernel
theorem d_El_swapLast_0 : decode b_El_swapLast 0 = .ok (.aload_n 0, 1) := by decide +kernel
theorem d_El_swapLast_1 : decode b_El_swapLast 1 = .ok (.getfield 17, 3) := by decide +kernel
theorem d_El_swapLast_4 : decode b_El_swapLast 4 = .ok (.iconst 2, 1) := by decide +kernel
theorem d_El_swapLast_5 : decode b_El_swapLast 5 = .ok (.isub, 1) := by decide +kernel
theorem d_El_swapLast_6 : decode b_El_swapLast 6 = .ok (.istore_n 1, 1) := by decide +kernel
theorem d_El_swapLast_7 : decode b_El_swapLast 7 = .ok (.aload_n 0, 1) := by decide +kernel
theorem d_El_swapLast_8 : decode b_El_swapLast 8 = .ok (.iload_n 1, 1) := by decide +kernel
theorem d_El_swapLast_9 : decode b_El_swapLast 9 = .ok (.invokevirtual 31, 3) := by decide +kernel
theorem d_El_swapLast_12 : decode b_El_swapLast 12 = .ok (.ifCond .ne 5, 3) := by decide +kernel
theorem d_El_swapLast_15 : decode b_El_swapLast 15 = .ok (.iconst 0, 1) := by decide +kernel
theorem d_El_swapLast_16 : decode b_El_swapLast 16 = .ok (.ireturn, 1) := by decide +kernel
theorem d_El_swapLast_17 : decode b_El_swapLast 17 = .ok (.aload_n 0, 1) := by decide +kernel
theorem d_El_swapLast_18 : decode b_El_swapLast 18 = .ok (.getfield 13, 3) := by decide +kernel
theorem d_El_swapLast_21 : decode b_El_swapLast 21 = .ok (.iload_n 1, 1) := by decide +kernel
theorem d_El_swapLast_22 : decode b_El_swapLast 22 = .ok (.iaload, 1) := by decide +kernel
theorem d_El_swapLast_23 : decode b_El_swapLast 23 = .ok (.istore_n 2, 1) := by decide +kernel
theorem d_El_swapLast_24 : decode b_El_swapLast 24 = .ok (.aload_n 0, 1) := by decide +kernel
theorem d_El_swapLast_25 : decode b_El_swapLast 25 = .ok (.getfield 13, 3) := by decide +kernel
theorem d_El_swapLast_28 : decode b_El_swapLast 28 = .ok (.iload_n 1, 1) := by decide +kernel
theorem d_El_swapLast_29 : decode b_El_swapLast 29 = .ok (.aload_n 0, 1) := by decide +kernel
theorem d_El_swapLast_30 : decode b_El_swapLast 30 = .ok (.getfield 13, 3) := by decide +kernel
theorem d_El_swapLast_33 : decode b_El_swapLast 33 = .ok (.iload_n 1, 1) := by decide +kernel
theorem d_El_swapLast_34 : decode b_El_swapLast 34 = .ok (.iconst 1, 1) := by decide +kernel
theorem d_El_swapLast_35 : decode b_El_swapLast 35 = .ok (.iadd, 1) := by decide +kernel
theorem d_El_swapLast_36 : decode b_El_swapLast 36 = .ok (.iaload, 1) := by decide +kernel
theorem d_El_swapLast_37 : decode b_El_swapLast 37 = .ok (.iastore, 1) := by decide +kernel
theorem d_El_swapLast_38 : decode b_El_swapLast 38 = .ok (.aload_n 0, 1) := by decide +kernel
theorem d_El_swapLast_39 : decode b_El_swapLast 39 = .ok (.getfield 13, 3) := by decide +kernel
theorem d_El_swapLast_42 : decode b_El_swapLast 42 = .ok (.iload_n 1, 1) := by decide +kernel
theorem d_El_swapLast_43 : decode b_El_swapLast 43 = .ok (.iconst 1, 1) := by decide +kernel
theorem d_El_swapLast_44 : decode b_El_swapLast 44 = .ok (.iadd, 1) := by decide +kernel
theorem d_El_swapLast_45 : decode b_El_swapLast 45 = .ok (.iload_n 2, 1) := by decide +kernel
theorem d_El_swapLast_46 : decode b_El_swapLast 46 = .ok (.iastore, 1) := by decide +kernel
theorem d_El_swapLast_47 : decode b_El_swapLast 47 = .ok (.aload_n 0, 1) := by decide +kernel
theorem d_El_swapLast_48 : decode b_El_swapLast 48 = .ok (.iload_n 1, 1) := by decide +kernel
theorem d_El_swapLast_49 : decode b_El_swapLast 49 = .ok (.invokevirtual 21, 3) := by decide +kernel
theorem d_El_swapLast_52 : decode b_El_swapLast 52 = .ok (.istore_n 3, 1) := by decide +kernel
theorem d_El_swapLast_53 : decode b_El_swapLast 53 = .ok (.iload_n 3, 1) := by decide +kernel
theorem d_El_swapLast_54 : decode b_El_swapLast 54 = .ok (.istore 4, 2) := by decide +kernel
theorem d_El_swapLast_56 : decode b_El_swapLast 56 = .ok (.iload 4, 2) := by decide +kernel
theorem d_El_swapLast_58 : decode b_El_swapLast 58 = .ok (.iload_n 3, 1) := by decide +kernel
theorem d_El_swapLast_59 : decode b_El_swapLast 59 = .ok (.bipush 80, 2) := by decide +kernel
theorem d_El_swapLast_61 : decode b_El_swapLast 61 = .ok (.iadd, 1) := by decide +kernel
theorem d_El_swapLast_62 : decode b_El_swapLast 62 = .ok (.if_icmp .ge 47, 3) := by decide +kernel
theorem d_El_swapLast_65 : decode b_El_swapLast 65 = .ok (.aload_n 0, 1) := by decide +kernel
theorem d_El_swapLast_66 : decode b_El_swapLast 66 = .ok (.getfield 9, 3) := by decide +kernel
theorem d_El_swapLast_69 : decode b_El_swapLast 69 = .ok (.iload 4, 2) := by decide +kernel
theorem d_El_swapLast_71 : decode b_El_swapLast 71 = .ok (.baload, 1) := by decide +kernel
theorem d_El_swapLast_72 : decode b_El_swapLast 72 = .ok (.istore 5, 2) := by decide +kernel
theorem d_El_swapLast_74 : decode b_El_swapLast 74 = .ok (.aload_n 0, 1) := by decide +kernel
theorem d_El_swapLast_75 : decode b_El_swapLast 75 = .ok (.getfield 9, 3) := by decide +kernel
theorem d_El_swapLast_78 : decode b_El_swapLast 78 = .ok (.iload 4, 2) := by decide +kernel
theorem d_El_swapLast_80 : decode b_El_swapLast 80 = .ok (.aload_n 0, 1) := by decide +kernel
theorem d_El_swapLast_81 : decode b_El_swapLast 81 = .ok (.getfield 9, 3) := by decide +kernel
theorem d_El_swapLast_84 : decode b_El_swapLast 84 = .ok (.iload 4, 2) := by decide +kernel
theorem d_El_swapLast_86 : decode b_El_swapLast 86 = .ok (.bipush 80, 2) := by decide +kernel
theorem d_El_swapLast_88 : decode b_El_swapLast 88 = .ok (.iadd, 1) := by decide +kernel
theorem d_El_swapLast_89 : decode b_El_swapLast 89 = .ok (.baload, 1) := by decide +kernel
theorem d_El_swapLast_90 : decode b_El_swapLast 90 = .ok (.bastore, 1) := by decide +kernel
theorem d_El_swapLast_91 : decode b_El_swapLast 91 = .ok (.aload_n 0, 1) := by decide +kernel
theorem d_El_swapLast_92 : decode b_El_swapLast 92 = .ok (.getfield 9, 3) := by decide +kernel
theorem d_El_swapLast_95 : decode b_El_swapLast 95 = .ok (.iload 4, 2) := by decide +kernel
theorem d_El_swapLast_97 : decode b_El_swapLast 97 = .ok (.bipush 80, 2) := by decide +kernel
theorem d_El_swapLast_99 : decode b_El_swapLast 99 = .ok (.iadd, 1) := by decide +kernel
theorem d_El_swapLast_100 : decode b_El_swapLast 100 = .ok (.iload 5, 2) := by decide +kernel
theorem d_El_swapLast_102 : decode b_El_swapLast 102 = .ok (.bastore, 1) := by decide +kernel
theorem d_El_swapLast_103 : decode b_El_swapLast 103 = .ok (.iinc 4 1, 3) := by decide +kernel
theorem d_El_swapLast_106 : decode b_El_swapLast 106 = .ok (.goto (-50), 3) := by decide +kernel
theorem d_El_swapLast_109 : decode b_El_swapLast 109 = .ok (.iconst 1, 1) := by decide +kernel
theorem d_El_swapLast_110 : decode b_El_swapLast 110 = .ok (.ireturn, 1) := by decide +kernel
theorem d_El_isTrue_0 : decode b_El_isTrue 0 = .ok (.aload_n 0, 1) := by decide +kernel
theorem d_El_isTrue_1 : decode b_El_isTrue 1 = .ok (.iload_n 1, 1) := by decide +kernel
theorem d_El_isTrue_2 : decode b_El_isTrue 2 = .ok (.invokevirtual 31, 3) := by decide +kernel
theorem d_El_isTrue_5 : decode b_El_isTrue 5 = .ok (.ifCond .ne 5, 3) := by decide +kernel
theorem d_El_isTrue_8 : decode b_El_isTrue 8 = .ok (.iconst 0, 1) := by decide +kernel
theorem d_El_isTrue_9 : decode b_El_isTrue 9 = .ok (.ireturn, 1) := by decide +kernel
theorem d_El_isTrue_10 : decode b_El_isTrue 10 = .ok (.aload_n 0, 1) := by decide +kernel
theorem d_El_isTrue_11 : decode b_El_isTrue 11 = .ok (.iload_n 1, 1) := by decide +kernel
theorem d_El_isTrue_12 : decode b_El_isTrue 12 = .ok (.invokevirtual 21, 3) := by decide +kernel
theorem d_El_isTrue_15 : decode b_El_isTrue 15 = .ok (.istore_n 2, 1) := by decide +kernel
theorem d_El_isTrue_16 : decode b_El_isTrue 16 = .ok (.iconst 0, 1) := by decide +kernel
theorem d_El_isTrue_17 : decode b_El_isTrue 17 = .ok (.istore_n 3, 1) := by decide +kernel
theorem d_El_isTrue_18 : decode b_El_isTrue 18 = .ok (.iload_n 3, 1) := by decide +kernel
theorem d_El_isTrue_19 : decode b_El_isTrue 19 = .ok (.aload_n 0, 1) := by decide +kernel
theorem d_El_isTrue_20 : decode b_El_isTrue 20 = .ok (.getfield 13, 3) := by decide +kernel
theorem d_El_isTrue_23 : decode b_El_isTrue 23 = .ok (.iload_n 1, 1) := by decide +kernel
theorem d_El_isTrue_24 : decode b_El_isTrue 24 = .ok (.iaload, 1) := by decide +kernel
theorem d_El_isTrue_25 : decode b_El_isTrue 25 = .ok (.if_icmp .ge 22, 3) := by decide +kernel
theorem d_El_isTrue_28 : decode b_El_isTrue 28 = .ok (.aload_n 0, 1) := by decide +kernel
theorem d_El_isTrue_29 : decode b_El_isTrue 29 = .ok (.getfield 9, 3) := by decide +kernel
theorem d_El_isTrue_32 : decode b_El_isTrue 32 = .ok (.iload_n 2, 1) := by decide +kernel
theorem d_El_isTrue_33 : decode b_El_isTrue 33 = .ok (.iload_n 3, 1) := by decide +kernel
theorem d_El_isTrue_34 : decode b_El_isTrue 34 = .ok (.iadd, 1) := by decide +kernel
theorem d_El_isTrue_35 : decode b_El_isTrue 35 = .ok (.baload, 1) := by decide +kernel
theorem d_El_isTrue_36 : decode b_El_isTrue 36 = .ok (.ifCond .eq 5, 3) := by decide +kernel
theorem d_El_isTrue_39 : decode b_El_isTrue 39 = .ok (.iconst 1, 1) := by decide +kernel
theorem d_El_isTrue_40 : decode b_El_isTrue 40 = .ok (.ireturn, 1) := by decide +kernel
theorem d_El_isTrue_41 : decode b_El_isTrue 41 = .ok (.iinc 3 1, 3) := by decide +kernel
theorem d_El_isTrue_44 : decode b_El_isTrue 44 = .ok (.goto (-26), 3) := by decide +kernel
theorem d_El_isTrue_47 : decode b_El_isTrue 47 = .ok (.iconst 0, 1) := by decide +kernel
theorem d_El_isTrue_48 : decode b_El_isTrue 48 = .ok (.ireturn, 1) := by decide +kernel
theorem d_El_isNumber_0 : decode b_El_isNumber 0 = .ok (.aload_n 0, 1) := by decide +kernel
theorem d_El_isNumber_1 : decode b_El_isNumber 1 = .ok (.iload_n 1, 1) := by decide +kernel
theorem d_El_isNumber_2 : decode b_El_isNumber 2 = .ok (.invokevirtual 31, 3) := by decide +kernel
theorem d_El_isNumber_5 : decode b_El_isNumber 5 = .ok (.ifCond .eq 17, 3) := by decide +kernel
theorem d_El_isNumber_8 : decode b_El_isNumber 8 = .ok (.aload_n 0, 1) := by decide +kernel
theorem d_El_isNumber_9 : decode b_El_isNumber 9 = .ok (.getfield 13, 3) := by decide +kernel
theorem d_El_isNumber_12 : decode b_El_isNumber 12 = .ok (.iload_n 1, 1) := by decide +kernel
theorem d_El_isNumber_13 : decode b_El_isNumber 13 = .ok (.iaload, 1) := by decide +kernel
theorem d_El_isNumber_14 : decode b_El_isNumber 14 = .ok (.iconst 4, 1) := by decide +kernel
theorem d_El_isNumber_15 : decode b_El_isNumber 15 = .ok (.if_icmp .gt 7, 3) := by decide +kernel
theorem d_El_isNumber_18 : decode b_El_isNumber 18 = .ok (.iconst 1, 1) := by decide +kernel
theorem d_El_isNumber_19 : decode b_El_isNumber 19 = .ok (.goto 4, 3) := by decide +kernel
theorem d_El_isNumber_22 : decode b_El_isNumber 22 = .ok (.iconst 0, 1) := by decide +kernel
theorem d_El_isNumber_23 : decode b_El_isNumber 23 = .ok (.ireturn, 1) := by decide +kernel
theorem d_El_number_0 : decode b_El_number 0 = .ok (.aload_n 0, 1) := by decide +kernel
theorem d_El_number_1 : decode b_El_number 1 = .ok (.iload_n 1, 1) := by decide +kernel
theorem d_El_number_2 : decode b_El_number 2 = .ok (.invokevirtual 49, 3) := by decide +kernel
theorem d_El_number_5 : decode b_El_number 5 = .ok (.ifCond .eq 12, 3) := by decide +kernel
theorem d_El_number_8 : decode b_El_number 8 = .ok (.aload_n 0, 1) := by decide +kernel
theorem d_El_number_9 : decode b_El_number 9 = .ok (.getfield 13, 3) := by decide +kernel
theorem d_El_number_12 : decode b_El_number 12 = .ok (.iload_n 1, 1) := by decide +kernel
theorem d_El_number_13 : decode b_El_number 13 = .ok (.iaload, 1) := by decide +kernel
theorem d_El_number_14 : decode b_El_number 14 = .ok (.ifCond .ne 5, 3) := by decide +kernel
theorem d_El_number_17 : decode b_El_number 17 = .ok (.iconst 0, 1) := by decide +kernel
theorem d_El_number_18 : decode b_El_number 18 = .ok (.ireturn, 1) := by decide +kernel
theorem d_El_number_19 : decode b_El_number 19 = .ok (.aload_n 0, 1) := by decide +kernel
theorem d_El_number_20 : decode b_El_number 20 = .ok (.iload_n 1, 1) := by decide +kernel
theorem d_El_number_21 : decode b_El_number 21 = .ok (.invokevirtual 21, 3) := by decide +kernel
theorem d_El_number_24 : decode b_El_number 24 = .ok (.istore_n 2, 1) := by decide +kernel
theorem d_El_number_25 : decode b_El_number 25 = .ok (.aload_n 0, 1) := by decide +kernel
theorem d_El_number_26 : decode b_El_number 26 = .ok (.getfield 9, 3) := by decide +kernel
theorem d_El_number_29 : decode b_El_number 29 = .ok (.iload_n 2, 1) := by decide +kernel
theorem d_El_number_30 : decode b_El_number 30 = .ok (.baload, 1) := by decide +kernel
theorem d_El_number_31 : decode b_El_number 31 = .ok (.istore_n 3, 1) := by decide +kernel
theorem d_El_number_32 : decode b_El_number 32 = .ok (.iconst 1, 1) := by decide +kernel
theorem d_El_number_33 : decode b_El_number 33 = .ok (.istore 4, 2) := by decide +kernel
theorem d_El_number_35 : decode b_El_number 35 = .ok (.iload 4, 2) := by decide +kernel
theorem d_El_number_37 : decode b_El_number 37 = .ok (.aload_n 0, 1) := by decide +kernel
theorem d_El_number_38 : decode b_El_number 38 = .ok (.getfield 13, 3) := by decide +kernel
theorem d_El_number_41 : decode b_El_number 41 = .ok (.iload_n 1, 1) := by decide +kernel
theorem d_El_number_42 : decode b_El_number 42 = .ok (.iaload, 1) := by decide +kernel
theorem d_El_number_43 : decode b_El_number 43 = .ok (.if_icmp .ge 28, 3) := by decide +kernel
theorem d_El_number_46 : decode b_El_number 46 = .ok (.iload_n 3, 1) := by decide +kernel
theorem d_El_number_47 : decode b_El_number 47 = .ok (.bipush 8, 2) := by decide +kernel
theorem d_El_number_49 : decode b_El_number 49 = .ok (.ishl, 1) := by decide +kernel
theorem d_El_number_50 : decode b_El_number 50 = .ok (.aload_n 0, 1) := by decide +kernel
theorem d_El_number_51 : decode b_El_number 51 = .ok (.getfield 9, 3) := by decide +kernel
theorem d_El_number_54 : decode b_El_number 54 = .ok (.iload_n 2, 1) := by decide +kernel
theorem d_El_number_55 : decode b_El_number 55 = .ok (.iload 4, 2) := by decide +kernel
theorem d_El_number_57 : decode b_El_number 57 = .ok (.iadd, 1) := by decide +kernel
theorem d_El_number_58 : decode b_El_number 58 = .ok (.baload, 1) := by decide +kernel
theorem d_El_number_59 : decode b_El_number 59 = .ok (.sipush 255, 3) := by decide +kernel
theorem d_El_number_62 : decode b_El_number 62 = .ok (.iand, 1) := by decide +kernel
theorem d_El_number_63 : decode b_El_number 63 = .ok (.ior, 1) := by decide +kernel
theorem d_El_number_64 : decode b_El_number 64 = .ok (.istore_n 3, 1) := by decide +kernel
theorem d_El_number_65 : decode b_El_number 65 = .ok (.iinc 4 1, 3) := by decide +kernel
theorem d_El_number_68 : decode b_El_number 68 = .ok (.goto (-33), 3) := by decide +kernel
theorem d_El_number_71 : decode b_El_number 71 = .ok (.iload_n 3, 1) := by decide +kernel
theorem d_El_number_72 : decode b_El_number 72 = .ok (.ireturn, 1) := by decide +kernel
theorem d_El_holds_0 : decode b_El_holds 0 = .ok (.aload_n 0, 1) := by decide +kernel
theorem d_El_holds_1 : decode b_El_holds 1 = .ok (.iload_n 1, 1) := by decide +kernel
theorem d_El_holds_2 : decode b_El_holds 2 = .ok (.invokevirtual 31, 3) := by decide +kernel
theorem d_El_holds_5 : decode b_El_holds 5 = .ok (.ifCond .eq 14, 3) := by decide +kernel
theorem d_El_holds_8 : decode b_El_holds 8 = .ok (.aload_n 0, 1) := by decide +kernel
theorem d_El_holds_9 : decode b_El_holds 9 = .ok (.getfield 13, 3) := by decide +kernel
theorem d_El_holds_12 : decode b_El_holds 12 = .ok (.iload_n 1, 1) := by decide +kernel
theorem d_El_holds_13 : decode b_El_holds 13 = .ok (.iaload, 1) := by decide +kernel
theorem d_El_holds_14 : decode b_El_holds 14 = .ok (.iload 4, 2) := by decide +kernel
theorem d_El_holds_16 : decode b_El_holds 16 = .ok (.if_icmp .eq 5, 3) := by decide +kernel
theorem d_El_holds_19 : decode b_El_holds 19 = .ok (.iconst 0, 1) := by decide +kernel
theorem d_El_holds_20 : decode b_El_holds 20 = .ok (.ireturn, 1) := by decide +kernel
theorem d_El_holds_21 : decode b_El_holds 21 = .ok (.aload_n 0, 1) := by decide +kernel
theorem d_El_holds_22 : decode b_El_holds 22 = .ok (.iload_n 1, 1) := by decide +kernel
theorem d_El_holds_23 : decode b_El_holds 23 = .ok (.invokevirtual 21, 3) := by decide +kernel
theorem d_El_holds_26 : decode b_El_holds 26 = .ok (.istore 5, 2) := by decide +kernel
theorem d_El_holds_28 : decode b_El_holds 28 = .ok (.iconst 0, 1) := by decide +kernel
theorem d_El_holds_29 : decode b_El_holds 29 = .ok (.istore 6, 2) := by decide +kernel
theorem d_El_holds_31 : decode b_El_holds 31 = .ok (.iload 6, 2) := by decide +kernel
theorem d_El_holds_33 : decode b_El_holds 33 = .ok (.iload 4, 2) := by decide +kernel
theorem d_El_holds_35 : decode b_El_holds 35 = .ok (.if_icmp .ge 30, 3) := by decide +kernel
theorem d_El_holds_38 : decode b_El_holds 38 = .ok (.aload_n 0, 1) := by decide +kernel
theorem d_El_holds_39 : decode b_El_holds 39 = .ok (.getfield 9, 3) := by decide +kernel
theorem d_El_holds_42 : decode b_El_holds 42 = .ok (.iload 5, 2) := by decide +kernel
theorem d_El_holds_44 : decode b_El_holds 44 = .ok (.iload 6, 2) := by decide +kernel
theorem d_El_holds_46 : decode b_El_holds 46 = .ok (.iadd, 1) := by decide +kernel
theorem d_El_holds_47 : decode b_El_holds 47 = .ok (.baload, 1) := by decide +kernel
theorem d_El_holds_48 : decode b_El_holds 48 = .ok (.aload_n 2, 1) := by decide +kernel
theorem d_El_holds_49 : decode b_El_holds 49 = .ok (.iload_n 3, 1) := by decide +kernel
theorem d_El_holds_50 : decode b_El_holds 50 = .ok (.iload 6, 2) := by decide +kernel
theorem d_El_holds_52 : decode b_El_holds 52 = .ok (.iadd, 1) := by decide +kernel
theorem d_El_holds_53 : decode b_El_holds 53 = .ok (.baload, 1) := by decide +kernel
theorem d_El_holds_54 : decode b_El_holds 54 = .ok (.if_icmp .eq 5, 3) := by decide +kernel
theorem d_El_holds_57 : decode b_El_holds 57 = .ok (.iconst 0, 1) := by decide +kernel
theorem d_El_holds_58 : decode b_El_holds 58 = .ok (.ireturn, 1) := by decide +kernel
theorem d_El_holds_59 : decode b_El_holds 59 = .ok (.iinc 6 1, 3) := by decide +kernel
theorem d_El_holds_62 : decode b_El_holds 62 = .ok (.goto (-31), 3) := by decide +kernel
theorem d_El_holds_65 : decode b_El_holds 65 = .ok (.iconst 1, 1) := by decide +kernel
theorem d_El_holds_66 : decode b_El_holds 66 = .ok (.ireturn, 1) := by decide +kernel
theorem d_Row_init_0 : decode b_Row_init 0 = .ok (.aload_n 0, 1) := by decide +kernel
theorem d_Row_init_1 : decode b_Row_init 1 = .ok (.invokespecial 1, 3) := by decide +kernel
theorem d_Row_init_4 : decode b_Row_init 4 = .ok (.aload_n 0, 1) := by decide +kernel
theorem d_Row_init_5 : decode b_Row_init 5 = .ok (.iload_n 1, 1) := by decide +kernel
theorem d_Row_init_6 : decode b_Row_init 6 = .ok (.newarray .byte, 2) := by decide +kernel
theorem d_Row_init_8 : decode b_Row_init 8 = .ok (.putfield 7, 3) := by decide +kernel
theorem d_Row_init_11 : decode b_Row_init 11 = .ok (.aload_n 0, 1) := by decide +kernel
theorem d_Row_init_12 : decode b_Row_init 12 = .ok (.iconst 0, 1) := by decide +kernel
theorem d_Row_init_13 : decode b_Row_init 13 = .ok (.putfield 13, 3) := by decide +kernel
theorem d_Row_init_16 : decode b_Row_init 16 = .ok (.return_, 1) := by decide +kernel
theorem d_Row_hasRoomFor_0 : decode b_Row_hasRoomFor 0 = .ok (.iload_n 1, 1) := by decide +kernel
theorem d_Row_hasRoomFor_1 : decode b_Row_hasRoomFor 1 = .ok (.aload_n 0, 1) := by decide +kernel
theorem d_Row_hasRoomFor_2 : decode b_Row_hasRoomFor 2 = .ok (.getfield 7, 3) := by decide +kernel
theorem d_Row_hasRoomFor_5 : decode b_Row_hasRoomFor 5 = .ok (.arraylength, 1) := by decide +kernel
theorem d_Row_hasRoomFor_6 : decode b_Row_hasRoomFor 6 = .ok (.aload_n 0, 1) := by decide +kernel
theorem d_Row_hasRoomFor_7 : decode b_Row_hasRoomFor 7 = .ok (.getfield 13, 3) := by decide +kernel
theorem d_Row_hasRoomFor_10 : decode b_Row_hasRoomFor 10 = .ok (.isub, 1) := by decide +kernel
theorem d_Row_hasRoomFor_11 : decode b_Row_hasRoomFor 11 = .ok (.if_icmp .gt 7, 3) := by decide +kernel
theorem d_Row_hasRoomFor_14 : decode b_Row_hasRoomFor 14 = .ok (.iconst 1, 1) := by decide +kernel
theorem d_Row_hasRoomFor_15 : decode b_Row_hasRoomFor 15 = .ok (.goto 4, 3) := by decide +kernel
theorem d_Row_hasRoomFor_18 : decode b_Row_hasRoomFor 18 = .ok (.iconst 0, 1) := by decide +kernel
theorem d_Row_hasRoomFor_19 : decode b_Row_hasRoomFor 19 = .ok (.ireturn, 1) := by decide +kernel
theorem d_Row_addByte_0 : decode b_Row_addByte 0 = .ok (.aload_n 0, 1) := by decide +kernel
theorem d_Row_addByte_1 : decode b_Row_addByte 1 = .ok (.getfield 13, 3) := by decide +kernel
theorem d_Row_addByte_4 : decode b_Row_addByte 4 = .ok (.aload_n 0, 1) := by decide +kernel
theorem d_Row_addByte_5 : decode b_Row_addByte 5 = .ok (.getfield 7, 3) := by decide +kernel
theorem d_Row_addByte_8 : decode b_Row_addByte 8 = .ok (.arraylength, 1) := by decide +kernel
theorem d_Row_addByte_9 : decode b_Row_addByte 9 = .ok (.if_icmp .ge 24, 3) := by decide +kernel
theorem d_Row_addByte_12 : decode b_Row_addByte 12 = .ok (.aload_n 0, 1) := by decide +kernel
theorem d_Row_addByte_13 : decode b_Row_addByte 13 = .ok (.getfield 7, 3) := by decide +kernel
theorem d_Row_addByte_16 : decode b_Row_addByte 16 = .ok (.aload_n 0, 1) := by decide +kernel
theorem d_Row_addByte_17 : decode b_Row_addByte 17 = .ok (.getfield 13, 3) := by decide +kernel
theorem d_Row_addByte_20 : decode b_Row_addByte 20 = .ok (.iload_n 1, 1) := by decide +kernel
theorem d_Row_addByte_21 : decode b_Row_addByte 21 = .ok (.i2b, 1) := by decide +kernel
theorem d_Row_addByte_22 : decode b_Row_addByte 22 = .ok (.bastore, 1) := by decide +kernel
theorem d_Row_addByte_23 : decode b_Row_addByte 23 = .ok (.aload_n 0, 1) := by decide +kernel
theorem d_Row_addByte_24 : decode b_Row_addByte 24 = .ok (.dup, 1) := by decide +kernel
theorem d_Row_addByte_25 : decode b_Row_addByte 25 = .ok (.getfield 13, 3) := by decide +kernel
theorem d_Row_addByte_28 : decode b_Row_addByte 28 = .ok (.iconst 1, 1) := by decide +kernel
theorem d_Row_addByte_29 : decode b_Row_addByte 29 = .ok (.iadd, 1) := by decide +kernel
theorem d_Row_addByte_30 : decode b_Row_addByte 30 = .ok (.putfield 13, 3) := by decide +kernel
theorem d_Row_addByte_33 : decode b_Row_addByte 33 = .ok (.return_, 1) := by decide +kernel
theorem d_Row_addWord_0 : decode b_Row_addWord 0 = .ok (.aload_n 0, 1) := by decide +kernel
theorem d_Row_addWord_1 : decode b_Row_addWord 1 = .ok (.iload_n 1, 1) := by decide +kernel
theorem d_Row_addWord_2 : decode b_Row_addWord 2 = .ok (.bipush 24, 2) := by decide +kernel
theorem d_Row_addWord_4 : decode b_Row_addWord 4 = .ok (.iushr, 1) := by decide +kernel
theorem d_Row_addWord_5 : decode b_Row_addWord 5 = .ok (.invokevirtual 17, 3) := by decide +kernel
theorem d_Row_addWord_8 : decode b_Row_addWord 8 = .ok (.aload_n 0, 1) := by decide +kernel
theorem d_Row_addWord_9 : decode b_Row_addWord 9 = .ok (.iload_n 1, 1) := by decide +kernel
theorem d_Row_addWord_10 : decode b_Row_addWord 10 = .ok (.bipush 16, 2) := by decide +kernel
theorem d_Row_addWord_12 : decode b_Row_addWord 12 = .ok (.iushr, 1) := by decide +kernel
theorem d_Row_addWord_13 : decode b_Row_addWord 13 = .ok (.invokevirtual 17, 3) := by decide +kernel
theorem d_Row_addWord_16 : decode b_Row_addWord 16 = .ok (.aload_n 0, 1) := by decide +kernel
theorem d_Row_addWord_17 : decode b_Row_addWord 17 = .ok (.iload_n 1, 1) := by decide +kernel
theorem d_Row_addWord_18 : decode b_Row_addWord 18 = .ok (.bipush 8, 2) := by decide +kernel
theorem d_Row_addWord_20 : decode b_Row_addWord 20 = .ok (.iushr, 1) := by decide +kernel
theorem d_Row_addWord_21 : decode b_Row_addWord 21 = .ok (.invokevirtual 17, 3) := by decide +kernel
theorem d_Row_addWord_24 : decode b_Row_addWord 24 = .ok (.aload_n 0, 1) := by decide +kernel
theorem d_Row_addWord_25 : decode b_Row_addWord 25 = .ok (.iload_n 1, 1) := by decide +kernel
theorem d_Row_addWord_26 : decode b_Row_addWord 26 = .ok (.invokevirtual 17, 3) := by decide +kernel
theorem d_Row_addWord_29 : decode b_Row_addWord 29 = .ok (.return_, 1) := by decide +kernel
theorem d_Row_become_0 : decode b_Row_become 0 = .ok (.aload_n 0, 1) := by decide +kernel
theorem d_Row_become_1 : decode b_Row_become 1 = .ok (.iload_n 2, 1) := by decide +kernel
theorem d_Row_become_2 : decode b_Row_become 2 = .ok (.aload_n 0, 1) := by decide +kernel
theorem d_Row_become_3 : decode b_Row_become 3 = .ok (.getfield 7, 3) := by decide +kernel
theorem d_Row_become_6 : decode b_Row_become 6 = .ok (.arraylength, 1) := by decide +kernel
theorem d_Row_become_7 : decode b_Row_become 7 = .ok (.invokestatic 21, 3) := by decide +kernel
theorem d_Row_become_10 : decode b_Row_become 10 = .ok (.putfield 13, 3) := by decide +kernel
theorem d_Row_become_13 : decode b_Row_become 13 = .ok (.aload_n 1, 1) := by decide +kernel
theorem d_Row_become_14 : decode b_Row_become 14 = .ok (.iconst 0, 1) := by decide +kernel
theorem d_Row_become_15 : decode b_Row_become 15 = .ok (.aload_n 0, 1) := by decide +kernel
theorem d_Row_become_16 : decode b_Row_become 16 = .ok (.getfield 7, 3) := by decide +kernel
theorem d_Row_become_19 : decode b_Row_become 19 = .ok (.iconst 0, 1) := by decide +kernel
theorem d_Row_become_20 : decode b_Row_become 20 = .ok (.aload_n 0, 1) := by decide +kernel
theorem d_Row_become_21 : decode b_Row_become 21 = .ok (.getfield 13, 3) := by decide +kernel
theorem d_Row_become_24 : decode b_Row_become 24 = .ok (.invokestatic 27, 3) := by decide +kernel
theorem d_Row_become_27 : decode b_Row_become 27 = .ok (.return_, 1) := by decide +kernel
end
section
theorem d_Sha_init_0 : decode b_Sha_init 0 = .ok (.aload_n 0, 1) := by decide +kernel
theorem d_Sha_init_1 : decode b_Sha_init 1 = .ok (.invokespecial 3, 3) := by decide +kernel
theorem d_Sha_init_4 : decode b_Sha_init 4 = .ok (.aload_n 0, 1) := by decide +kernel
theorem d_Sha_init_5 : decode b_Sha_init 5 = .ok (.bipush 8, 2) := by decide +kernel
theorem d_Sha_init_7 : decode b_Sha_init 7 = .ok (.newarray .int, 2) := by decide +kernel
theorem d_Sha_init_9 : decode b_Sha_init 9 = .ok (.putfield 9, 3) := by decide +kernel
theorem d_Sha_init_12 : decode b_Sha_init 12 = .ok (.aload_n 0, 1) := by decide +kernel
theorem d_Sha_init_13 : decode b_Sha_init 13 = .ok (.bipush 64, 2) := by decide +kernel
theorem d_Sha_init_15 : decode b_Sha_init 15 = .ok (.newarray .int, 2) := by decide +kernel
theorem d_Sha_init_17 : decode b_Sha_init 17 = .ok (.putfield 15, 3) := by decide +kernel
theorem d_Sha_init_20 : decode b_Sha_init 20 = .ok (.return_, 1) := by decide +kernel
theorem d_Sha_hash_0 : decode b_Sha_hash 0 = .ok (.aload_n 0, 1) := by decide +kernel
theorem d_Sha_hash_1 : decode b_Sha_hash 1 = .ok (.aload_n 1, 1) := by decide +kernel
theorem d_Sha_hash_2 : decode b_Sha_hash 2 = .ok (.iload_n 2, 1) := by decide +kernel
theorem d_Sha_hash_3 : decode b_Sha_hash 3 = .ok (.iload_n 3, 1) := by decide +kernel
theorem d_Sha_hash_4 : decode b_Sha_hash 4 = .ok (.aload 4, 2) := by decide +kernel
theorem d_Sha_hash_6 : decode b_Sha_hash 6 = .ok (.iload 5, 2) := by decide +kernel
theorem d_Sha_hash_8 : decode b_Sha_hash 8 = .ok (.invokevirtual 18, 3) := by decide +kernel
theorem d_Sha_hash_11 : decode b_Sha_hash 11 = .ok (.aload_n 0, 1) := by decide +kernel
theorem d_Sha_hash_12 : decode b_Sha_hash 12 = .ok (.aload 4, 2) := by decide +kernel
theorem d_Sha_hash_14 : decode b_Sha_hash 14 = .ok (.iload 5, 2) := by decide +kernel
theorem d_Sha_hash_16 : decode b_Sha_hash 16 = .ok (.bipush 32, 2) := by decide +kernel
theorem d_Sha_hash_18 : decode b_Sha_hash 18 = .ok (.aload 4, 2) := by decide +kernel
theorem d_Sha_hash_20 : decode b_Sha_hash 20 = .ok (.iload 5, 2) := by decide +kernel
theorem d_Sha_hash_22 : decode b_Sha_hash 22 = .ok (.invokevirtual 18, 3) := by decide +kernel
theorem d_Sha_hash_25 : decode b_Sha_hash 25 = .ok (.return_, 1) := by decide +kernel
theorem d_Sha_digest_0 : decode b_Sha_digest 0 = .ok (.getstatic 22, 3) := by decide +kernel
theorem d_Sha_digest_3 : decode b_Sha_digest 3 = .ok (.iconst 0, 1) := by decide +kernel
theorem d_Sha_digest_4 : decode b_Sha_digest 4 = .ok (.aload_n 0, 1) := by decide +kernel
theorem d_Sha_digest_5 : decode b_Sha_digest 5 = .ok (.getfield 9, 3) := by decide +kernel
theorem d_Sha_digest_8 : decode b_Sha_digest 8 = .ok (.iconst 0, 1) := by decide +kernel
theorem d_Sha_digest_9 : decode b_Sha_digest 9 = .ok (.aload_n 0, 1) := by decide +kernel
theorem d_Sha_digest_10 : decode b_Sha_digest 10 = .ok (.getfield 9, 3) := by decide +kernel
theorem d_Sha_digest_13 : decode b_Sha_digest 13 = .ok (.arraylength, 1) := by decide +kernel
theorem d_Sha_digest_14 : decode b_Sha_digest 14 = .ok (.invokestatic 25, 3) := by decide +kernel
theorem d_Sha_digest_17 : decode b_Sha_digest 17 = .ok (.iload_n 3, 1) := by decide +kernel
theorem d_Sha_digest_18 : decode b_Sha_digest 18 = .ok (.bipush 8, 2) := by decide +kernel
theorem d_Sha_digest_20 : decode b_Sha_digest 20 = .ok (.iadd, 1) := by decide +kernel
theorem d_Sha_digest_21 : decode b_Sha_digest 21 = .ok (.bipush 64, 2) := by decide +kernel
theorem d_Sha_digest_23 : decode b_Sha_digest 23 = .ok (.idiv, 1) := by decide +kernel
theorem d_Sha_digest_24 : decode b_Sha_digest 24 = .ok (.istore 6, 2) := by decide +kernel
theorem d_Sha_digest_26 : decode b_Sha_digest 26 = .ok (.iconst 0, 1) := by decide +kernel
theorem d_Sha_digest_27 : decode b_Sha_digest 27 = .ok (.istore 7, 2) := by decide +kernel
theorem d_Sha_digest_29 : decode b_Sha_digest 29 = .ok (.iload 7, 2) := by decide +kernel
theorem d_Sha_digest_31 : decode b_Sha_digest 31 = .ok (.iload 6, 2) := by decide +kernel
theorem d_Sha_digest_33 : decode b_Sha_digest 33 = .ok (.if_icmp .gt 44, 3) := by decide +kernel
theorem d_Sha_digest_36 : decode b_Sha_digest 36 = .ok (.aload_n 0, 1) := by decide +kernel
theorem d_Sha_digest_37 : decode b_Sha_digest 37 = .ok (.aload_n 1, 1) := by decide +kernel
theorem d_Sha_digest_38 : decode b_Sha_digest 38 = .ok (.iload_n 2, 1) := by decide +kernel
theorem d_Sha_digest_39 : decode b_Sha_digest 39 = .ok (.iload_n 3, 1) := by decide +kernel
theorem d_Sha_digest_40 : decode b_Sha_digest 40 = .ok (.iload 7, 2) := by decide +kernel
theorem d_Sha_digest_42 : decode b_Sha_digest 42 = .ok (.invokevirtual 31, 3) := by decide +kernel
theorem d_Sha_digest_45 : decode b_Sha_digest 45 = .ok (.iload 7, 2) := by decide +kernel
theorem d_Sha_digest_47 : decode b_Sha_digest 47 = .ok (.iload 6, 2) := by decide +kernel
theorem d_Sha_digest_49 : decode b_Sha_digest 49 = .ok (.if_icmp .ne 14, 3) := by decide +kernel
theorem d_Sha_digest_52 : decode b_Sha_digest 52 = .ok (.aload_n 0, 1) := by decide +kernel
theorem d_Sha_digest_53 : decode b_Sha_digest 53 = .ok (.getfield 15, 3) := by decide +kernel
theorem d_Sha_digest_56 : decode b_Sha_digest 56 = .ok (.bipush 15, 2) := by decide +kernel
theorem d_Sha_digest_58 : decode b_Sha_digest 58 = .ok (.iload_n 3, 1) := by decide +kernel
theorem d_Sha_digest_59 : decode b_Sha_digest 59 = .ok (.bipush 8, 2) := by decide +kernel
theorem d_Sha_digest_61 : decode b_Sha_digest 61 = .ok (.imul, 1) := by decide +kernel
theorem d_Sha_digest_62 : decode b_Sha_digest 62 = .ok (.iastore, 1) := by decide +kernel
theorem d_Sha_digest_63 : decode b_Sha_digest 63 = .ok (.aload_n 0, 1) := by decide +kernel
theorem d_Sha_digest_64 : decode b_Sha_digest 64 = .ok (.invokevirtual 35, 3) := by decide +kernel
theorem d_Sha_digest_67 : decode b_Sha_digest 67 = .ok (.aload_n 0, 1) := by decide +kernel
theorem d_Sha_digest_68 : decode b_Sha_digest 68 = .ok (.invokevirtual 38, 3) := by decide +kernel
theorem d_Sha_digest_71 : decode b_Sha_digest 71 = .ok (.iinc 7 1, 3) := by decide +kernel
theorem d_Sha_digest_74 : decode b_Sha_digest 74 = .ok (.goto (-45), 3) := by decide +kernel
theorem d_Sha_digest_77 : decode b_Sha_digest 77 = .ok (.iconst 0, 1) := by decide +kernel
theorem d_Sha_digest_78 : decode b_Sha_digest 78 = .ok (.istore 7, 2) := by decide +kernel
theorem d_Sha_digest_80 : decode b_Sha_digest 80 = .ok (.iload 7, 2) := by decide +kernel
theorem d_Sha_digest_82 : decode b_Sha_digest 82 = .ok (.bipush 32, 2) := by decide +kernel
theorem d_Sha_digest_84 : decode b_Sha_digest 84 = .ok (.if_icmp .ge 38, 3) := by decide +kernel
theorem d_Sha_digest_87 : decode b_Sha_digest 87 = .ok (.aload 4, 2) := by decide +kernel
theorem d_Sha_digest_89 : decode b_Sha_digest 89 = .ok (.iload 5, 2) := by decide +kernel
theorem d_Sha_digest_91 : decode b_Sha_digest 91 = .ok (.iload 7, 2) := by decide +kernel
theorem d_Sha_digest_93 : decode b_Sha_digest 93 = .ok (.iadd, 1) := by decide +kernel
theorem d_Sha_digest_94 : decode b_Sha_digest 94 = .ok (.aload_n 0, 1) := by decide +kernel
theorem d_Sha_digest_95 : decode b_Sha_digest 95 = .ok (.getfield 9, 3) := by decide +kernel
theorem d_Sha_digest_98 : decode b_Sha_digest 98 = .ok (.iload 7, 2) := by decide +kernel
theorem d_Sha_digest_100 : decode b_Sha_digest 100 = .ok (.iconst 4, 1) := by decide +kernel
theorem d_Sha_digest_101 : decode b_Sha_digest 101 = .ok (.idiv, 1) := by decide +kernel
theorem d_Sha_digest_102 : decode b_Sha_digest 102 = .ok (.iaload, 1) := by decide +kernel
theorem d_Sha_digest_103 : decode b_Sha_digest 103 = .ok (.bipush 24, 2) := by decide +kernel
theorem d_Sha_digest_105 : decode b_Sha_digest 105 = .ok (.iload 7, 2) := by decide +kernel
theorem d_Sha_digest_107 : decode b_Sha_digest 107 = .ok (.iconst 4, 1) := by decide +kernel
theorem d_Sha_digest_108 : decode b_Sha_digest 108 = .ok (.irem, 1) := by decide +kernel
theorem d_Sha_digest_109 : decode b_Sha_digest 109 = .ok (.bipush 8, 2) := by decide +kernel
theorem d_Sha_digest_111 : decode b_Sha_digest 111 = .ok (.imul, 1) := by decide +kernel
theorem d_Sha_digest_112 : decode b_Sha_digest 112 = .ok (.isub, 1) := by decide +kernel
theorem d_Sha_digest_113 : decode b_Sha_digest 113 = .ok (.iushr, 1) := by decide +kernel
theorem d_Sha_digest_114 : decode b_Sha_digest 114 = .ok (.i2b, 1) := by decide +kernel
theorem d_Sha_digest_115 : decode b_Sha_digest 115 = .ok (.bastore, 1) := by decide +kernel
theorem d_Sha_digest_116 : decode b_Sha_digest 116 = .ok (.iinc 7 1, 3) := by decide +kernel
theorem d_Sha_digest_119 : decode b_Sha_digest 119 = .ok (.goto (-39), 3) := by decide +kernel
theorem d_Sha_digest_122 : decode b_Sha_digest 122 = .ok (.return_, 1) := by decide +kernel
theorem d_Sha_loadWords_0 : decode b_Sha_loadWords 0 = .ok (.iconst 0, 1) := by decide +kernel
theorem d_Sha_loadWords_1 : decode b_Sha_loadWords 1 = .ok (.istore 5, 2) := by decide +kernel
theorem d_Sha_loadWords_3 : decode b_Sha_loadWords 3 = .ok (.iload 5, 2) := by decide +kernel
theorem d_Sha_loadWords_5 : decode b_Sha_loadWords 5 = .ok (.bipush 64, 2) := by decide +kernel
theorem d_Sha_loadWords_7 : decode b_Sha_loadWords 7 = .ok (.if_icmp .ge 81, 3) := by decide +kernel
theorem d_Sha_loadWords_10 : decode b_Sha_loadWords 10 = .ok (.iload 4, 2) := by decide +kernel
theorem d_Sha_loadWords_12 : decode b_Sha_loadWords 12 = .ok (.bipush 64, 2) := by decide +kernel
theorem d_Sha_loadWords_14 : decode b_Sha_loadWords 14 = .ok (.imul, 1) := by decide +kernel
theorem d_Sha_loadWords_15 : decode b_Sha_loadWords 15 = .ok (.iload 5, 2) := by decide +kernel
theorem d_Sha_loadWords_17 : decode b_Sha_loadWords 17 = .ok (.iadd, 1) := by decide +kernel
theorem d_Sha_loadWords_18 : decode b_Sha_loadWords 18 = .ok (.istore 6, 2) := by decide +kernel
theorem d_Sha_loadWords_20 : decode b_Sha_loadWords 20 = .ok (.iload 6, 2) := by decide +kernel
theorem d_Sha_loadWords_22 : decode b_Sha_loadWords 22 = .ok (.iload_n 3, 1) := by decide +kernel
theorem d_Sha_loadWords_23 : decode b_Sha_loadWords 23 = .ok (.if_icmp .ne 9, 3) := by decide +kernel
theorem d_Sha_loadWords_26 : decode b_Sha_loadWords 26 = .ok (.sipush 128, 3) := by decide +kernel
theorem d_Sha_loadWords_29 : decode b_Sha_loadWords 29 = .ok (.goto 4, 3) := by decide +kernel
theorem d_Sha_loadWords_32 : decode b_Sha_loadWords 32 = .ok (.iconst 0, 1) := by decide +kernel
theorem d_Sha_loadWords_33 : decode b_Sha_loadWords 33 = .ok (.istore 7, 2) := by decide +kernel
theorem d_Sha_loadWords_35 : decode b_Sha_loadWords 35 = .ok (.iload 6, 2) := by decide +kernel
theorem d_Sha_loadWords_37 : decode b_Sha_loadWords 37 = .ok (.iload_n 3, 1) := by decide +kernel
theorem d_Sha_loadWords_38 : decode b_Sha_loadWords 38 = .ok (.if_icmp .ge 16, 3) := by decide +kernel
theorem d_Sha_loadWords_41 : decode b_Sha_loadWords 41 = .ok (.aload_n 1, 1) := by decide +kernel
theorem d_Sha_loadWords_42 : decode b_Sha_loadWords 42 = .ok (.iload_n 2, 1) := by decide +kernel
theorem d_Sha_loadWords_43 : decode b_Sha_loadWords 43 = .ok (.iload 6, 2) := by decide +kernel
theorem d_Sha_loadWords_45 : decode b_Sha_loadWords 45 = .ok (.iadd, 1) := by decide +kernel
theorem d_Sha_loadWords_46 : decode b_Sha_loadWords 46 = .ok (.baload, 1) := by decide +kernel
theorem d_Sha_loadWords_47 : decode b_Sha_loadWords 47 = .ok (.sipush 255, 3) := by decide +kernel
theorem d_Sha_loadWords_50 : decode b_Sha_loadWords 50 = .ok (.iand, 1) := by decide +kernel
theorem d_Sha_loadWords_51 : decode b_Sha_loadWords 51 = .ok (.goto 5, 3) := by decide +kernel
theorem d_Sha_loadWords_54 : decode b_Sha_loadWords 54 = .ok (.iload 7, 2) := by decide +kernel
theorem d_Sha_loadWords_56 : decode b_Sha_loadWords 56 = .ok (.istore 8, 2) := by decide +kernel
theorem d_Sha_loadWords_58 : decode b_Sha_loadWords 58 = .ok (.aload_n 0, 1) := by decide +kernel
theorem d_Sha_loadWords_59 : decode b_Sha_loadWords 59 = .ok (.getfield 15, 3) := by decide +kernel
theorem d_Sha_loadWords_62 : decode b_Sha_loadWords 62 = .ok (.iload 5, 2) := by decide +kernel
theorem d_Sha_loadWords_64 : decode b_Sha_loadWords 64 = .ok (.iconst 4, 1) := by decide +kernel
theorem d_Sha_loadWords_65 : decode b_Sha_loadWords 65 = .ok (.idiv, 1) := by decide +kernel
theorem d_Sha_loadWords_66 : decode b_Sha_loadWords 66 = .ok (.aload_n 0, 1) := by decide +kernel
theorem d_Sha_loadWords_67 : decode b_Sha_loadWords 67 = .ok (.getfield 15, 3) := by decide +kernel
theorem d_Sha_loadWords_70 : decode b_Sha_loadWords 70 = .ok (.iload 5, 2) := by decide +kernel
theorem d_Sha_loadWords_72 : decode b_Sha_loadWords 72 = .ok (.iconst 4, 1) := by decide +kernel
theorem d_Sha_loadWords_73 : decode b_Sha_loadWords 73 = .ok (.idiv, 1) := by decide +kernel
theorem d_Sha_loadWords_74 : decode b_Sha_loadWords 74 = .ok (.iaload, 1) := by decide +kernel
theorem d_Sha_loadWords_75 : decode b_Sha_loadWords 75 = .ok (.bipush 8, 2) := by decide +kernel
theorem d_Sha_loadWords_77 : decode b_Sha_loadWords 77 = .ok (.ishl, 1) := by decide +kernel
theorem d_Sha_loadWords_78 : decode b_Sha_loadWords 78 = .ok (.iload 8, 2) := by decide +kernel
theorem d_Sha_loadWords_80 : decode b_Sha_loadWords 80 = .ok (.ior, 1) := by decide +kernel
theorem d_Sha_loadWords_81 : decode b_Sha_loadWords 81 = .ok (.iastore, 1) := by decide +kernel
theorem d_Sha_loadWords_82 : decode b_Sha_loadWords 82 = .ok (.iinc 5 1, 3) := by decide +kernel
theorem d_Sha_loadWords_85 : decode b_Sha_loadWords 85 = .ok (.goto (-82), 3) := by decide +kernel
theorem d_Sha_loadWords_88 : decode b_Sha_loadWords 88 = .ok (.return_, 1) := by decide +kernel
theorem d_Sha_extendWords_0 : decode b_Sha_extendWords 0 = .ok (.bipush 16, 2) := by decide +kernel
theorem d_Sha_extendWords_2 : decode b_Sha_extendWords 2 = .ok (.istore_n 1, 1) := by decide +kernel
theorem d_Sha_extendWords_3 : decode b_Sha_extendWords 3 = .ok (.iload_n 1, 1) := by decide +kernel
theorem d_Sha_extendWords_4 : decode b_Sha_extendWords 4 = .ok (.bipush 64, 2) := by decide +kernel
theorem d_Sha_extendWords_6 : decode b_Sha_extendWords 6 = .ok (.if_icmp .ge 110, 3) := by decide +kernel
theorem d_Sha_extendWords_9 : decode b_Sha_extendWords 9 = .ok (.aload_n 0, 1) := by decide +kernel
theorem d_Sha_extendWords_10 : decode b_Sha_extendWords 10 = .ok (.getfield 15, 3) := by decide +kernel
theorem d_Sha_extendWords_13 : decode b_Sha_extendWords 13 = .ok (.iload_n 1, 1) := by decide +kernel
theorem d_Sha_extendWords_14 : decode b_Sha_extendWords 14 = .ok (.bipush 15, 2) := by decide +kernel
theorem d_Sha_extendWords_16 : decode b_Sha_extendWords 16 = .ok (.isub, 1) := by decide +kernel
theorem d_Sha_extendWords_17 : decode b_Sha_extendWords 17 = .ok (.iaload, 1) := by decide +kernel
theorem d_Sha_extendWords_18 : decode b_Sha_extendWords 18 = .ok (.istore_n 2, 1) := by decide +kernel
theorem d_Sha_extendWords_19 : decode b_Sha_extendWords 19 = .ok (.aload_n 0, 1) := by decide +kernel
theorem d_Sha_extendWords_20 : decode b_Sha_extendWords 20 = .ok (.getfield 15, 3) := by decide +kernel
theorem d_Sha_extendWords_23 : decode b_Sha_extendWords 23 = .ok (.iload_n 1, 1) := by decide +kernel
theorem d_Sha_extendWords_24 : decode b_Sha_extendWords 24 = .ok (.iconst 2, 1) := by decide +kernel
theorem d_Sha_extendWords_25 : decode b_Sha_extendWords 25 = .ok (.isub, 1) := by decide +kernel
theorem d_Sha_extendWords_26 : decode b_Sha_extendWords 26 = .ok (.iaload, 1) := by decide +kernel
theorem d_Sha_extendWords_27 : decode b_Sha_extendWords 27 = .ok (.istore_n 3, 1) := by decide +kernel
theorem d_Sha_extendWords_28 : decode b_Sha_extendWords 28 = .ok (.iload_n 2, 1) := by decide +kernel
theorem d_Sha_extendWords_29 : decode b_Sha_extendWords 29 = .ok (.bipush 7, 2) := by decide +kernel
theorem d_Sha_extendWords_31 : decode b_Sha_extendWords 31 = .ok (.iushr, 1) := by decide +kernel
theorem d_Sha_extendWords_32 : decode b_Sha_extendWords 32 = .ok (.iload_n 2, 1) := by decide +kernel
theorem d_Sha_extendWords_33 : decode b_Sha_extendWords 33 = .ok (.bipush 25, 2) := by decide +kernel
theorem d_Sha_extendWords_35 : decode b_Sha_extendWords 35 = .ok (.ishl, 1) := by decide +kernel
theorem d_Sha_extendWords_36 : decode b_Sha_extendWords 36 = .ok (.ior, 1) := by decide +kernel
theorem d_Sha_extendWords_37 : decode b_Sha_extendWords 37 = .ok (.iload_n 2, 1) := by decide +kernel
theorem d_Sha_extendWords_38 : decode b_Sha_extendWords 38 = .ok (.bipush 18, 2) := by decide +kernel
theorem d_Sha_extendWords_40 : decode b_Sha_extendWords 40 = .ok (.iushr, 1) := by decide +kernel
theorem d_Sha_extendWords_41 : decode b_Sha_extendWords 41 = .ok (.iload_n 2, 1) := by decide +kernel
theorem d_Sha_extendWords_42 : decode b_Sha_extendWords 42 = .ok (.bipush 14, 2) := by decide +kernel
theorem d_Sha_extendWords_44 : decode b_Sha_extendWords 44 = .ok (.ishl, 1) := by decide +kernel
theorem d_Sha_extendWords_45 : decode b_Sha_extendWords 45 = .ok (.ior, 1) := by decide +kernel
theorem d_Sha_extendWords_46 : decode b_Sha_extendWords 46 = .ok (.ixor, 1) := by decide +kernel
theorem d_Sha_extendWords_47 : decode b_Sha_extendWords 47 = .ok (.iload_n 2, 1) := by decide +kernel
theorem d_Sha_extendWords_48 : decode b_Sha_extendWords 48 = .ok (.iconst 3, 1) := by decide +kernel
theorem d_Sha_extendWords_49 : decode b_Sha_extendWords 49 = .ok (.iushr, 1) := by decide +kernel
theorem d_Sha_extendWords_50 : decode b_Sha_extendWords 50 = .ok (.ixor, 1) := by decide +kernel
theorem d_Sha_extendWords_51 : decode b_Sha_extendWords 51 = .ok (.istore 4, 2) := by decide +kernel
theorem d_Sha_extendWords_53 : decode b_Sha_extendWords 53 = .ok (.iload_n 3, 1) := by decide +kernel
theorem d_Sha_extendWords_54 : decode b_Sha_extendWords 54 = .ok (.bipush 17, 2) := by decide +kernel
theorem d_Sha_extendWords_56 : decode b_Sha_extendWords 56 = .ok (.iushr, 1) := by decide +kernel
theorem d_Sha_extendWords_57 : decode b_Sha_extendWords 57 = .ok (.iload_n 3, 1) := by decide +kernel
theorem d_Sha_extendWords_58 : decode b_Sha_extendWords 58 = .ok (.bipush 15, 2) := by decide +kernel
theorem d_Sha_extendWords_60 : decode b_Sha_extendWords 60 = .ok (.ishl, 1) := by decide +kernel
theorem d_Sha_extendWords_61 : decode b_Sha_extendWords 61 = .ok (.ior, 1) := by decide +kernel
theorem d_Sha_extendWords_62 : decode b_Sha_extendWords 62 = .ok (.iload_n 3, 1) := by decide +kernel
theorem d_Sha_extendWords_63 : decode b_Sha_extendWords 63 = .ok (.bipush 19, 2) := by decide +kernel
theorem d_Sha_extendWords_65 : decode b_Sha_extendWords 65 = .ok (.iushr, 1) := by decide +kernel
theorem d_Sha_extendWords_66 : decode b_Sha_extendWords 66 = .ok (.iload_n 3, 1) := by decide +kernel
theorem d_Sha_extendWords_67 : decode b_Sha_extendWords 67 = .ok (.bipush 13, 2) := by decide +kernel
theorem d_Sha_extendWords_69 : decode b_Sha_extendWords 69 = .ok (.ishl, 1) := by decide +kernel
theorem d_Sha_extendWords_70 : decode b_Sha_extendWords 70 = .ok (.ior, 1) := by decide +kernel
theorem d_Sha_extendWords_71 : decode b_Sha_extendWords 71 = .ok (.ixor, 1) := by decide +kernel
theorem d_Sha_extendWords_72 : decode b_Sha_extendWords 72 = .ok (.iload_n 3, 1) := by decide +kernel
theorem d_Sha_extendWords_73 : decode b_Sha_extendWords 73 = .ok (.bipush 10, 2) := by decide +kernel
theorem d_Sha_extendWords_75 : decode b_Sha_extendWords 75 = .ok (.iushr, 1) := by decide +kernel
theorem d_Sha_extendWords_76 : decode b_Sha_extendWords 76 = .ok (.ixor, 1) := by decide +kernel
theorem d_Sha_extendWords_77 : decode b_Sha_extendWords 77 = .ok (.istore 5, 2) := by decide +kernel
theorem d_Sha_extendWords_79 : decode b_Sha_extendWords 79 = .ok (.aload_n 0, 1) := by decide +kernel
theorem d_Sha_extendWords_80 : decode b_Sha_extendWords 80 = .ok (.getfield 15, 3) := by decide +kernel
theorem d_Sha_extendWords_83 : decode b_Sha_extendWords 83 = .ok (.iload_n 1, 1) := by decide +kernel
theorem d_Sha_extendWords_84 : decode b_Sha_extendWords 84 = .ok (.aload_n 0, 1) := by decide +kernel
theorem d_Sha_extendWords_85 : decode b_Sha_extendWords 85 = .ok (.getfield 15, 3) := by decide +kernel
theorem d_Sha_extendWords_88 : decode b_Sha_extendWords 88 = .ok (.iload_n 1, 1) := by decide +kernel
theorem d_Sha_extendWords_89 : decode b_Sha_extendWords 89 = .ok (.bipush 16, 2) := by decide +kernel
theorem d_Sha_extendWords_91 : decode b_Sha_extendWords 91 = .ok (.isub, 1) := by decide +kernel
theorem d_Sha_extendWords_92 : decode b_Sha_extendWords 92 = .ok (.iaload, 1) := by decide +kernel
theorem d_Sha_extendWords_93 : decode b_Sha_extendWords 93 = .ok (.iload 4, 2) := by decide +kernel
theorem d_Sha_extendWords_95 : decode b_Sha_extendWords 95 = .ok (.iadd, 1) := by decide +kernel
theorem d_Sha_extendWords_96 : decode b_Sha_extendWords 96 = .ok (.aload_n 0, 1) := by decide +kernel
theorem d_Sha_extendWords_97 : decode b_Sha_extendWords 97 = .ok (.getfield 15, 3) := by decide +kernel
theorem d_Sha_extendWords_100 : decode b_Sha_extendWords 100 = .ok (.iload_n 1, 1) := by decide +kernel
theorem d_Sha_extendWords_101 : decode b_Sha_extendWords 101 = .ok (.bipush 7, 2) := by decide +kernel
theorem d_Sha_extendWords_103 : decode b_Sha_extendWords 103 = .ok (.isub, 1) := by decide +kernel
theorem d_Sha_extendWords_104 : decode b_Sha_extendWords 104 = .ok (.iaload, 1) := by decide +kernel
theorem d_Sha_extendWords_105 : decode b_Sha_extendWords 105 = .ok (.iadd, 1) := by decide +kernel
theorem d_Sha_extendWords_106 : decode b_Sha_extendWords 106 = .ok (.iload 5, 2) := by decide +kernel
theorem d_Sha_extendWords_108 : decode b_Sha_extendWords 108 = .ok (.iadd, 1) := by decide +kernel
theorem d_Sha_extendWords_109 : decode b_Sha_extendWords 109 = .ok (.iastore, 1) := by decide +kernel
theorem d_Sha_extendWords_110 : decode b_Sha_extendWords 110 = .ok (.iinc 1 1, 3) := by decide +kernel
theorem d_Sha_extendWords_113 : decode b_Sha_extendWords 113 = .ok (.goto (-110), 3) := by decide +kernel
theorem d_Sha_extendWords_116 : decode b_Sha_extendWords 116 = .ok (.return_, 1) := by decide +kernel
theorem d_Sha_mixWords_0 : decode b_Sha_mixWords 0 = .ok (.aload_n 0, 1) := by decide +kernel
theorem d_Sha_mixWords_1 : decode b_Sha_mixWords 1 = .ok (.getfield 9, 3) := by decide +kernel
theorem d_Sha_mixWords_4 : decode b_Sha_mixWords 4 = .ok (.iconst 0, 1) := by decide +kernel
theorem d_Sha_mixWords_5 : decode b_Sha_mixWords 5 = .ok (.iaload, 1) := by decide +kernel
theorem d_Sha_mixWords_6 : decode b_Sha_mixWords 6 = .ok (.istore_n 1, 1) := by decide +kernel
theorem d_Sha_mixWords_7 : decode b_Sha_mixWords 7 = .ok (.aload_n 0, 1) := by decide +kernel
theorem d_Sha_mixWords_8 : decode b_Sha_mixWords 8 = .ok (.getfield 9, 3) := by decide +kernel
theorem d_Sha_mixWords_11 : decode b_Sha_mixWords 11 = .ok (.iconst 1, 1) := by decide +kernel
theorem d_Sha_mixWords_12 : decode b_Sha_mixWords 12 = .ok (.iaload, 1) := by decide +kernel
theorem d_Sha_mixWords_13 : decode b_Sha_mixWords 13 = .ok (.istore_n 2, 1) := by decide +kernel
theorem d_Sha_mixWords_14 : decode b_Sha_mixWords 14 = .ok (.aload_n 0, 1) := by decide +kernel
theorem d_Sha_mixWords_15 : decode b_Sha_mixWords 15 = .ok (.getfield 9, 3) := by decide +kernel
theorem d_Sha_mixWords_18 : decode b_Sha_mixWords 18 = .ok (.iconst 2, 1) := by decide +kernel
theorem d_Sha_mixWords_19 : decode b_Sha_mixWords 19 = .ok (.iaload, 1) := by decide +kernel
theorem d_Sha_mixWords_20 : decode b_Sha_mixWords 20 = .ok (.istore_n 3, 1) := by decide +kernel
theorem d_Sha_mixWords_21 : decode b_Sha_mixWords 21 = .ok (.aload_n 0, 1) := by decide +kernel
theorem d_Sha_mixWords_22 : decode b_Sha_mixWords 22 = .ok (.getfield 9, 3) := by decide +kernel
theorem d_Sha_mixWords_25 : decode b_Sha_mixWords 25 = .ok (.iconst 3, 1) := by decide +kernel
theorem d_Sha_mixWords_26 : decode b_Sha_mixWords 26 = .ok (.iaload, 1) := by decide +kernel
theorem d_Sha_mixWords_27 : decode b_Sha_mixWords 27 = .ok (.istore 4, 2) := by decide +kernel
theorem d_Sha_mixWords_29 : decode b_Sha_mixWords 29 = .ok (.aload_n 0, 1) := by decide +kernel
theorem d_Sha_mixWords_30 : decode b_Sha_mixWords 30 = .ok (.getfield 9, 3) := by decide +kernel
theorem d_Sha_mixWords_33 : decode b_Sha_mixWords 33 = .ok (.iconst 4, 1) := by decide +kernel
theorem d_Sha_mixWords_34 : decode b_Sha_mixWords 34 = .ok (.iaload, 1) := by decide +kernel
theorem d_Sha_mixWords_35 : decode b_Sha_mixWords 35 = .ok (.istore 5, 2) := by decide +kernel
theorem d_Sha_mixWords_37 : decode b_Sha_mixWords 37 = .ok (.aload_n 0, 1) := by decide +kernel
theorem d_Sha_mixWords_38 : decode b_Sha_mixWords 38 = .ok (.getfield 9, 3) := by decide +kernel
theorem d_Sha_mixWords_41 : decode b_Sha_mixWords 41 = .ok (.iconst 5, 1) := by decide +kernel
theorem d_Sha_mixWords_42 : decode b_Sha_mixWords 42 = .ok (.iaload, 1) := by decide +kernel
theorem d_Sha_mixWords_43 : decode b_Sha_mixWords 43 = .ok (.istore 6, 2) := by decide +kernel
theorem d_Sha_mixWords_45 : decode b_Sha_mixWords 45 = .ok (.aload_n 0, 1) := by decide +kernel
theorem d_Sha_mixWords_46 : decode b_Sha_mixWords 46 = .ok (.getfield 9, 3) := by decide +kernel
theorem d_Sha_mixWords_49 : decode b_Sha_mixWords 49 = .ok (.bipush 6, 2) := by decide +kernel
theorem d_Sha_mixWords_51 : decode b_Sha_mixWords 51 = .ok (.iaload, 1) := by decide +kernel
theorem d_Sha_mixWords_52 : decode b_Sha_mixWords 52 = .ok (.istore 7, 2) := by decide +kernel
theorem d_Sha_mixWords_54 : decode b_Sha_mixWords 54 = .ok (.aload_n 0, 1) := by decide +kernel
theorem d_Sha_mixWords_55 : decode b_Sha_mixWords 55 = .ok (.getfield 9, 3) := by decide +kernel
theorem d_Sha_mixWords_58 : decode b_Sha_mixWords 58 = .ok (.bipush 7, 2) := by decide +kernel
theorem d_Sha_mixWords_60 : decode b_Sha_mixWords 60 = .ok (.iaload, 1) := by decide +kernel
theorem d_Sha_mixWords_61 : decode b_Sha_mixWords 61 = .ok (.istore 8, 2) := by decide +kernel
theorem d_Sha_mixWords_63 : decode b_Sha_mixWords 63 = .ok (.iconst 0, 1) := by decide +kernel
theorem d_Sha_mixWords_64 : decode b_Sha_mixWords 64 = .ok (.istore 9, 2) := by decide +kernel
theorem d_Sha_mixWords_66 : decode b_Sha_mixWords 66 = .ok (.iload 9, 2) := by decide +kernel
theorem d_Sha_mixWords_68 : decode b_Sha_mixWords 68 = .ok (.bipush 64, 2) := by decide +kernel
theorem d_Sha_mixWords_70 : decode b_Sha_mixWords 70 = .ok (.if_icmp .ge 168, 3) := by decide +kernel
theorem d_Sha_mixWords_73 : decode b_Sha_mixWords 73 = .ok (.iload 5, 2) := by decide +kernel
theorem d_Sha_mixWords_75 : decode b_Sha_mixWords 75 = .ok (.bipush 6, 2) := by decide +kernel
theorem d_Sha_mixWords_77 : decode b_Sha_mixWords 77 = .ok (.iushr, 1) := by decide +kernel
theorem d_Sha_mixWords_78 : decode b_Sha_mixWords 78 = .ok (.iload 5, 2) := by decide +kernel
theorem d_Sha_mixWords_80 : decode b_Sha_mixWords 80 = .ok (.bipush 26, 2) := by decide +kernel
theorem d_Sha_mixWords_82 : decode b_Sha_mixWords 82 = .ok (.ishl, 1) := by decide +kernel
theorem d_Sha_mixWords_83 : decode b_Sha_mixWords 83 = .ok (.ior, 1) := by decide +kernel
theorem d_Sha_mixWords_84 : decode b_Sha_mixWords 84 = .ok (.iload 5, 2) := by decide +kernel
theorem d_Sha_mixWords_86 : decode b_Sha_mixWords 86 = .ok (.bipush 11, 2) := by decide +kernel
theorem d_Sha_mixWords_88 : decode b_Sha_mixWords 88 = .ok (.iushr, 1) := by decide +kernel
theorem d_Sha_mixWords_89 : decode b_Sha_mixWords 89 = .ok (.iload 5, 2) := by decide +kernel
theorem d_Sha_mixWords_91 : decode b_Sha_mixWords 91 = .ok (.bipush 21, 2) := by decide +kernel
theorem d_Sha_mixWords_93 : decode b_Sha_mixWords 93 = .ok (.ishl, 1) := by decide +kernel
theorem d_Sha_mixWords_94 : decode b_Sha_mixWords 94 = .ok (.ior, 1) := by decide +kernel
theorem d_Sha_mixWords_95 : decode b_Sha_mixWords 95 = .ok (.ixor, 1) := by decide +kernel
theorem d_Sha_mixWords_96 : decode b_Sha_mixWords 96 = .ok (.iload 5, 2) := by decide +kernel
theorem d_Sha_mixWords_98 : decode b_Sha_mixWords 98 = .ok (.bipush 25, 2) := by decide +kernel
theorem d_Sha_mixWords_100 : decode b_Sha_mixWords 100 = .ok (.iushr, 1) := by decide +kernel
theorem d_Sha_mixWords_101 : decode b_Sha_mixWords 101 = .ok (.iload 5, 2) := by decide +kernel
theorem d_Sha_mixWords_103 : decode b_Sha_mixWords 103 = .ok (.bipush 7, 2) := by decide +kernel
theorem d_Sha_mixWords_105 : decode b_Sha_mixWords 105 = .ok (.ishl, 1) := by decide +kernel
theorem d_Sha_mixWords_106 : decode b_Sha_mixWords 106 = .ok (.ior, 1) := by decide +kernel
theorem d_Sha_mixWords_107 : decode b_Sha_mixWords 107 = .ok (.ixor, 1) := by decide +kernel
theorem d_Sha_mixWords_108 : decode b_Sha_mixWords 108 = .ok (.istore 10, 2) := by decide +kernel
theorem d_Sha_mixWords_110 : decode b_Sha_mixWords 110 = .ok (.iload 5, 2) := by decide +kernel
theorem d_Sha_mixWords_112 : decode b_Sha_mixWords 112 = .ok (.iload 6, 2) := by decide +kernel
theorem d_Sha_mixWords_114 : decode b_Sha_mixWords 114 = .ok (.iand, 1) := by decide +kernel
theorem d_Sha_mixWords_115 : decode b_Sha_mixWords 115 = .ok (.iload 5, 2) := by decide +kernel
theorem d_Sha_mixWords_117 : decode b_Sha_mixWords 117 = .ok (.iconst (-1), 1) := by decide +kernel
theorem d_Sha_mixWords_118 : decode b_Sha_mixWords 118 = .ok (.ixor, 1) := by decide +kernel
theorem d_Sha_mixWords_119 : decode b_Sha_mixWords 119 = .ok (.iload 7, 2) := by decide +kernel
theorem d_Sha_mixWords_121 : decode b_Sha_mixWords 121 = .ok (.iand, 1) := by decide +kernel
theorem d_Sha_mixWords_122 : decode b_Sha_mixWords 122 = .ok (.ixor, 1) := by decide +kernel
theorem d_Sha_mixWords_123 : decode b_Sha_mixWords 123 = .ok (.istore 11, 2) := by decide +kernel
theorem d_Sha_mixWords_125 : decode b_Sha_mixWords 125 = .ok (.iload 8, 2) := by decide +kernel
theorem d_Sha_mixWords_127 : decode b_Sha_mixWords 127 = .ok (.iload 10, 2) := by decide +kernel
theorem d_Sha_mixWords_129 : decode b_Sha_mixWords 129 = .ok (.iadd, 1) := by decide +kernel
theorem d_Sha_mixWords_130 : decode b_Sha_mixWords 130 = .ok (.iload 11, 2) := by decide +kernel
theorem d_Sha_mixWords_132 : decode b_Sha_mixWords 132 = .ok (.iadd, 1) := by decide +kernel
theorem d_Sha_mixWords_133 : decode b_Sha_mixWords 133 = .ok (.getstatic 41, 3) := by decide +kernel
theorem d_Sha_mixWords_136 : decode b_Sha_mixWords 136 = .ok (.iload 9, 2) := by decide +kernel
theorem d_Sha_mixWords_138 : decode b_Sha_mixWords 138 = .ok (.iaload, 1) := by decide +kernel
theorem d_Sha_mixWords_139 : decode b_Sha_mixWords 139 = .ok (.iadd, 1) := by decide +kernel
theorem d_Sha_mixWords_140 : decode b_Sha_mixWords 140 = .ok (.aload_n 0, 1) := by decide +kernel
theorem d_Sha_mixWords_141 : decode b_Sha_mixWords 141 = .ok (.getfield 15, 3) := by decide +kernel
theorem d_Sha_mixWords_144 : decode b_Sha_mixWords 144 = .ok (.iload 9, 2) := by decide +kernel
theorem d_Sha_mixWords_146 : decode b_Sha_mixWords 146 = .ok (.iaload, 1) := by decide +kernel
theorem d_Sha_mixWords_147 : decode b_Sha_mixWords 147 = .ok (.iadd, 1) := by decide +kernel
theorem d_Sha_mixWords_148 : decode b_Sha_mixWords 148 = .ok (.istore 12, 2) := by decide +kernel
theorem d_Sha_mixWords_150 : decode b_Sha_mixWords 150 = .ok (.iload_n 1, 1) := by decide +kernel
theorem d_Sha_mixWords_151 : decode b_Sha_mixWords 151 = .ok (.iconst 2, 1) := by decide +kernel
theorem d_Sha_mixWords_152 : decode b_Sha_mixWords 152 = .ok (.iushr, 1) := by decide +kernel
theorem d_Sha_mixWords_153 : decode b_Sha_mixWords 153 = .ok (.iload_n 1, 1) := by decide +kernel
theorem d_Sha_mixWords_154 : decode b_Sha_mixWords 154 = .ok (.bipush 30, 2) := by decide +kernel
theorem d_Sha_mixWords_156 : decode b_Sha_mixWords 156 = .ok (.ishl, 1) := by decide +kernel
theorem d_Sha_mixWords_157 : decode b_Sha_mixWords 157 = .ok (.ior, 1) := by decide +kernel
theorem d_Sha_mixWords_158 : decode b_Sha_mixWords 158 = .ok (.iload_n 1, 1) := by decide +kernel
theorem d_Sha_mixWords_159 : decode b_Sha_mixWords 159 = .ok (.bipush 13, 2) := by decide +kernel
theorem d_Sha_mixWords_161 : decode b_Sha_mixWords 161 = .ok (.iushr, 1) := by decide +kernel
theorem d_Sha_mixWords_162 : decode b_Sha_mixWords 162 = .ok (.iload_n 1, 1) := by decide +kernel
theorem d_Sha_mixWords_163 : decode b_Sha_mixWords 163 = .ok (.bipush 19, 2) := by decide +kernel
theorem d_Sha_mixWords_165 : decode b_Sha_mixWords 165 = .ok (.ishl, 1) := by decide +kernel
theorem d_Sha_mixWords_166 : decode b_Sha_mixWords 166 = .ok (.ior, 1) := by decide +kernel
theorem d_Sha_mixWords_167 : decode b_Sha_mixWords 167 = .ok (.ixor, 1) := by decide +kernel
theorem d_Sha_mixWords_168 : decode b_Sha_mixWords 168 = .ok (.iload_n 1, 1) := by decide +kernel
theorem d_Sha_mixWords_169 : decode b_Sha_mixWords 169 = .ok (.bipush 22, 2) := by decide +kernel
theorem d_Sha_mixWords_171 : decode b_Sha_mixWords 171 = .ok (.iushr, 1) := by decide +kernel
theorem d_Sha_mixWords_172 : decode b_Sha_mixWords 172 = .ok (.iload_n 1, 1) := by decide +kernel
theorem d_Sha_mixWords_173 : decode b_Sha_mixWords 173 = .ok (.bipush 10, 2) := by decide +kernel
theorem d_Sha_mixWords_175 : decode b_Sha_mixWords 175 = .ok (.ishl, 1) := by decide +kernel
theorem d_Sha_mixWords_176 : decode b_Sha_mixWords 176 = .ok (.ior, 1) := by decide +kernel
theorem d_Sha_mixWords_177 : decode b_Sha_mixWords 177 = .ok (.ixor, 1) := by decide +kernel
theorem d_Sha_mixWords_178 : decode b_Sha_mixWords 178 = .ok (.istore 13, 2) := by decide +kernel
theorem d_Sha_mixWords_180 : decode b_Sha_mixWords 180 = .ok (.iload_n 1, 1) := by decide +kernel
theorem d_Sha_mixWords_181 : decode b_Sha_mixWords 181 = .ok (.iload_n 2, 1) := by decide +kernel
theorem d_Sha_mixWords_182 : decode b_Sha_mixWords 182 = .ok (.iand, 1) := by decide +kernel
theorem d_Sha_mixWords_183 : decode b_Sha_mixWords 183 = .ok (.iload_n 1, 1) := by decide +kernel
theorem d_Sha_mixWords_184 : decode b_Sha_mixWords 184 = .ok (.iload_n 3, 1) := by decide +kernel
theorem d_Sha_mixWords_185 : decode b_Sha_mixWords 185 = .ok (.iand, 1) := by decide +kernel
theorem d_Sha_mixWords_186 : decode b_Sha_mixWords 186 = .ok (.ixor, 1) := by decide +kernel
theorem d_Sha_mixWords_187 : decode b_Sha_mixWords 187 = .ok (.iload_n 2, 1) := by decide +kernel
theorem d_Sha_mixWords_188 : decode b_Sha_mixWords 188 = .ok (.iload_n 3, 1) := by decide +kernel
theorem d_Sha_mixWords_189 : decode b_Sha_mixWords 189 = .ok (.iand, 1) := by decide +kernel
theorem d_Sha_mixWords_190 : decode b_Sha_mixWords 190 = .ok (.ixor, 1) := by decide +kernel
theorem d_Sha_mixWords_191 : decode b_Sha_mixWords 191 = .ok (.istore 14, 2) := by decide +kernel
theorem d_Sha_mixWords_193 : decode b_Sha_mixWords 193 = .ok (.iload 13, 2) := by decide +kernel
theorem d_Sha_mixWords_195 : decode b_Sha_mixWords 195 = .ok (.iload 14, 2) := by decide +kernel
theorem d_Sha_mixWords_197 : decode b_Sha_mixWords 197 = .ok (.iadd, 1) := by decide +kernel
theorem d_Sha_mixWords_198 : decode b_Sha_mixWords 198 = .ok (.istore 15, 2) := by decide +kernel
theorem d_Sha_mixWords_200 : decode b_Sha_mixWords 200 = .ok (.iload 7, 2) := by decide +kernel
theorem d_Sha_mixWords_202 : decode b_Sha_mixWords 202 = .ok (.istore 8, 2) := by decide +kernel
theorem d_Sha_mixWords_204 : decode b_Sha_mixWords 204 = .ok (.iload 6, 2) := by decide +kernel
theorem d_Sha_mixWords_206 : decode b_Sha_mixWords 206 = .ok (.istore 7, 2) := by decide +kernel
theorem d_Sha_mixWords_208 : decode b_Sha_mixWords 208 = .ok (.iload 5, 2) := by decide +kernel
theorem d_Sha_mixWords_210 : decode b_Sha_mixWords 210 = .ok (.istore 6, 2) := by decide +kernel
theorem d_Sha_mixWords_212 : decode b_Sha_mixWords 212 = .ok (.iload 4, 2) := by decide +kernel
theorem d_Sha_mixWords_214 : decode b_Sha_mixWords 214 = .ok (.iload 12, 2) := by decide +kernel
theorem d_Sha_mixWords_216 : decode b_Sha_mixWords 216 = .ok (.iadd, 1) := by decide +kernel
theorem d_Sha_mixWords_217 : decode b_Sha_mixWords 217 = .ok (.istore 5, 2) := by decide +kernel
theorem d_Sha_mixWords_219 : decode b_Sha_mixWords 219 = .ok (.iload_n 3, 1) := by decide +kernel
theorem d_Sha_mixWords_220 : decode b_Sha_mixWords 220 = .ok (.istore 4, 2) := by decide +kernel
theorem d_Sha_mixWords_222 : decode b_Sha_mixWords 222 = .ok (.iload_n 2, 1) := by decide +kernel
theorem d_Sha_mixWords_223 : decode b_Sha_mixWords 223 = .ok (.istore_n 3, 1) := by decide +kernel
theorem d_Sha_mixWords_224 : decode b_Sha_mixWords 224 = .ok (.iload_n 1, 1) := by decide +kernel
theorem d_Sha_mixWords_225 : decode b_Sha_mixWords 225 = .ok (.istore_n 2, 1) := by decide +kernel
theorem d_Sha_mixWords_226 : decode b_Sha_mixWords 226 = .ok (.iload 12, 2) := by decide +kernel
theorem d_Sha_mixWords_228 : decode b_Sha_mixWords 228 = .ok (.iload 15, 2) := by decide +kernel
theorem d_Sha_mixWords_230 : decode b_Sha_mixWords 230 = .ok (.iadd, 1) := by decide +kernel
theorem d_Sha_mixWords_231 : decode b_Sha_mixWords 231 = .ok (.istore_n 1, 1) := by decide +kernel
theorem d_Sha_mixWords_232 : decode b_Sha_mixWords 232 = .ok (.iinc 9 1, 3) := by decide +kernel
theorem d_Sha_mixWords_235 : decode b_Sha_mixWords 235 = .ok (.goto (-169), 3) := by decide +kernel
theorem d_Sha_mixWords_238 : decode b_Sha_mixWords 238 = .ok (.aload_n 0, 1) := by decide +kernel
theorem d_Sha_mixWords_239 : decode b_Sha_mixWords 239 = .ok (.getfield 9, 3) := by decide +kernel
theorem d_Sha_mixWords_242 : decode b_Sha_mixWords 242 = .ok (.iconst 0, 1) := by decide +kernel
theorem d_Sha_mixWords_243 : decode b_Sha_mixWords 243 = .ok (.dup2, 1) := by decide +kernel
theorem d_Sha_mixWords_244 : decode b_Sha_mixWords 244 = .ok (.iaload, 1) := by decide +kernel
theorem d_Sha_mixWords_245 : decode b_Sha_mixWords 245 = .ok (.iload_n 1, 1) := by decide +kernel
theorem d_Sha_mixWords_246 : decode b_Sha_mixWords 246 = .ok (.iadd, 1) := by decide +kernel
theorem d_Sha_mixWords_247 : decode b_Sha_mixWords 247 = .ok (.iastore, 1) := by decide +kernel
theorem d_Sha_mixWords_248 : decode b_Sha_mixWords 248 = .ok (.aload_n 0, 1) := by decide +kernel
theorem d_Sha_mixWords_249 : decode b_Sha_mixWords 249 = .ok (.getfield 9, 3) := by decide +kernel
theorem d_Sha_mixWords_252 : decode b_Sha_mixWords 252 = .ok (.iconst 1, 1) := by decide +kernel
theorem d_Sha_mixWords_253 : decode b_Sha_mixWords 253 = .ok (.dup2, 1) := by decide +kernel
theorem d_Sha_mixWords_254 : decode b_Sha_mixWords 254 = .ok (.iaload, 1) := by decide +kernel
theorem d_Sha_mixWords_255 : decode b_Sha_mixWords 255 = .ok (.iload_n 2, 1) := by decide +kernel
theorem d_Sha_mixWords_256 : decode b_Sha_mixWords 256 = .ok (.iadd, 1) := by decide +kernel
theorem d_Sha_mixWords_257 : decode b_Sha_mixWords 257 = .ok (.iastore, 1) := by decide +kernel
theorem d_Sha_mixWords_258 : decode b_Sha_mixWords 258 = .ok (.aload_n 0, 1) := by decide +kernel
theorem d_Sha_mixWords_259 : decode b_Sha_mixWords 259 = .ok (.getfield 9, 3) := by decide +kernel
theorem d_Sha_mixWords_262 : decode b_Sha_mixWords 262 = .ok (.iconst 2, 1) := by decide +kernel
theorem d_Sha_mixWords_263 : decode b_Sha_mixWords 263 = .ok (.dup2, 1) := by decide +kernel
theorem d_Sha_mixWords_264 : decode b_Sha_mixWords 264 = .ok (.iaload, 1) := by decide +kernel
theorem d_Sha_mixWords_265 : decode b_Sha_mixWords 265 = .ok (.iload_n 3, 1) := by decide +kernel
theorem d_Sha_mixWords_266 : decode b_Sha_mixWords 266 = .ok (.iadd, 1) := by decide +kernel
theorem d_Sha_mixWords_267 : decode b_Sha_mixWords 267 = .ok (.iastore, 1) := by decide +kernel
theorem d_Sha_mixWords_268 : decode b_Sha_mixWords 268 = .ok (.aload_n 0, 1) := by decide +kernel
theorem d_Sha_mixWords_269 : decode b_Sha_mixWords 269 = .ok (.getfield 9, 3) := by decide +kernel
theorem d_Sha_mixWords_272 : decode b_Sha_mixWords 272 = .ok (.iconst 3, 1) := by decide +kernel
theorem d_Sha_mixWords_273 : decode b_Sha_mixWords 273 = .ok (.dup2, 1) := by decide +kernel
theorem d_Sha_mixWords_274 : decode b_Sha_mixWords 274 = .ok (.iaload, 1) := by decide +kernel
theorem d_Sha_mixWords_275 : decode b_Sha_mixWords 275 = .ok (.iload 4, 2) := by decide +kernel
theorem d_Sha_mixWords_277 : decode b_Sha_mixWords 277 = .ok (.iadd, 1) := by decide +kernel
theorem d_Sha_mixWords_278 : decode b_Sha_mixWords 278 = .ok (.iastore, 1) := by decide +kernel
theorem d_Sha_mixWords_279 : decode b_Sha_mixWords 279 = .ok (.aload_n 0, 1) := by decide +kernel
theorem d_Sha_mixWords_280 : decode b_Sha_mixWords 280 = .ok (.getfield 9, 3) := by decide +kernel
theorem d_Sha_mixWords_283 : decode b_Sha_mixWords 283 = .ok (.iconst 4, 1) := by decide +kernel
theorem d_Sha_mixWords_284 : decode b_Sha_mixWords 284 = .ok (.dup2, 1) := by decide +kernel
theorem d_Sha_mixWords_285 : decode b_Sha_mixWords 285 = .ok (.iaload, 1) := by decide +kernel
theorem d_Sha_mixWords_286 : decode b_Sha_mixWords 286 = .ok (.iload 5, 2) := by decide +kernel
theorem d_Sha_mixWords_288 : decode b_Sha_mixWords 288 = .ok (.iadd, 1) := by decide +kernel
theorem d_Sha_mixWords_289 : decode b_Sha_mixWords 289 = .ok (.iastore, 1) := by decide +kernel
theorem d_Sha_mixWords_290 : decode b_Sha_mixWords 290 = .ok (.aload_n 0, 1) := by decide +kernel
theorem d_Sha_mixWords_291 : decode b_Sha_mixWords 291 = .ok (.getfield 9, 3) := by decide +kernel
theorem d_Sha_mixWords_294 : decode b_Sha_mixWords 294 = .ok (.iconst 5, 1) := by decide +kernel
theorem d_Sha_mixWords_295 : decode b_Sha_mixWords 295 = .ok (.dup2, 1) := by decide +kernel
theorem d_Sha_mixWords_296 : decode b_Sha_mixWords 296 = .ok (.iaload, 1) := by decide +kernel
theorem d_Sha_mixWords_297 : decode b_Sha_mixWords 297 = .ok (.iload 6, 2) := by decide +kernel
theorem d_Sha_mixWords_299 : decode b_Sha_mixWords 299 = .ok (.iadd, 1) := by decide +kernel
theorem d_Sha_mixWords_300 : decode b_Sha_mixWords 300 = .ok (.iastore, 1) := by decide +kernel
theorem d_Sha_mixWords_301 : decode b_Sha_mixWords 301 = .ok (.aload_n 0, 1) := by decide +kernel
theorem d_Sha_mixWords_302 : decode b_Sha_mixWords 302 = .ok (.getfield 9, 3) := by decide +kernel
theorem d_Sha_mixWords_305 : decode b_Sha_mixWords 305 = .ok (.bipush 6, 2) := by decide +kernel
theorem d_Sha_mixWords_307 : decode b_Sha_mixWords 307 = .ok (.dup2, 1) := by decide +kernel
theorem d_Sha_mixWords_308 : decode b_Sha_mixWords 308 = .ok (.iaload, 1) := by decide +kernel
theorem d_Sha_mixWords_309 : decode b_Sha_mixWords 309 = .ok (.iload 7, 2) := by decide +kernel
theorem d_Sha_mixWords_311 : decode b_Sha_mixWords 311 = .ok (.iadd, 1) := by decide +kernel
theorem d_Sha_mixWords_312 : decode b_Sha_mixWords 312 = .ok (.iastore, 1) := by decide +kernel
theorem d_Sha_mixWords_313 : decode b_Sha_mixWords 313 = .ok (.aload_n 0, 1) := by decide +kernel
theorem d_Sha_mixWords_314 : decode b_Sha_mixWords 314 = .ok (.getfield 9, 3) := by decide +kernel
theorem d_Sha_mixWords_317 : decode b_Sha_mixWords 317 = .ok (.bipush 7, 2) := by decide +kernel
theorem d_Sha_mixWords_319 : decode b_Sha_mixWords 319 = .ok (.dup2, 1) := by decide +kernel
theorem d_Sha_mixWords_320 : decode b_Sha_mixWords 320 = .ok (.iaload, 1) := by decide +kernel
theorem d_Sha_mixWords_321 : decode b_Sha_mixWords 321 = .ok (.iload 8, 2) := by decide +kernel
theorem d_Sha_mixWords_323 : decode b_Sha_mixWords 323 = .ok (.iadd, 1) := by decide +kernel
theorem d_Sha_mixWords_324 : decode b_Sha_mixWords 324 = .ok (.iastore, 1) := by decide +kernel
theorem d_Sha_mixWords_325 : decode b_Sha_mixWords 325 = .ok (.return_, 1) := by decide +kernel
theorem d_Sig_init_0 : decode b_Sig_init 0 = .ok (.aload_n 0, 1) := by decide +kernel
theorem d_Sig_init_1 : decode b_Sig_init 1 = .ok (.invokespecial 3, 3) := by decide +kernel
theorem d_Sig_init_4 : decode b_Sig_init 4 = .ok (.aload_n 0, 1) := by decide +kernel
theorem d_Sig_init_5 : decode b_Sig_init 5 = .ok (.new 9, 3) := by decide +kernel
theorem d_Sig_init_8 : decode b_Sig_init 8 = .ok (.dup, 1) := by decide +kernel
theorem d_Sig_init_9 : decode b_Sig_init 9 = .ok (.invokespecial 11, 3) := by decide +kernel
theorem d_Sig_init_12 : decode b_Sig_init 12 = .ok (.putfield 12, 3) := by decide +kernel
theorem d_Sig_init_15 : decode b_Sig_init 15 = .ok (.aload_n 0, 1) := by decide +kernel
theorem d_Sig_init_16 : decode b_Sig_init 16 = .ok (.bipush 32, 2) := by decide +kernel
theorem d_Sig_init_18 : decode b_Sig_init 18 = .ok (.newarray .byte, 2) := by decide +kernel
theorem d_Sig_init_20 : decode b_Sig_init 20 = .ok (.putfield 18, 3) := by decide +kernel
theorem d_Sig_init_23 : decode b_Sig_init 23 = .ok (.aload_n 0, 1) := by decide +kernel
theorem d_Sig_init_24 : decode b_Sig_init 24 = .ok (.bipush 32, 2) := by decide +kernel
theorem d_Sig_init_26 : decode b_Sig_init 26 = .ok (.newarray .byte, 2) := by decide +kernel
theorem d_Sig_init_28 : decode b_Sig_init 28 = .ok (.putfield 22, 3) := by decide +kernel
theorem d_Sig_init_31 : decode b_Sig_init 31 = .ok (.aload_n 0, 1) := by decide +kernel
theorem d_Sig_init_32 : decode b_Sig_init 32 = .ok (.bipush 112, 2) := by decide +kernel
theorem d_Sig_init_34 : decode b_Sig_init 34 = .ok (.newarray .byte, 2) := by decide +kernel
theorem d_Sig_init_36 : decode b_Sig_init 36 = .ok (.putfield 25, 3) := by decide +kernel
theorem d_Sig_init_39 : decode b_Sig_init 39 = .ok (.return_, 1) := by decide +kernel
theorem d_Sig_make_0 : decode b_Sig_make 0 = .ok (.aload_n 1, 1) := by decide +kernel
theorem d_Sig_make_1 : decode b_Sig_make 1 = .ok (.iload_n 2, 1) := by decide +kernel
theorem d_Sig_make_2 : decode b_Sig_make 2 = .ok (.aload_n 0, 1) := by decide +kernel
theorem d_Sig_make_3 : decode b_Sig_make 3 = .ok (.getfield 25, 3) := by decide +kernel
theorem d_Sig_make_6 : decode b_Sig_make 6 = .ok (.iconst 0, 1) := by decide +kernel
theorem d_Sig_make_7 : decode b_Sig_make 7 = .ok (.iload_n 3, 1) := by decide +kernel
theorem d_Sig_make_8 : decode b_Sig_make 8 = .ok (.invokestatic 28, 3) := by decide +kernel
theorem d_Sig_make_11 : decode b_Sig_make 11 = .ok (.aload_n 0, 1) := by decide +kernel
theorem d_Sig_make_12 : decode b_Sig_make 12 = .ok (.getfield 18, 3) := by decide +kernel
theorem d_Sig_make_15 : decode b_Sig_make 15 = .ok (.iconst 0, 1) := by decide +kernel
theorem d_Sig_make_16 : decode b_Sig_make 16 = .ok (.aload_n 0, 1) := by decide +kernel
theorem d_Sig_make_17 : decode b_Sig_make 17 = .ok (.getfield 25, 3) := by decide +kernel
theorem d_Sig_make_20 : decode b_Sig_make 20 = .ok (.iload_n 3, 1) := by decide +kernel
theorem d_Sig_make_21 : decode b_Sig_make 21 = .ok (.bipush 32, 2) := by decide +kernel
theorem d_Sig_make_23 : decode b_Sig_make 23 = .ok (.invokestatic 28, 3) := by decide +kernel
theorem d_Sig_make_26 : decode b_Sig_make 26 = .ok (.aload_n 0, 1) := by decide +kernel
theorem d_Sig_make_27 : decode b_Sig_make 27 = .ok (.getfield 12, 3) := by decide +kernel
theorem d_Sig_make_30 : decode b_Sig_make 30 = .ok (.aload_n 0, 1) := by decide +kernel
theorem d_Sig_make_31 : decode b_Sig_make 31 = .ok (.getfield 25, 3) := by decide +kernel
theorem d_Sig_make_34 : decode b_Sig_make 34 = .ok (.iconst 0, 1) := by decide +kernel
theorem d_Sig_make_35 : decode b_Sig_make 35 = .ok (.iload_n 3, 1) := by decide +kernel
theorem d_Sig_make_36 : decode b_Sig_make 36 = .ok (.bipush 32, 2) := by decide +kernel
theorem d_Sig_make_38 : decode b_Sig_make 38 = .ok (.iadd, 1) := by decide +kernel
theorem d_Sig_make_39 : decode b_Sig_make 39 = .ok (.aload_n 0, 1) := by decide +kernel
theorem d_Sig_make_40 : decode b_Sig_make 40 = .ok (.getfield 22, 3) := by decide +kernel
theorem d_Sig_make_43 : decode b_Sig_make 43 = .ok (.iconst 0, 1) := by decide +kernel
theorem d_Sig_make_44 : decode b_Sig_make 44 = .ok (.invokevirtual 34, 3) := by decide +kernel
theorem d_Sig_make_47 : decode b_Sig_make 47 = .ok (.return_, 1) := by decide +kernel
end
section
theorem d_SS_init_0 : decode b_SS_init 0 = .ok (.aload_n 0, 1) := by decide +kernel
theorem d_SS_init_1 : decode b_SS_init 1 = .ok (.invokespecial 1, 3) := by decide +kernel
theorem d_SS_init_4 : decode b_SS_init 4 = .ok (.aload_n 0, 1) := by decide +kernel
theorem d_SS_init_5 : decode b_SS_init 5 = .ok (.new 7, 3) := by decide +kernel
theorem d_SS_init_8 : decode b_SS_init 8 = .ok (.dup, 1) := by decide +kernel
theorem d_SS_init_9 : decode b_SS_init 9 = .ok (.sipush 400, 3) := by decide +kernel
theorem d_SS_init_12 : decode b_SS_init 12 = .ok (.invokespecial 11, 3) := by decide +kernel
theorem d_SS_init_15 : decode b_SS_init 15 = .ok (.putfield 14, 3) := by decide +kernel
theorem d_SS_init_18 : decode b_SS_init 18 = .ok (.aload_n 0, 1) := by decide +kernel
theorem d_SS_init_19 : decode b_SS_init 19 = .ok (.new 7, 3) := by decide +kernel
theorem d_SS_init_22 : decode b_SS_init 22 = .ok (.dup, 1) := by decide +kernel
theorem d_SS_init_23 : decode b_SS_init 23 = .ok (.bipush 32, 2) := by decide +kernel
theorem d_SS_init_25 : decode b_SS_init 25 = .ok (.invokespecial 11, 3) := by decide +kernel
theorem d_SS_init_28 : decode b_SS_init 28 = .ok (.putfield 18, 3) := by decide +kernel
theorem d_SS_init_31 : decode b_SS_init 31 = .ok (.aload_n 0, 1) := by decide +kernel
theorem d_SS_init_32 : decode b_SS_init 32 = .ok (.new 7, 3) := by decide +kernel
theorem d_SS_init_35 : decode b_SS_init 35 = .ok (.dup, 1) := by decide +kernel
theorem d_SS_init_36 : decode b_SS_init 36 = .ok (.bipush 80, 2) := by decide +kernel
theorem d_SS_init_38 : decode b_SS_init 38 = .ok (.invokespecial 11, 3) := by decide +kernel
theorem d_SS_init_41 : decode b_SS_init 41 = .ok (.putfield 21, 3) := by decide +kernel
theorem d_SS_init_44 : decode b_SS_init 44 = .ok (.aload_n 0, 1) := by decide +kernel
theorem d_SS_init_45 : decode b_SS_init 45 = .ok (.new 7, 3) := by decide +kernel
theorem d_SS_init_48 : decode b_SS_init 48 = .ok (.dup, 1) := by decide +kernel
theorem d_SS_init_49 : decode b_SS_init 49 = .ok (.bipush 80, 2) := by decide +kernel
theorem d_SS_init_51 : decode b_SS_init 51 = .ok (.invokespecial 11, 3) := by decide +kernel
theorem d_SS_init_54 : decode b_SS_init 54 = .ok (.putfield 24, 3) := by decide +kernel
theorem d_SS_init_57 : decode b_SS_init 57 = .ok (.aload_n 0, 1) := by decide +kernel
theorem d_SS_init_58 : decode b_SS_init 58 = .ok (.new 27, 3) := by decide +kernel
theorem d_SS_init_61 : decode b_SS_init 61 = .ok (.dup, 1) := by decide +kernel
theorem d_SS_init_62 : decode b_SS_init 62 = .ok (.invokespecial 29, 3) := by decide +kernel
theorem d_SS_init_65 : decode b_SS_init 65 = .ok (.putfield 30, 3) := by decide +kernel
theorem d_SS_init_68 : decode b_SS_init 68 = .ok (.aload_n 0, 1) := by decide +kernel
theorem d_SS_init_69 : decode b_SS_init 69 = .ok (.aload_n 0, 1) := by decide +kernel
theorem d_SS_init_70 : decode b_SS_init 70 = .ok (.getfield 30, 3) := by decide +kernel
theorem d_SS_init_73 : decode b_SS_init 73 = .ok (.getfield 34, 3) := by decide +kernel
theorem d_SS_init_76 : decode b_SS_init 76 = .ok (.putfield 38, 3) := by decide +kernel
theorem d_SS_init_79 : decode b_SS_init 79 = .ok (.aload_n 0, 1) := by decide +kernel
theorem d_SS_init_80 : decode b_SS_init 80 = .ok (.aload_n 0, 1) := by decide +kernel
theorem d_SS_init_81 : decode b_SS_init 81 = .ok (.getfield 30, 3) := by decide +kernel
theorem d_SS_init_84 : decode b_SS_init 84 = .ok (.getfield 39, 3) := by decide +kernel
theorem d_SS_init_87 : decode b_SS_init 87 = .ok (.putfield 43, 3) := by decide +kernel
theorem d_SS_init_90 : decode b_SS_init 90 = .ok (.aload_n 0, 1) := by decide +kernel
theorem d_SS_init_91 : decode b_SS_init 91 = .ok (.aload_n 0, 1) := by decide +kernel
theorem d_SS_init_92 : decode b_SS_init 92 = .ok (.getfield 43, 3) := by decide +kernel
theorem d_SS_init_95 : decode b_SS_init 95 = .ok (.getfield 44, 3) := by decide +kernel
theorem d_SS_init_98 : decode b_SS_init 98 = .ok (.putfield 50, 3) := by decide +kernel
theorem d_SS_init_101 : decode b_SS_init 101 = .ok (.aload_n 0, 1) := by decide +kernel
theorem d_SS_init_102 : decode b_SS_init 102 = .ok (.iconst 0, 1) := by decide +kernel
theorem d_SS_init_103 : decode b_SS_init 103 = .ok (.putfield 51, 3) := by decide +kernel
theorem d_SS_init_106 : decode b_SS_init 106 = .ok (.return_, 1) := by decide +kernel
theorem d_SS_feed_0 : decode b_SS_feed 0 = .ok (.aload_n 0, 1) := by decide +kernel
theorem d_SS_feed_1 : decode b_SS_feed 1 = .ok (.getfield 14, 3) := by decide +kernel
theorem d_SS_feed_4 : decode b_SS_feed 4 = .ok (.bipush 20, 2) := by decide +kernel
theorem d_SS_feed_6 : decode b_SS_feed 6 = .ok (.invokevirtual 55, 3) := by decide +kernel
theorem d_SS_feed_9 : decode b_SS_feed 9 = .ok (.ifCond .ne 6, 3) := by decide +kernel
theorem d_SS_feed_12 : decode b_SS_feed 12 = .ok (.bipush (-3), 2) := by decide +kernel
theorem d_SS_feed_14 : decode b_SS_feed 14 = .ok (.ireturn, 1) := by decide +kernel
theorem d_SS_feed_15 : decode b_SS_feed 15 = .ok (.aload_n 0, 1) := by decide +kernel
theorem d_SS_feed_16 : decode b_SS_feed 16 = .ok (.getfield 14, 3) := by decide +kernel
theorem d_SS_feed_19 : decode b_SS_feed 19 = .ok (.iload_n 1, 1) := by decide +kernel
theorem d_SS_feed_20 : decode b_SS_feed 20 = .ok (.invokevirtual 59, 3) := by decide +kernel
theorem d_SS_feed_23 : decode b_SS_feed 23 = .ok (.aload_n 0, 1) := by decide +kernel
theorem d_SS_feed_24 : decode b_SS_feed 24 = .ok (.getfield 14, 3) := by decide +kernel
theorem d_SS_feed_27 : decode b_SS_feed 27 = .ok (.iload_n 2, 1) := by decide +kernel
theorem d_SS_feed_28 : decode b_SS_feed 28 = .ok (.invokevirtual 59, 3) := by decide +kernel
theorem d_SS_feed_31 : decode b_SS_feed 31 = .ok (.aload_n 0, 1) := by decide +kernel
theorem d_SS_feed_32 : decode b_SS_feed 32 = .ok (.getfield 14, 3) := by decide +kernel
theorem d_SS_feed_35 : decode b_SS_feed 35 = .ok (.iload_n 3, 1) := by decide +kernel
theorem d_SS_feed_36 : decode b_SS_feed 36 = .ok (.invokevirtual 59, 3) := by decide +kernel
theorem d_SS_feed_39 : decode b_SS_feed 39 = .ok (.aload_n 0, 1) := by decide +kernel
theorem d_SS_feed_40 : decode b_SS_feed 40 = .ok (.getfield 14, 3) := by decide +kernel
theorem d_SS_feed_43 : decode b_SS_feed 43 = .ok (.iload 4, 2) := by decide +kernel
theorem d_SS_feed_45 : decode b_SS_feed 45 = .ok (.invokevirtual 59, 3) := by decide +kernel
theorem d_SS_feed_48 : decode b_SS_feed 48 = .ok (.aload_n 0, 1) := by decide +kernel
theorem d_SS_feed_49 : decode b_SS_feed 49 = .ok (.getfield 14, 3) := by decide +kernel
theorem d_SS_feed_52 : decode b_SS_feed 52 = .ok (.iload 5, 2) := by decide +kernel
theorem d_SS_feed_54 : decode b_SS_feed 54 = .ok (.invokevirtual 59, 3) := by decide +kernel
theorem d_SS_feed_57 : decode b_SS_feed 57 = .ok (.aload_n 0, 1) := by decide +kernel
theorem d_SS_feed_58 : decode b_SS_feed 58 = .ok (.getfield 14, 3) := by decide +kernel
theorem d_SS_feed_61 : decode b_SS_feed 61 = .ok (.getfield 62, 3) := by decide +kernel
theorem d_SS_feed_64 : decode b_SS_feed 64 = .ok (.ireturn, 1) := by decide +kernel
theorem d_SS_end_0 : decode b_SS_end 0 = .ok (.iload_n 1, 1) := by decide +kernel
theorem d_SS_end_1 : decode b_SS_end 1 = .ok (.ifCond .lt 14, 3) := by decide +kernel
theorem d_SS_end_4 : decode b_SS_end 4 = .ok (.iload_n 1, 1) := by decide +kernel
theorem d_SS_end_5 : decode b_SS_end 5 = .ok (.aload_n 0, 1) := by decide +kernel
theorem d_SS_end_6 : decode b_SS_end 6 = .ok (.getfield 14, 3) := by decide +kernel
theorem d_SS_end_9 : decode b_SS_end 9 = .ok (.getfield 62, 3) := by decide +kernel
theorem d_SS_end_12 : decode b_SS_end 12 = .ok (.if_icmp .le 5, 3) := by decide +kernel
theorem d_SS_end_15 : decode b_SS_end 15 = .ok (.iconst (-1), 1) := by decide +kernel
theorem d_SS_end_16 : decode b_SS_end 16 = .ok (.ireturn, 1) := by decide +kernel
theorem d_SS_end_17 : decode b_SS_end 17 = .ok (.aload_n 0, 1) := by decide +kernel
theorem d_SS_end_18 : decode b_SS_end 18 = .ok (.getfield 14, 3) := by decide +kernel
theorem d_SS_end_21 : decode b_SS_end 21 = .ok (.iload_n 1, 1) := by decide +kernel
theorem d_SS_end_22 : decode b_SS_end 22 = .ok (.putfield 62, 3) := by decide +kernel
theorem d_SS_end_25 : decode b_SS_end 25 = .ok (.iload_n 1, 1) := by decide +kernel
theorem d_SS_end_26 : decode b_SS_end 26 = .ok (.ireturn, 1) := by decide +kernel
theorem d_SS_script_0 : decode b_SS_script 0 = .ok (.iload_n 1, 1) := by decide +kernel
theorem d_SS_script_1 : decode b_SS_script 1 = .ok (.ifCond .lt 20, 3) := by decide +kernel
theorem d_SS_script_4 : decode b_SS_script 4 = .ok (.iload_n 1, 1) := by decide +kernel
theorem d_SS_script_5 : decode b_SS_script 5 = .ok (.iconst 1, 1) := by decide +kernel
theorem d_SS_script_6 : decode b_SS_script 6 = .ok (.if_icmp .gt 15, 3) := by decide +kernel
theorem d_SS_script_9 : decode b_SS_script 9 = .ok (.aload_n 0, 1) := by decide +kernel
theorem d_SS_script_10 : decode b_SS_script 10 = .ok (.getfield 14, 3) := by decide +kernel
theorem d_SS_script_13 : decode b_SS_script 13 = .ok (.getfield 62, 3) := by decide +kernel
theorem d_SS_script_16 : decode b_SS_script 16 = .ok (.bipush 80, 2) := by decide +kernel
theorem d_SS_script_18 : decode b_SS_script 18 = .ok (.if_icmp .le 5, 3) := by decide +kernel
theorem d_SS_script_21 : decode b_SS_script 21 = .ok (.iconst (-1), 1) := by decide +kernel
theorem d_SS_script_22 : decode b_SS_script 22 = .ok (.ireturn, 1) := by decide +kernel
theorem d_SS_script_23 : decode b_SS_script 23 = .ok (.iload_n 1, 1) := by decide +kernel
theorem d_SS_script_24 : decode b_SS_script 24 = .ok (.ifCond .ne 10, 3) := by decide +kernel
theorem d_SS_script_27 : decode b_SS_script 27 = .ok (.aload_n 0, 1) := by decide +kernel
theorem d_SS_script_28 : decode b_SS_script 28 = .ok (.getfield 21, 3) := by decide +kernel
theorem d_SS_script_31 : decode b_SS_script 31 = .ok (.goto 7, 3) := by decide +kernel
theorem d_SS_script_34 : decode b_SS_script 34 = .ok (.aload_n 0, 1) := by decide +kernel
theorem d_SS_script_35 : decode b_SS_script 35 = .ok (.getfield 24, 3) := by decide +kernel
theorem d_SS_script_38 : decode b_SS_script 38 = .ok (.astore_n 2, 1) := by decide +kernel
theorem d_SS_script_39 : decode b_SS_script 39 = .ok (.aload_n 2, 1) := by decide +kernel
theorem d_SS_script_40 : decode b_SS_script 40 = .ok (.aload_n 0, 1) := by decide +kernel
theorem d_SS_script_41 : decode b_SS_script 41 = .ok (.getfield 14, 3) := by decide +kernel
theorem d_SS_script_44 : decode b_SS_script 44 = .ok (.getfield 66, 3) := by decide +kernel
theorem d_SS_script_47 : decode b_SS_script 47 = .ok (.aload_n 0, 1) := by decide +kernel
theorem d_SS_script_48 : decode b_SS_script 48 = .ok (.getfield 14, 3) := by decide +kernel
theorem d_SS_script_51 : decode b_SS_script 51 = .ok (.getfield 62, 3) := by decide +kernel
theorem d_SS_script_54 : decode b_SS_script 54 = .ok (.invokevirtual 70, 3) := by decide +kernel
theorem d_SS_script_57 : decode b_SS_script 57 = .ok (.aload_n 0, 1) := by decide +kernel
theorem d_SS_script_58 : decode b_SS_script 58 = .ok (.getfield 14, 3) := by decide +kernel
theorem d_SS_script_61 : decode b_SS_script 61 = .ok (.iconst 0, 1) := by decide +kernel
theorem d_SS_script_62 : decode b_SS_script 62 = .ok (.putfield 62, 3) := by decide +kernel
theorem d_SS_script_65 : decode b_SS_script 65 = .ok (.aload_n 2, 1) := by decide +kernel
theorem d_SS_script_66 : decode b_SS_script 66 = .ok (.getfield 62, 3) := by decide +kernel
theorem d_SS_script_69 : decode b_SS_script 69 = .ok (.ireturn, 1) := by decide +kernel
theorem d_SS_message_0 : decode b_SS_message 0 = .ok (.aload_n 0, 1) := by decide +kernel
theorem d_SS_message_1 : decode b_SS_message 1 = .ok (.getfield 14, 3) := by decide +kernel
theorem d_SS_message_4 : decode b_SS_message 4 = .ok (.getfield 62, 3) := by decide +kernel
theorem d_SS_message_7 : decode b_SS_message 7 = .ok (.istore_n 1, 1) := by decide +kernel
theorem d_SS_message_8 : decode b_SS_message 8 = .ok (.aload_n 0, 1) := by decide +kernel
theorem d_SS_message_9 : decode b_SS_message 9 = .ok (.getfield 50, 3) := by decide +kernel
theorem d_SS_message_12 : decode b_SS_message 12 = .ok (.aload_n 0, 1) := by decide +kernel
theorem d_SS_message_13 : decode b_SS_message 13 = .ok (.getfield 14, 3) := by decide +kernel
theorem d_SS_message_16 : decode b_SS_message 16 = .ok (.getfield 66, 3) := by decide +kernel
theorem d_SS_message_19 : decode b_SS_message 19 = .ok (.iconst 0, 1) := by decide +kernel
theorem d_SS_message_20 : decode b_SS_message 20 = .ok (.iload_n 1, 1) := by decide +kernel
theorem d_SS_message_21 : decode b_SS_message 21 = .ok (.aload_n 0, 1) := by decide +kernel
theorem d_SS_message_22 : decode b_SS_message 22 = .ok (.getfield 43, 3) := by decide +kernel
theorem d_SS_message_25 : decode b_SS_message 25 = .ok (.getfield 74, 3) := by decide +kernel
theorem d_SS_message_28 : decode b_SS_message 28 = .ok (.iconst 0, 1) := by decide +kernel
theorem d_SS_message_29 : decode b_SS_message 29 = .ok (.invokevirtual 77, 3) := by decide +kernel
theorem d_SS_message_32 : decode b_SS_message 32 = .ok (.aload_n 0, 1) := by decide +kernel
theorem d_SS_message_33 : decode b_SS_message 33 = .ok (.getfield 14, 3) := by decide +kernel
theorem d_SS_message_36 : decode b_SS_message 36 = .ok (.iconst 0, 1) := by decide +kernel
theorem d_SS_message_37 : decode b_SS_message 37 = .ok (.putfield 62, 3) := by decide +kernel
theorem d_SS_message_40 : decode b_SS_message 40 = .ok (.iload_n 1, 1) := by decide +kernel
theorem d_SS_message_41 : decode b_SS_message 41 = .ok (.ireturn, 1) := by decide +kernel
theorem d_SS_run_0 : decode b_SS_run 0 = .ok (.aload_n 0, 1) := by decide +kernel
theorem d_SS_run_1 : decode b_SS_run 1 = .ok (.getfield 38, 3) := by decide +kernel
theorem d_SS_run_4 : decode b_SS_run 4 = .ok (.iconst 0, 1) := by decide +kernel
theorem d_SS_run_5 : decode b_SS_run 5 = .ok (.putfield 83, 3) := by decide +kernel
theorem d_SS_run_8 : decode b_SS_run 8 = .ok (.aload_n 0, 1) := by decide +kernel
theorem d_SS_run_9 : decode b_SS_run 9 = .ok (.aload_n 0, 1) := by decide +kernel
theorem d_SS_run_10 : decode b_SS_run 10 = .ok (.getfield 30, 3) := by decide +kernel
theorem d_SS_run_13 : decode b_SS_run 13 = .ok (.aload_n 0, 1) := by decide +kernel
theorem d_SS_run_14 : decode b_SS_run 14 = .ok (.getfield 21, 3) := by decide +kernel
theorem d_SS_run_17 : decode b_SS_run 17 = .ok (.iload_n 1, 1) := by decide +kernel
theorem d_SS_run_18 : decode b_SS_run 18 = .ok (.invokevirtual 88, 3) := by decide +kernel
theorem d_SS_run_21 : decode b_SS_run 21 = .ok (.ifCond .eq 22, 3) := by decide +kernel
theorem d_SS_run_24 : decode b_SS_run 24 = .ok (.aload_n 0, 1) := by decide +kernel
theorem d_SS_run_25 : decode b_SS_run 25 = .ok (.getfield 30, 3) := by decide +kernel
theorem d_SS_run_28 : decode b_SS_run 28 = .ok (.aload_n 0, 1) := by decide +kernel
theorem d_SS_run_29 : decode b_SS_run 29 = .ok (.getfield 24, 3) := by decide +kernel
theorem d_SS_run_32 : decode b_SS_run 32 = .ok (.iload_n 1, 1) := by decide +kernel
theorem d_SS_run_33 : decode b_SS_run 33 = .ok (.invokevirtual 88, 3) := by decide +kernel
theorem d_SS_run_36 : decode b_SS_run 36 = .ok (.ifCond .eq 7, 3) := by decide +kernel
theorem d_SS_run_39 : decode b_SS_run 39 = .ok (.iconst 1, 1) := by decide +kernel
theorem d_SS_run_40 : decode b_SS_run 40 = .ok (.goto 4, 3) := by decide +kernel
theorem d_SS_run_43 : decode b_SS_run 43 = .ok (.iconst 0, 1) := by decide +kernel
theorem d_SS_run_44 : decode b_SS_run 44 = .ok (.putfield 51, 3) := by decide +kernel
theorem d_SS_run_47 : decode b_SS_run 47 = .ok (.aload_n 0, 1) := by decide +kernel
theorem d_SS_run_48 : decode b_SS_run 48 = .ok (.getfield 51, 3) := by decide +kernel
theorem d_SS_run_51 : decode b_SS_run 51 = .ok (.ifCond .eq 26, 3) := by decide +kernel
theorem d_SS_run_54 : decode b_SS_run 54 = .ok (.aload_n 0, 1) := by decide +kernel
theorem d_SS_run_55 : decode b_SS_run 55 = .ok (.getfield 38, 3) := by decide +kernel
theorem d_SS_run_58 : decode b_SS_run 58 = .ok (.aload_n 0, 1) := by decide +kernel
theorem d_SS_run_59 : decode b_SS_run 59 = .ok (.getfield 38, 3) := by decide +kernel
theorem d_SS_run_62 : decode b_SS_run 62 = .ok (.getfield 83, 3) := by decide +kernel
theorem d_SS_run_65 : decode b_SS_run 65 = .ok (.iconst 1, 1) := by decide +kernel
theorem d_SS_run_66 : decode b_SS_run 66 = .ok (.isub, 1) := by decide +kernel
theorem d_SS_run_67 : decode b_SS_run 67 = .ok (.invokevirtual 92, 3) := by decide +kernel
theorem d_SS_run_70 : decode b_SS_run 70 = .ok (.ifCond .eq 7, 3) := by decide +kernel
theorem d_SS_run_73 : decode b_SS_run 73 = .ok (.iconst 1, 1) := by decide +kernel
theorem d_SS_run_74 : decode b_SS_run 74 = .ok (.goto 4, 3) := by decide +kernel
theorem d_SS_run_77 : decode b_SS_run 77 = .ok (.iconst 0, 1) := by decide +kernel
theorem d_SS_run_78 : decode b_SS_run 78 = .ok (.ireturn, 1) := by decide +kernel
theorem d_SS_depth_0 : decode b_SS_depth 0 = .ok (.aload_n 0, 1) := by decide +kernel
theorem d_SS_depth_1 : decode b_SS_depth 1 = .ok (.getfield 51, 3) := by decide +kernel
theorem d_SS_depth_4 : decode b_SS_depth 4 = .ok (.ifCond .eq 13, 3) := by decide +kernel
theorem d_SS_depth_7 : decode b_SS_depth 7 = .ok (.aload_n 0, 1) := by decide +kernel
theorem d_SS_depth_8 : decode b_SS_depth 8 = .ok (.getfield 38, 3) := by decide +kernel
theorem d_SS_depth_11 : decode b_SS_depth 11 = .ok (.getfield 83, 3) := by decide +kernel
theorem d_SS_depth_14 : decode b_SS_depth 14 = .ok (.goto 5, 3) := by decide +kernel
theorem d_SS_depth_17 : decode b_SS_depth 17 = .ok (.bipush (-2), 2) := by decide +kernel
theorem d_SS_depth_19 : decode b_SS_depth 19 = .ok (.ireturn, 1) := by decide +kernel
theorem d_SS_element_0 : decode b_SS_element 0 = .ok (.aload_n 0, 1) := by decide +kernel
theorem d_SS_element_1 : decode b_SS_element 1 = .ok (.getfield 51, 3) := by decide +kernel
theorem d_SS_element_4 : decode b_SS_element 4 = .ok (.ifCond .eq 14, 3) := by decide +kernel
theorem d_SS_element_7 : decode b_SS_element 7 = .ok (.aload_n 0, 1) := by decide +kernel
theorem d_SS_element_8 : decode b_SS_element 8 = .ok (.getfield 38, 3) := by decide +kernel
theorem d_SS_element_11 : decode b_SS_element 11 = .ok (.iload_n 1, 1) := by decide +kernel
theorem d_SS_element_12 : decode b_SS_element 12 = .ok (.invokevirtual 95, 3) := by decide +kernel
theorem d_SS_element_15 : decode b_SS_element 15 = .ok (.ifCond .ne 6, 3) := by decide +kernel
theorem d_SS_element_18 : decode b_SS_element 18 = .ok (.bipush (-2), 2) := by decide +kernel
theorem d_SS_element_20 : decode b_SS_element 20 = .ok (.ireturn, 1) := by decide +kernel
theorem d_SS_element_21 : decode b_SS_element 21 = .ok (.iload_n 2, 1) := by decide +kernel
theorem d_SS_element_22 : decode b_SS_element 22 = .ok (.iconst (-1), 1) := by decide +kernel
theorem d_SS_element_23 : decode b_SS_element 23 = .ok (.if_icmp .ne 13, 3) := by decide +kernel
theorem d_SS_element_26 : decode b_SS_element 26 = .ok (.aload_n 0, 1) := by decide +kernel
theorem d_SS_element_27 : decode b_SS_element 27 = .ok (.getfield 38, 3) := by decide +kernel
theorem d_SS_element_30 : decode b_SS_element 30 = .ok (.getfield 98, 3) := by decide +kernel
theorem d_SS_element_33 : decode b_SS_element 33 = .ok (.iload_n 1, 1) := by decide +kernel
theorem d_SS_element_34 : decode b_SS_element 34 = .ok (.iaload, 1) := by decide +kernel
theorem d_SS_element_35 : decode b_SS_element 35 = .ok (.ireturn, 1) := by decide +kernel
theorem d_SS_element_36 : decode b_SS_element 36 = .ok (.iload_n 2, 1) := by decide +kernel
theorem d_SS_element_37 : decode b_SS_element 37 = .ok (.ifCond .lt 16, 3) := by decide +kernel
theorem d_SS_element_40 : decode b_SS_element 40 = .ok (.iload_n 2, 1) := by decide +kernel
theorem d_SS_element_41 : decode b_SS_element 41 = .ok (.aload_n 0, 1) := by decide +kernel
theorem d_SS_element_42 : decode b_SS_element 42 = .ok (.getfield 38, 3) := by decide +kernel
theorem d_SS_element_45 : decode b_SS_element 45 = .ok (.getfield 98, 3) := by decide +kernel
theorem d_SS_element_48 : decode b_SS_element 48 = .ok (.iload_n 1, 1) := by decide +kernel
theorem d_SS_element_49 : decode b_SS_element 49 = .ok (.iaload, 1) := by decide +kernel
theorem d_SS_element_50 : decode b_SS_element 50 = .ok (.if_icmp .lt 6, 3) := by decide +kernel
theorem d_SS_element_53 : decode b_SS_element 53 = .ok (.bipush (-2), 2) := by decide +kernel
theorem d_SS_element_55 : decode b_SS_element 55 = .ok (.ireturn, 1) := by decide +kernel
theorem d_SS_element_56 : decode b_SS_element 56 = .ok (.aload_n 0, 1) := by decide +kernel
theorem d_SS_element_57 : decode b_SS_element 57 = .ok (.getfield 38, 3) := by decide +kernel
theorem d_SS_element_60 : decode b_SS_element 60 = .ok (.getfield 102, 3) := by decide +kernel
theorem d_SS_element_63 : decode b_SS_element 63 = .ok (.aload_n 0, 1) := by decide +kernel
theorem d_SS_element_64 : decode b_SS_element 64 = .ok (.getfield 38, 3) := by decide +kernel
theorem d_SS_element_67 : decode b_SS_element 67 = .ok (.iload_n 1, 1) := by decide +kernel
theorem d_SS_element_68 : decode b_SS_element 68 = .ok (.invokevirtual 103, 3) := by decide +kernel
theorem d_SS_element_71 : decode b_SS_element 71 = .ok (.iload_n 2, 1) := by decide +kernel
theorem d_SS_element_72 : decode b_SS_element 72 = .ok (.iadd, 1) := by decide +kernel
theorem d_SS_element_73 : decode b_SS_element 73 = .ok (.baload, 1) := by decide +kernel
theorem d_SS_element_74 : decode b_SS_element 74 = .ok (.sipush 255, 3) := by decide +kernel
theorem d_SS_element_77 : decode b_SS_element 77 = .ok (.iand, 1) := by decide +kernel
theorem d_SS_element_78 : decode b_SS_element 78 = .ok (.ireturn, 1) := by decide +kernel
theorem d_SS_sha_0 : decode b_SS_sha 0 = .ok (.aload_n 0, 1) := by decide +kernel
theorem d_SS_sha_1 : decode b_SS_sha 1 = .ok (.getfield 50, 3) := by decide +kernel
theorem d_SS_sha_4 : decode b_SS_sha 4 = .ok (.aload_n 0, 1) := by decide +kernel
theorem d_SS_sha_5 : decode b_SS_sha 5 = .ok (.getfield 14, 3) := by decide +kernel
theorem d_SS_sha_8 : decode b_SS_sha 8 = .ok (.getfield 66, 3) := by decide +kernel
theorem d_SS_sha_11 : decode b_SS_sha 11 = .ok (.iconst 0, 1) := by decide +kernel
theorem d_SS_sha_12 : decode b_SS_sha 12 = .ok (.aload_n 0, 1) := by decide +kernel
theorem d_SS_sha_13 : decode b_SS_sha 13 = .ok (.getfield 14, 3) := by decide +kernel
theorem d_SS_sha_16 : decode b_SS_sha 16 = .ok (.getfield 62, 3) := by decide +kernel
theorem d_SS_sha_19 : decode b_SS_sha 19 = .ok (.aload_n 0, 1) := by decide +kernel
theorem d_SS_sha_20 : decode b_SS_sha 20 = .ok (.getfield 18, 3) := by decide +kernel
theorem d_SS_sha_23 : decode b_SS_sha 23 = .ok (.getfield 66, 3) := by decide +kernel
theorem d_SS_sha_26 : decode b_SS_sha 26 = .ok (.iconst 0, 1) := by decide +kernel
theorem d_SS_sha_27 : decode b_SS_sha 27 = .ok (.invokevirtual 107, 3) := by decide +kernel
theorem d_SS_sha_30 : decode b_SS_sha 30 = .ok (.aload_n 0, 1) := by decide +kernel
theorem d_SS_sha_31 : decode b_SS_sha 31 = .ok (.getfield 18, 3) := by decide +kernel
theorem d_SS_sha_34 : decode b_SS_sha 34 = .ok (.bipush 32, 2) := by decide +kernel
theorem d_SS_sha_36 : decode b_SS_sha 36 = .ok (.putfield 62, 3) := by decide +kernel
theorem d_SS_sha_39 : decode b_SS_sha 39 = .ok (.aload_n 0, 1) := by decide +kernel
theorem d_SS_sha_40 : decode b_SS_sha 40 = .ok (.getfield 14, 3) := by decide +kernel
theorem d_SS_sha_43 : decode b_SS_sha 43 = .ok (.iconst 0, 1) := by decide +kernel
theorem d_SS_sha_44 : decode b_SS_sha 44 = .ok (.putfield 62, 3) := by decide +kernel
theorem d_SS_sha_47 : decode b_SS_sha 47 = .ok (.aload_n 0, 1) := by decide +kernel
theorem d_SS_sha_48 : decode b_SS_sha 48 = .ok (.getfield 18, 3) := by decide +kernel
theorem d_SS_sha_51 : decode b_SS_sha 51 = .ok (.getfield 62, 3) := by decide +kernel
theorem d_SS_sha_54 : decode b_SS_sha 54 = .ok (.ireturn, 1) := by decide +kernel
theorem d_SS_sign_0 : decode b_SS_sign 0 = .ok (.aload_n 0, 1) := by decide +kernel
theorem d_SS_sign_1 : decode b_SS_sign 1 = .ok (.getfield 14, 3) := by decide +kernel
theorem d_SS_sign_4 : decode b_SS_sign 4 = .ok (.getfield 62, 3) := by decide +kernel
theorem d_SS_sign_7 : decode b_SS_sign 7 = .ok (.bipush 80, 2) := by decide +kernel
theorem d_SS_sign_9 : decode b_SS_sign 9 = .ok (.if_icmp .le 5, 3) := by decide +kernel
theorem d_SS_sign_12 : decode b_SS_sign 12 = .ok (.iconst (-1), 1) := by decide +kernel
theorem d_SS_sign_13 : decode b_SS_sign 13 = .ok (.ireturn, 1) := by decide +kernel
theorem d_SS_sign_14 : decode b_SS_sign 14 = .ok (.aload_n 0, 1) := by decide +kernel
theorem d_SS_sign_15 : decode b_SS_sign 15 = .ok (.getfield 43, 3) := by decide +kernel
theorem d_SS_sign_18 : decode b_SS_sign 18 = .ok (.aload_n 0, 1) := by decide +kernel
theorem d_SS_sign_19 : decode b_SS_sign 19 = .ok (.getfield 14, 3) := by decide +kernel
theorem d_SS_sign_22 : decode b_SS_sign 22 = .ok (.getfield 66, 3) := by decide +kernel
theorem d_SS_sign_25 : decode b_SS_sign 25 = .ok (.iconst 0, 1) := by decide +kernel
theorem d_SS_sign_26 : decode b_SS_sign 26 = .ok (.aload_n 0, 1) := by decide +kernel
theorem d_SS_sign_27 : decode b_SS_sign 27 = .ok (.getfield 14, 3) := by decide +kernel
theorem d_SS_sign_30 : decode b_SS_sign 30 = .ok (.getfield 62, 3) := by decide +kernel
theorem d_SS_sign_33 : decode b_SS_sign 33 = .ok (.invokevirtual 110, 3) := by decide +kernel
theorem d_SS_sign_36 : decode b_SS_sign 36 = .ok (.aload_n 0, 1) := by decide +kernel
theorem d_SS_sign_37 : decode b_SS_sign 37 = .ok (.getfield 18, 3) := by decide +kernel
theorem d_SS_sign_40 : decode b_SS_sign 40 = .ok (.aload_n 0, 1) := by decide +kernel
theorem d_SS_sign_41 : decode b_SS_sign 41 = .ok (.getfield 43, 3) := by decide +kernel
theorem d_SS_sign_44 : decode b_SS_sign 44 = .ok (.getfield 114, 3) := by decide +kernel
theorem d_SS_sign_47 : decode b_SS_sign 47 = .ok (.bipush 8, 2) := by decide +kernel
theorem d_SS_sign_49 : decode b_SS_sign 49 = .ok (.invokevirtual 70, 3) := by decide +kernel
theorem d_SS_sign_52 : decode b_SS_sign 52 = .ok (.aload_n 0, 1) := by decide +kernel
theorem d_SS_sign_53 : decode b_SS_sign 53 = .ok (.getfield 14, 3) := by decide +kernel
theorem d_SS_sign_56 : decode b_SS_sign 56 = .ok (.iconst 0, 1) := by decide +kernel
theorem d_SS_sign_57 : decode b_SS_sign 57 = .ok (.putfield 62, 3) := by decide +kernel
theorem d_SS_sign_60 : decode b_SS_sign 60 = .ok (.aload_n 0, 1) := by decide +kernel
theorem d_SS_sign_61 : decode b_SS_sign 61 = .ok (.getfield 18, 3) := by decide +kernel
theorem d_SS_sign_64 : decode b_SS_sign 64 = .ok (.getfield 62, 3) := by decide +kernel
theorem d_SS_sign_67 : decode b_SS_sign 67 = .ok (.ireturn, 1) := by decide +kernel
theorem d_SS_back_0 : decode b_SS_back 0 = .ok (.aload_n 0, 1) := by decide +kernel
theorem d_SS_back_1 : decode b_SS_back 1 = .ok (.getfield 14, 3) := by decide +kernel
theorem d_SS_back_4 : decode b_SS_back 4 = .ok (.iconst 1, 1) := by decide +kernel
theorem d_SS_back_5 : decode b_SS_back 5 = .ok (.aload_n 0, 1) := by decide +kernel
theorem d_SS_back_6 : decode b_SS_back 6 = .ok (.getfield 18, 3) := by decide +kernel
theorem d_SS_back_9 : decode b_SS_back 9 = .ok (.getfield 62, 3) := by decide +kernel
theorem d_SS_back_12 : decode b_SS_back 12 = .ok (.iadd, 1) := by decide +kernel
theorem d_SS_back_13 : decode b_SS_back 13 = .ok (.invokevirtual 55, 3) := by decide +kernel
theorem d_SS_back_16 : decode b_SS_back 16 = .ok (.ifCond .ne 6, 3) := by decide +kernel
theorem d_SS_back_19 : decode b_SS_back 19 = .ok (.bipush (-3), 2) := by decide +kernel
theorem d_SS_back_21 : decode b_SS_back 21 = .ok (.ireturn, 1) := by decide +kernel
theorem d_SS_back_22 : decode b_SS_back 22 = .ok (.aload_n 0, 1) := by decide +kernel
theorem d_SS_back_23 : decode b_SS_back 23 = .ok (.getfield 14, 3) := by decide +kernel
theorem d_SS_back_26 : decode b_SS_back 26 = .ok (.aload_n 0, 1) := by decide +kernel
theorem d_SS_back_27 : decode b_SS_back 27 = .ok (.getfield 18, 3) := by decide +kernel
theorem d_SS_back_30 : decode b_SS_back 30 = .ok (.getfield 62, 3) := by decide +kernel
theorem d_SS_back_33 : decode b_SS_back 33 = .ok (.invokevirtual 117, 3) := by decide +kernel
theorem d_SS_back_36 : decode b_SS_back 36 = .ok (.iconst 0, 1) := by decide +kernel
theorem d_SS_back_37 : decode b_SS_back 37 = .ok (.istore_n 1, 1) := by decide +kernel
theorem d_SS_back_38 : decode b_SS_back 38 = .ok (.iload_n 1, 1) := by decide +kernel
theorem d_SS_back_39 : decode b_SS_back 39 = .ok (.aload_n 0, 1) := by decide +kernel
theorem d_SS_back_40 : decode b_SS_back 40 = .ok (.getfield 18, 3) := by decide +kernel
theorem d_SS_back_43 : decode b_SS_back 43 = .ok (.getfield 62, 3) := by decide +kernel
theorem d_SS_back_46 : decode b_SS_back 46 = .ok (.if_icmp .ge 25, 3) := by decide +kernel
theorem d_SS_back_49 : decode b_SS_back 49 = .ok (.aload_n 0, 1) := by decide +kernel
theorem d_SS_back_50 : decode b_SS_back 50 = .ok (.getfield 14, 3) := by decide +kernel
theorem d_SS_back_53 : decode b_SS_back 53 = .ok (.aload_n 0, 1) := by decide +kernel
theorem d_SS_back_54 : decode b_SS_back 54 = .ok (.getfield 18, 3) := by decide +kernel
theorem d_SS_back_57 : decode b_SS_back 57 = .ok (.getfield 66, 3) := by decide +kernel
theorem d_SS_back_60 : decode b_SS_back 60 = .ok (.iload_n 1, 1) := by decide +kernel
theorem d_SS_back_61 : decode b_SS_back 61 = .ok (.baload, 1) := by decide +kernel
theorem d_SS_back_62 : decode b_SS_back 62 = .ok (.invokevirtual 117, 3) := by decide +kernel
theorem d_SS_back_65 : decode b_SS_back 65 = .ok (.iinc 1 1, 3) := by decide +kernel
theorem d_SS_back_68 : decode b_SS_back 68 = .ok (.goto (-30), 3) := by decide +kernel
theorem d_SS_back_71 : decode b_SS_back 71 = .ok (.aload_n 0, 1) := by decide +kernel
theorem d_SS_back_72 : decode b_SS_back 72 = .ok (.getfield 14, 3) := by decide +kernel
theorem d_SS_back_75 : decode b_SS_back 75 = .ok (.getfield 62, 3) := by decide +kernel
theorem d_SS_back_78 : decode b_SS_back 78 = .ok (.ireturn, 1) := by decide +kernel
theorem d_SS_octet_0 : decode b_SS_octet 0 = .ok (.iload_n 1, 1) := by decide +kernel
theorem d_SS_octet_1 : decode b_SS_octet 1 = .ok (.ifCond .lt 14, 3) := by decide +kernel
theorem d_SS_octet_4 : decode b_SS_octet 4 = .ok (.iload_n 1, 1) := by decide +kernel
theorem d_SS_octet_5 : decode b_SS_octet 5 = .ok (.aload_n 0, 1) := by decide +kernel
theorem d_SS_octet_6 : decode b_SS_octet 6 = .ok (.getfield 18, 3) := by decide +kernel
theorem d_SS_octet_9 : decode b_SS_octet 9 = .ok (.getfield 62, 3) := by decide +kernel
theorem d_SS_octet_12 : decode b_SS_octet 12 = .ok (.if_icmp .lt 8, 3) := by decide +kernel
theorem d_SS_octet_15 : decode b_SS_octet 15 = .ok (.bipush (-2), 2) := by decide +kernel
theorem d_SS_octet_17 : decode b_SS_octet 17 = .ok (.goto 16, 3) := by decide +kernel
theorem d_SS_octet_20 : decode b_SS_octet 20 = .ok (.aload_n 0, 1) := by decide +kernel
theorem d_SS_octet_21 : decode b_SS_octet 21 = .ok (.getfield 18, 3) := by decide +kernel
theorem d_SS_octet_24 : decode b_SS_octet 24 = .ok (.getfield 66, 3) := by decide +kernel
theorem d_SS_octet_27 : decode b_SS_octet 27 = .ok (.iload_n 1, 1) := by decide +kernel
theorem d_SS_octet_28 : decode b_SS_octet 28 = .ok (.baload, 1) := by decide +kernel
theorem d_SS_octet_29 : decode b_SS_octet 29 = .ok (.sipush 255, 3) := by decide +kernel
theorem d_SS_octet_32 : decode b_SS_octet 32 = .ok (.iand, 1) := by decide +kernel
theorem d_SS_octet_33 : decode b_SS_octet 33 = .ok (.ireturn, 1) := by decide +kernel
theorem d_Run_init_0 : decode b_Run_init 0 = .ok (.aload_n 0, 1) := by decide +kernel
theorem d_Run_init_1 : decode b_Run_init 1 = .ok (.invokespecial 3, 3) := by decide +kernel
theorem d_Run_init_4 : decode b_Run_init 4 = .ok (.aload_n 0, 1) := by decide +kernel
theorem d_Run_init_5 : decode b_Run_init 5 = .ok (.new 9, 3) := by decide +kernel
theorem d_Run_init_8 : decode b_Run_init 8 = .ok (.dup, 1) := by decide +kernel
theorem d_Run_init_9 : decode b_Run_init 9 = .ok (.invokespecial 11, 3) := by decide +kernel
theorem d_Run_init_12 : decode b_Run_init 12 = .ok (.putfield 12, 3) := by decide +kernel
theorem d_Run_init_15 : decode b_Run_init 15 = .ok (.aload_n 0, 1) := by decide +kernel
theorem d_Run_init_16 : decode b_Run_init 16 = .ok (.new 18, 3) := by decide +kernel
theorem d_Run_init_19 : decode b_Run_init 19 = .ok (.dup, 1) := by decide +kernel
theorem d_Run_init_20 : decode b_Run_init 20 = .ok (.invokespecial 20, 3) := by decide +kernel
theorem d_Run_init_23 : decode b_Run_init 23 = .ok (.putfield 21, 3) := by decide +kernel
theorem d_Run_init_26 : decode b_Run_init 26 = .ok (.aload_n 0, 1) := by decide +kernel
theorem d_Run_init_27 : decode b_Run_init 27 = .ok (.aload_n 0, 1) := by decide +kernel
theorem d_Run_init_28 : decode b_Run_init 28 = .ok (.getfield 21, 3) := by decide +kernel
theorem d_Run_init_31 : decode b_Run_init 31 = .ok (.getfield 25, 3) := by decide +kernel
theorem d_Run_init_34 : decode b_Run_init 34 = .ok (.putfield 29, 3) := by decide +kernel
theorem d_Run_init_37 : decode b_Run_init 37 = .ok (.aload_n 0, 1) := by decide +kernel
theorem d_Run_init_38 : decode b_Run_init 38 = .ok (.new 30, 3) := by decide +kernel
theorem d_Run_init_41 : decode b_Run_init 41 = .ok (.dup, 1) := by decide +kernel
theorem d_Run_init_42 : decode b_Run_init 42 = .ok (.invokespecial 32, 3) := by decide +kernel
theorem d_Run_init_45 : decode b_Run_init 45 = .ok (.putfield 33, 3) := by decide +kernel
theorem d_Run_init_48 : decode b_Run_init 48 = .ok (.return_, 1) := by decide +kernel
theorem d_Run_runScript_0 : decode b_Run_runScript 0 = .ok (.aload_n 0, 1) := by decide +kernel
theorem d_Run_runScript_1 : decode b_Run_runScript 1 = .ok (.getfield 33, 3) := by decide +kernel
theorem d_Run_runScript_4 : decode b_Run_runScript 4 = .ok (.invokevirtual 37, 3) := by decide +kernel
theorem d_Run_runScript_7 : decode b_Run_runScript 7 = .ok (.iconst 1, 1) := by decide +kernel
theorem d_Run_runScript_8 : decode b_Run_runScript 8 = .ok (.istore_n 3, 1) := by decide +kernel
theorem d_Run_runScript_9 : decode b_Run_runScript 9 = .ok (.iconst 0, 1) := by decide +kernel
theorem d_Run_runScript_10 : decode b_Run_runScript 10 = .ok (.istore 4, 2) := by decide +kernel
theorem d_Run_runScript_12 : decode b_Run_runScript 12 = .ok (.iload_n 3, 1) := by decide +kernel
theorem d_Run_runScript_13 : decode b_Run_runScript 13 = .ok (.ifCond .eq 136, 3) := by decide +kernel
theorem d_Run_runScript_16 : decode b_Run_runScript 16 = .ok (.iload 4, 2) := by decide +kernel
theorem d_Run_runScript_18 : decode b_Run_runScript 18 = .ok (.aload_n 1, 1) := by decide +kernel
theorem d_Run_runScript_19 : decode b_Run_runScript 19 = .ok (.getfield 40, 3) := by decide +kernel
theorem d_Run_runScript_22 : decode b_Run_runScript 22 = .ok (.if_icmp .ge 127, 3) := by decide +kernel
theorem d_Run_runScript_25 : decode b_Run_runScript 25 = .ok (.aload_n 1, 1) := by decide +kernel
theorem d_Run_runScript_26 : decode b_Run_runScript 26 = .ok (.getfield 46, 3) := by decide +kernel
theorem d_Run_runScript_29 : decode b_Run_runScript 29 = .ok (.iload 4, 2) := by decide +kernel
theorem d_Run_runScript_31 : decode b_Run_runScript 31 = .ok (.baload, 1) := by decide +kernel
theorem d_Run_runScript_32 : decode b_Run_runScript 32 = .ok (.sipush 255, 3) := by decide +kernel
theorem d_Run_runScript_35 : decode b_Run_runScript 35 = .ok (.iand, 1) := by decide +kernel
theorem d_Run_runScript_36 : decode b_Run_runScript 36 = .ok (.istore 5, 2) := by decide +kernel
theorem d_Run_runScript_38 : decode b_Run_runScript 38 = .ok (.iinc 4 1, 3) := by decide +kernel
theorem d_Run_runScript_41 : decode b_Run_runScript 41 = .ok (.iload 5, 2) := by decide +kernel
theorem d_Run_runScript_43 : decode b_Run_runScript 43 = .ok (.bipush 75, 2) := by decide +kernel
theorem d_Run_runScript_45 : decode b_Run_runScript 45 = .ok (.if_icmp .gt 59, 3) := by decide +kernel
theorem d_Run_runScript_48 : decode b_Run_runScript 48 = .ok (.iload 5, 2) := by decide +kernel
theorem d_Run_runScript_50 : decode b_Run_runScript 50 = .ok (.aload_n 1, 1) := by decide +kernel
theorem d_Run_runScript_51 : decode b_Run_runScript 51 = .ok (.getfield 40, 3) := by decide +kernel
theorem d_Run_runScript_54 : decode b_Run_runScript 54 = .ok (.iload 4, 2) := by decide +kernel
theorem d_Run_runScript_56 : decode b_Run_runScript 56 = .ok (.isub, 1) := by decide +kernel
theorem d_Run_runScript_57 : decode b_Run_runScript 57 = .ok (.if_icmp .gt 35, 3) := by decide +kernel
theorem d_Run_runScript_60 : decode b_Run_runScript 60 = .ok (.aload_n 0, 1) := by decide +kernel
theorem d_Run_runScript_61 : decode b_Run_runScript 61 = .ok (.getfield 33, 3) := by decide +kernel
theorem d_Run_runScript_64 : decode b_Run_runScript 64 = .ok (.invokevirtual 50, 3) := by decide +kernel
theorem d_Run_runScript_67 : decode b_Run_runScript 67 = .ok (.ifCond .eq 21, 3) := by decide +kernel
theorem d_Run_runScript_70 : decode b_Run_runScript 70 = .ok (.aload_n 0, 1) := by decide +kernel
theorem d_Run_runScript_71 : decode b_Run_runScript 71 = .ok (.getfield 12, 3) := by decide +kernel
theorem d_Run_runScript_74 : decode b_Run_runScript 74 = .ok (.aload_n 1, 1) := by decide +kernel
theorem d_Run_runScript_75 : decode b_Run_runScript 75 = .ok (.getfield 46, 3) := by decide +kernel
theorem d_Run_runScript_78 : decode b_Run_runScript 78 = .ok (.iload 4, 2) := by decide +kernel
theorem d_Run_runScript_80 : decode b_Run_runScript 80 = .ok (.iload 5, 2) := by decide +kernel
theorem d_Run_runScript_82 : decode b_Run_runScript 82 = .ok (.invokevirtual 54, 3) := by decide +kernel
theorem d_Run_runScript_85 : decode b_Run_runScript 85 = .ok (.ifCond .eq 7, 3) := by decide +kernel
theorem d_Run_runScript_88 : decode b_Run_runScript 88 = .ok (.iconst 1, 1) := by decide +kernel
theorem d_Run_runScript_89 : decode b_Run_runScript 89 = .ok (.goto 4, 3) := by decide +kernel
theorem d_Run_runScript_92 : decode b_Run_runScript 92 = .ok (.iconst 0, 1) := by decide +kernel
theorem d_Run_runScript_93 : decode b_Run_runScript 93 = .ok (.istore_n 3, 1) := by decide +kernel
theorem d_Run_runScript_94 : decode b_Run_runScript 94 = .ok (.iload 4, 2) := by decide +kernel
theorem d_Run_runScript_96 : decode b_Run_runScript 96 = .ok (.iload 5, 2) := by decide +kernel
theorem d_Run_runScript_98 : decode b_Run_runScript 98 = .ok (.iadd, 1) := by decide +kernel
theorem d_Run_runScript_99 : decode b_Run_runScript 99 = .ok (.istore 4, 2) := by decide +kernel
theorem d_Run_runScript_101 : decode b_Run_runScript 101 = .ok (.goto 45, 3) := by decide +kernel
theorem d_Run_runScript_104 : decode b_Run_runScript 104 = .ok (.iload 5, 2) := by decide +kernel
theorem d_Run_runScript_106 : decode b_Run_runScript 106 = .ok (.bipush 97, 2) := by decide +kernel
theorem d_Run_runScript_108 : decode b_Run_runScript 108 = .ok (.if_icmp .lt 20, 3) := by decide +kernel
theorem d_Run_runScript_111 : decode b_Run_runScript 111 = .ok (.iload 5, 2) := by decide +kernel
theorem d_Run_runScript_113 : decode b_Run_runScript 113 = .ok (.bipush 100, 2) := by decide +kernel
theorem d_Run_runScript_115 : decode b_Run_runScript 115 = .ok (.if_icmp .gt 13, 3) := by decide +kernel
theorem d_Run_runScript_118 : decode b_Run_runScript 118 = .ok (.aload_n 0, 1) := by decide +kernel
theorem d_Run_runScript_119 : decode b_Run_runScript 119 = .ok (.iload 5, 2) := by decide +kernel
theorem d_Run_runScript_121 : decode b_Run_runScript 121 = .ok (.invokevirtual 58, 3) := by decide +kernel
theorem d_Run_runScript_124 : decode b_Run_runScript 124 = .ok (.istore_n 3, 1) := by decide +kernel
theorem d_Run_runScript_125 : decode b_Run_runScript 125 = .ok (.goto 21, 3) := by decide +kernel
theorem d_Run_runScript_128 : decode b_Run_runScript 128 = .ok (.aload_n 0, 1) := by decide +kernel
theorem d_Run_runScript_129 : decode b_Run_runScript 129 = .ok (.getfield 33, 3) := by decide +kernel
theorem d_Run_runScript_132 : decode b_Run_runScript 132 = .ok (.invokevirtual 50, 3) := by decide +kernel
theorem d_Run_runScript_135 : decode b_Run_runScript 135 = .ok (.ifCond .eq 11, 3) := by decide +kernel
theorem d_Run_runScript_138 : decode b_Run_runScript 138 = .ok (.aload_n 0, 1) := by decide +kernel
theorem d_Run_runScript_139 : decode b_Run_runScript 139 = .ok (.iload 5, 2) := by decide +kernel
theorem d_Run_runScript_141 : decode b_Run_runScript 141 = .ok (.iload_n 2, 1) := by decide +kernel
theorem d_Run_runScript_142 : decode b_Run_runScript 142 = .ok (.invokevirtual 62, 3) := by decide +kernel
theorem d_Run_runScript_145 : decode b_Run_runScript 145 = .ok (.istore_n 3, 1) := by decide +kernel
theorem d_Run_runScript_146 : decode b_Run_runScript 146 = .ok (.goto (-134), 3) := by decide +kernel
theorem d_Run_runScript_149 : decode b_Run_runScript 149 = .ok (.iload_n 3, 1) := by decide +kernel
theorem d_Run_runScript_150 : decode b_Run_runScript 150 = .ok (.ifCond .eq 17, 3) := by decide +kernel
theorem d_Run_runScript_153 : decode b_Run_runScript 153 = .ok (.aload_n 0, 1) := by decide +kernel
theorem d_Run_runScript_154 : decode b_Run_runScript 154 = .ok (.getfield 33, 3) := by decide +kernel
theorem d_Run_runScript_157 : decode b_Run_runScript 157 = .ok (.invokevirtual 66, 3) := by decide +kernel
theorem d_Run_runScript_160 : decode b_Run_runScript 160 = .ok (.ifCond .eq 7, 3) := by decide +kernel
theorem d_Run_runScript_163 : decode b_Run_runScript 163 = .ok (.iconst 1, 1) := by decide +kernel
theorem d_Run_runScript_164 : decode b_Run_runScript 164 = .ok (.goto 4, 3) := by decide +kernel
theorem d_Run_runScript_167 : decode b_Run_runScript 167 = .ok (.iconst 0, 1) := by decide +kernel
theorem d_Run_runScript_168 : decode b_Run_runScript 168 = .ok (.ireturn, 1) := by decide +kernel
theorem d_Run_branch_0 : decode b_Run_branch 0 = .ok (.iload_n 1, 1) := by decide +kernel
theorem d_Run_branch_1 : decode b_Run_branch 1 = .ok (.bipush 99, 2) := by decide +kernel
theorem d_Run_branch_3 : decode b_Run_branch 3 = .ok (.if_icmp .ne 11, 3) := by decide +kernel
theorem d_Run_branch_6 : decode b_Run_branch 6 = .ok (.aload_n 0, 1) := by decide +kernel
theorem d_Run_branch_7 : decode b_Run_branch 7 = .ok (.getfield 33, 3) := by decide +kernel
theorem d_Run_branch_10 : decode b_Run_branch 10 = .ok (.invokevirtual 69, 3) := by decide +kernel
theorem d_Run_branch_13 : decode b_Run_branch 13 = .ok (.ireturn, 1) := by decide +kernel
theorem d_Run_branch_14 : decode b_Run_branch 14 = .ok (.iload_n 1, 1) := by decide +kernel
theorem d_Run_branch_15 : decode b_Run_branch 15 = .ok (.bipush 100, 2) := by decide +kernel
theorem d_Run_branch_17 : decode b_Run_branch 17 = .ok (.if_icmp .ne 11, 3) := by decide +kernel
theorem d_Run_branch_20 : decode b_Run_branch 20 = .ok (.aload_n 0, 1) := by decide +kernel
theorem d_Run_branch_21 : decode b_Run_branch 21 = .ok (.getfield 33, 3) := by decide +kernel
theorem d_Run_branch_24 : decode b_Run_branch 24 = .ok (.invokevirtual 72, 3) := by decide +kernel
theorem d_Run_branch_27 : decode b_Run_branch 27 = .ok (.ireturn, 1) := by decide +kernel
theorem d_Run_branch_28 : decode b_Run_branch 28 = .ok (.aload_n 0, 1) := by decide +kernel
theorem d_Run_branch_29 : decode b_Run_branch 29 = .ok (.getfield 33, 3) := by decide +kernel
theorem d_Run_branch_32 : decode b_Run_branch 32 = .ok (.invokevirtual 50, 3) := by decide +kernel
theorem d_Run_branch_35 : decode b_Run_branch 35 = .ok (.ifCond .ne 13, 3) := by decide +kernel
theorem d_Run_branch_38 : decode b_Run_branch 38 = .ok (.aload_n 0, 1) := by decide +kernel
theorem d_Run_branch_39 : decode b_Run_branch 39 = .ok (.getfield 33, 3) := by decide +kernel
theorem d_Run_branch_42 : decode b_Run_branch 42 = .ok (.iconst 0, 1) := by decide +kernel
theorem d_Run_branch_43 : decode b_Run_branch 43 = .ok (.invokevirtual 75, 3) := by decide +kernel
theorem d_Run_branch_46 : decode b_Run_branch 46 = .ok (.iconst 1, 1) := by decide +kernel
theorem d_Run_branch_47 : decode b_Run_branch 47 = .ok (.ireturn, 1) := by decide +kernel
theorem d_Run_branch_48 : decode b_Run_branch 48 = .ok (.aload_n 0, 1) := by decide +kernel
theorem d_Run_branch_49 : decode b_Run_branch 49 = .ok (.getfield 33, 3) := by decide +kernel
theorem d_Run_branch_52 : decode b_Run_branch 52 = .ok (.aload_n 0, 1) := by decide +kernel
theorem d_Run_branch_53 : decode b_Run_branch 53 = .ok (.getfield 12, 3) := by decide +kernel
theorem d_Run_branch_56 : decode b_Run_branch 56 = .ok (.aload_n 0, 1) := by decide +kernel
theorem d_Run_branch_57 : decode b_Run_branch 57 = .ok (.getfield 12, 3) := by decide +kernel
theorem d_Run_branch_60 : decode b_Run_branch 60 = .ok (.getfield 79, 3) := by decide +kernel
theorem d_Run_branch_63 : decode b_Run_branch 63 = .ok (.iconst 1, 1) := by decide +kernel
theorem d_Run_branch_64 : decode b_Run_branch 64 = .ok (.isub, 1) := by decide +kernel
theorem d_Run_branch_65 : decode b_Run_branch 65 = .ok (.invokevirtual 82, 3) := by decide +kernel
theorem d_Run_branch_68 : decode b_Run_branch 68 = .ok (.iload_n 1, 1) := by decide +kernel
theorem d_Run_branch_69 : decode b_Run_branch 69 = .ok (.bipush 98, 2) := by decide +kernel
theorem d_Run_branch_71 : decode b_Run_branch 71 = .ok (.if_icmp .ne 7, 3) := by decide +kernel
theorem d_Run_branch_74 : decode b_Run_branch 74 = .ok (.iconst 1, 1) := by decide +kernel
theorem d_Run_branch_75 : decode b_Run_branch 75 = .ok (.goto 4, 3) := by decide +kernel
theorem d_Run_branch_78 : decode b_Run_branch 78 = .ok (.iconst 0, 1) := by decide +kernel
theorem d_Run_branch_79 : decode b_Run_branch 79 = .ok (.if_icmp .eq 7, 3) := by decide +kernel
theorem d_Run_branch_82 : decode b_Run_branch 82 = .ok (.iconst 1, 1) := by decide +kernel
theorem d_Run_branch_83 : decode b_Run_branch 83 = .ok (.goto 4, 3) := by decide +kernel
theorem d_Run_branch_86 : decode b_Run_branch 86 = .ok (.iconst 0, 1) := by decide +kernel
theorem d_Run_branch_87 : decode b_Run_branch 87 = .ok (.invokevirtual 75, 3) := by decide +kernel
theorem d_Run_branch_90 : decode b_Run_branch 90 = .ok (.aload_n 0, 1) := by decide +kernel
theorem d_Run_branch_91 : decode b_Run_branch 91 = .ok (.getfield 12, 3) := by decide +kernel
theorem d_Run_branch_94 : decode b_Run_branch 94 = .ok (.iconst 1, 1) := by decide +kernel
theorem d_Run_branch_95 : decode b_Run_branch 95 = .ok (.invokevirtual 85, 3) := by decide +kernel
theorem d_Run_branch_98 : decode b_Run_branch 98 = .ok (.ireturn, 1) := by decide +kernel
theorem d_Run_perform_0 : decode b_Run_perform 0 = .ok (.aload_n 0, 1) := by decide +kernel
theorem d_Run_perform_1 : decode b_Run_perform 1 = .ok (.getfield 12, 3) := by decide +kernel
theorem d_Run_perform_4 : decode b_Run_perform 4 = .ok (.getfield 79, 3) := by decide +kernel
theorem d_Run_perform_7 : decode b_Run_perform 7 = .ok (.iconst 1, 1) := by decide +kernel
theorem d_Run_perform_8 : decode b_Run_perform 8 = .ok (.isub, 1) := by decide +kernel
theorem d_Run_perform_9 : decode b_Run_perform 9 = .ok (.istore_n 3, 1) := by decide +kernel
theorem d_Run_perform_10 : decode b_Run_perform 10 = .ok (.iload_n 1, 1) := by decide +kernel
theorem d_Run_perform_11 : decode b_Run_perform 11 = .ok (.tableswitch 378 80 103 #[109, 118, 127, 135, 378, 146, 260, 182, 210, 254, 254, 254, 265, 303, 303, 319, 324, 378, 378, 378, 378, 378, 364, 373], 109) := by decide +kernel
theorem d_Run_perform_120 : decode b_Run_perform 120 = .ok (.aload_n 0, 1) := by decide +kernel
theorem d_Run_perform_121 : decode b_Run_perform 121 = .ok (.getfield 12, 3) := by decide +kernel
theorem d_Run_perform_124 : decode b_Run_perform 124 = .ok (.iload_n 3, 1) := by decide +kernel
theorem d_Run_perform_125 : decode b_Run_perform 125 = .ok (.invokevirtual 88, 3) := by decide +kernel
theorem d_Run_perform_128 : decode b_Run_perform 128 = .ok (.ireturn, 1) := by decide +kernel
theorem d_Run_perform_129 : decode b_Run_perform 129 = .ok (.aload_n 0, 1) := by decide +kernel
theorem d_Run_perform_130 : decode b_Run_perform 130 = .ok (.getfield 12, 3) := by decide +kernel
theorem d_Run_perform_133 : decode b_Run_perform 133 = .ok (.iconst 1, 1) := by decide +kernel
theorem d_Run_perform_134 : decode b_Run_perform 134 = .ok (.invokevirtual 85, 3) := by decide +kernel
theorem d_Run_perform_137 : decode b_Run_perform 137 = .ok (.ireturn, 1) := by decide +kernel
theorem d_Run_perform_138 : decode b_Run_perform 138 = .ok (.aload_n 0, 1) := by decide +kernel
theorem d_Run_perform_139 : decode b_Run_perform 139 = .ok (.getfield 12, 3) := by decide +kernel
theorem d_Run_perform_142 : decode b_Run_perform 142 = .ok (.invokevirtual 91, 3) := by decide +kernel
theorem d_Run_perform_145 : decode b_Run_perform 145 = .ok (.ireturn, 1) := by decide +kernel
theorem d_Run_perform_146 : decode b_Run_perform 146 = .ok (.aload_n 0, 1) := by decide +kernel
theorem d_Run_perform_147 : decode b_Run_perform 147 = .ok (.getfield 12, 3) := by decide +kernel
theorem d_Run_perform_150 : decode b_Run_perform 150 = .ok (.iload_n 3, 1) := by decide +kernel
theorem d_Run_perform_151 : decode b_Run_perform 151 = .ok (.iconst 1, 1) := by decide +kernel
theorem d_Run_perform_152 : decode b_Run_perform 152 = .ok (.isub, 1) := by decide +kernel
theorem d_Run_perform_153 : decode b_Run_perform 153 = .ok (.invokevirtual 88, 3) := by decide +kernel
theorem d_Run_perform_156 : decode b_Run_perform 156 = .ok (.ireturn, 1) := by decide +kernel
theorem d_Run_perform_157 : decode b_Run_perform 157 = .ok (.aload_n 0, 1) := by decide +kernel
theorem d_Run_perform_158 : decode b_Run_perform 158 = .ok (.getfield 12, 3) := by decide +kernel
theorem d_Run_perform_161 : decode b_Run_perform 161 = .ok (.iload_n 3, 1) := by decide +kernel
theorem d_Run_perform_162 : decode b_Run_perform 162 = .ok (.invokevirtual 94, 3) := by decide +kernel
theorem d_Run_perform_165 : decode b_Run_perform 165 = .ok (.ifCond .eq 26, 3) := by decide +kernel
theorem d_Run_perform_168 : decode b_Run_perform 168 = .ok (.aload_n 0, 1) := by decide +kernel
theorem d_Run_perform_169 : decode b_Run_perform 169 = .ok (.getfield 12, 3) := by decide +kernel
theorem d_Run_perform_172 : decode b_Run_perform 172 = .ok (.aload_n 0, 1) := by decide +kernel
theorem d_Run_perform_173 : decode b_Run_perform 173 = .ok (.getfield 12, 3) := by decide +kernel
theorem d_Run_perform_176 : decode b_Run_perform 176 = .ok (.getfield 97, 3) := by decide +kernel
theorem d_Run_perform_179 : decode b_Run_perform 179 = .ok (.iload_n 3, 1) := by decide +kernel
theorem d_Run_perform_180 : decode b_Run_perform 180 = .ok (.iaload, 1) := by decide +kernel
theorem d_Run_perform_181 : decode b_Run_perform 181 = .ok (.invokevirtual 101, 3) := by decide +kernel
theorem d_Run_perform_184 : decode b_Run_perform 184 = .ok (.ifCond .eq 7, 3) := by decide +kernel
theorem d_Run_perform_187 : decode b_Run_perform 187 = .ok (.iconst 1, 1) := by decide +kernel
theorem d_Run_perform_188 : decode b_Run_perform 188 = .ok (.goto 4, 3) := by decide +kernel
theorem d_Run_perform_191 : decode b_Run_perform 191 = .ok (.iconst 0, 1) := by decide +kernel
theorem d_Run_perform_192 : decode b_Run_perform 192 = .ok (.ireturn, 1) := by decide +kernel
theorem d_Run_perform_193 : decode b_Run_perform 193 = .ok (.aload_n 0, 1) := by decide +kernel
theorem d_Run_perform_194 : decode b_Run_perform 194 = .ok (.getfield 12, 3) := by decide +kernel
theorem d_Run_perform_197 : decode b_Run_perform 197 = .ok (.iload_n 3, 1) := by decide +kernel
theorem d_Run_perform_198 : decode b_Run_perform 198 = .ok (.invokevirtual 82, 3) := by decide +kernel
theorem d_Run_perform_201 : decode b_Run_perform 201 = .ok (.ifCond .eq 18, 3) := by decide +kernel
theorem d_Run_perform_204 : decode b_Run_perform 204 = .ok (.aload_n 0, 1) := by decide +kernel
theorem d_Run_perform_205 : decode b_Run_perform 205 = .ok (.getfield 12, 3) := by decide +kernel
theorem d_Run_perform_208 : decode b_Run_perform 208 = .ok (.iconst 1, 1) := by decide +kernel
theorem d_Run_perform_209 : decode b_Run_perform 209 = .ok (.invokevirtual 85, 3) := by decide +kernel
theorem d_Run_perform_212 : decode b_Run_perform 212 = .ok (.ifCond .eq 7, 3) := by decide +kernel
theorem d_Run_perform_215 : decode b_Run_perform 215 = .ok (.iconst 1, 1) := by decide +kernel
theorem d_Run_perform_216 : decode b_Run_perform 216 = .ok (.goto 4, 3) := by decide +kernel
theorem d_Run_perform_219 : decode b_Run_perform 219 = .ok (.iconst 0, 1) := by decide +kernel
theorem d_Run_perform_220 : decode b_Run_perform 220 = .ok (.ireturn, 1) := by decide +kernel
theorem d_Run_perform_221 : decode b_Run_perform 221 = .ok (.aload_n 0, 1) := by decide +kernel
theorem d_Run_perform_222 : decode b_Run_perform 222 = .ok (.getfield 12, 3) := by decide +kernel
theorem d_Run_perform_225 : decode b_Run_perform 225 = .ok (.iload_n 3, 1) := by decide +kernel
theorem d_Run_perform_226 : decode b_Run_perform 226 = .ok (.invokevirtual 104, 3) := by decide +kernel
theorem d_Run_perform_229 : decode b_Run_perform 229 = .ok (.ifCond .eq 34, 3) := by decide +kernel
theorem d_Run_perform_232 : decode b_Run_perform 232 = .ok (.aload_n 0, 1) := by decide +kernel
theorem d_Run_perform_233 : decode b_Run_perform 233 = .ok (.getfield 12, 3) := by decide +kernel
theorem d_Run_perform_236 : decode b_Run_perform 236 = .ok (.iconst 1, 1) := by decide +kernel
theorem d_Run_perform_237 : decode b_Run_perform 237 = .ok (.aload_n 0, 1) := by decide +kernel
theorem d_Run_perform_238 : decode b_Run_perform 238 = .ok (.getfield 12, 3) := by decide +kernel
theorem d_Run_perform_241 : decode b_Run_perform 241 = .ok (.iload_n 3, 1) := by decide +kernel
theorem d_Run_perform_242 : decode b_Run_perform 242 = .ok (.invokevirtual 107, 3) := by decide +kernel
theorem d_Run_perform_245 : decode b_Run_perform 245 = .ok (.ifCond .ne 7, 3) := by decide +kernel
theorem d_Run_perform_248 : decode b_Run_perform 248 = .ok (.iconst 1, 1) := by decide +kernel
theorem d_Run_perform_249 : decode b_Run_perform 249 = .ok (.goto 4, 3) := by decide +kernel
theorem d_Run_perform_252 : decode b_Run_perform 252 = .ok (.iconst 0, 1) := by decide +kernel
theorem d_Run_perform_253 : decode b_Run_perform 253 = .ok (.invokevirtual 111, 3) := by decide +kernel
theorem d_Run_perform_256 : decode b_Run_perform 256 = .ok (.ifCond .eq 7, 3) := by decide +kernel
theorem d_Run_perform_259 : decode b_Run_perform 259 = .ok (.iconst 1, 1) := by decide +kernel
theorem d_Run_perform_260 : decode b_Run_perform 260 = .ok (.goto 4, 3) := by decide +kernel
theorem d_Run_perform_263 : decode b_Run_perform 263 = .ok (.iconst 0, 1) := by decide +kernel
theorem d_Run_perform_264 : decode b_Run_perform 264 = .ok (.ireturn, 1) := by decide +kernel
theorem d_Run_perform_265 : decode b_Run_perform 265 = .ok (.aload_n 0, 1) := by decide +kernel
theorem d_Run_perform_266 : decode b_Run_perform 266 = .ok (.iload_n 1, 1) := by decide +kernel
theorem d_Run_perform_267 : decode b_Run_perform 267 = .ok (.invokevirtual 115, 3) := by decide +kernel
theorem d_Run_perform_270 : decode b_Run_perform 270 = .ok (.ireturn, 1) := by decide +kernel
theorem d_Run_perform_271 : decode b_Run_perform 271 = .ok (.aload_n 0, 1) := by decide +kernel
theorem d_Run_perform_272 : decode b_Run_perform 272 = .ok (.invokevirtual 118, 3) := by decide +kernel
theorem d_Run_perform_275 : decode b_Run_perform 275 = .ok (.ireturn, 1) := by decide +kernel
theorem d_Run_perform_276 : decode b_Run_perform 276 = .ok (.aload_n 0, 1) := by decide +kernel
theorem d_Run_perform_277 : decode b_Run_perform 277 = .ok (.getfield 12, 3) := by decide +kernel
theorem d_Run_perform_280 : decode b_Run_perform 280 = .ok (.iconst 2, 1) := by decide +kernel
theorem d_Run_perform_281 : decode b_Run_perform 281 = .ok (.aload_n 0, 1) := by decide +kernel
theorem d_Run_perform_282 : decode b_Run_perform 282 = .ok (.getfield 12, 3) := by decide +kernel
theorem d_Run_perform_285 : decode b_Run_perform 285 = .ok (.iload_n 3, 1) := by decide +kernel
theorem d_Run_perform_286 : decode b_Run_perform 286 = .ok (.iconst 1, 1) := by decide +kernel
theorem d_Run_perform_287 : decode b_Run_perform 287 = .ok (.isub, 1) := by decide +kernel
theorem d_Run_perform_288 : decode b_Run_perform 288 = .ok (.invokevirtual 82, 3) := by decide +kernel
theorem d_Run_perform_291 : decode b_Run_perform 291 = .ok (.ifCond .eq 18, 3) := by decide +kernel
theorem d_Run_perform_294 : decode b_Run_perform 294 = .ok (.aload_n 0, 1) := by decide +kernel
theorem d_Run_perform_295 : decode b_Run_perform 295 = .ok (.getfield 12, 3) := by decide +kernel
theorem d_Run_perform_298 : decode b_Run_perform 298 = .ok (.iload_n 3, 1) := by decide +kernel
theorem d_Run_perform_299 : decode b_Run_perform 299 = .ok (.invokevirtual 82, 3) := by decide +kernel
theorem d_Run_perform_302 : decode b_Run_perform 302 = .ok (.ifCond .eq 7, 3) := by decide +kernel
theorem d_Run_perform_305 : decode b_Run_perform 305 = .ok (.iconst 1, 1) := by decide +kernel
theorem d_Run_perform_306 : decode b_Run_perform 306 = .ok (.goto 4, 3) := by decide +kernel
theorem d_Run_perform_309 : decode b_Run_perform 309 = .ok (.iconst 0, 1) := by decide +kernel
theorem d_Run_perform_310 : decode b_Run_perform 310 = .ok (.invokevirtual 111, 3) := by decide +kernel
theorem d_Run_perform_313 : decode b_Run_perform 313 = .ok (.ireturn, 1) := by decide +kernel
theorem d_Run_perform_314 : decode b_Run_perform 314 = .ok (.aload_n 0, 1) := by decide +kernel
theorem d_Run_perform_315 : decode b_Run_perform 315 = .ok (.iload_n 1, 1) := by decide +kernel
theorem d_Run_perform_316 : decode b_Run_perform 316 = .ok (.bipush 94, 2) := by decide +kernel
theorem d_Run_perform_318 : decode b_Run_perform 318 = .ok (.if_icmp .ne 7, 3) := by decide +kernel
theorem d_Run_perform_321 : decode b_Run_perform 321 = .ok (.iconst 1, 1) := by decide +kernel
theorem d_Run_perform_322 : decode b_Run_perform 322 = .ok (.goto 4, 3) := by decide +kernel
theorem d_Run_perform_325 : decode b_Run_perform 325 = .ok (.iconst 0, 1) := by decide +kernel
theorem d_Run_perform_326 : decode b_Run_perform 326 = .ok (.invokevirtual 121, 3) := by decide +kernel
theorem d_Run_perform_329 : decode b_Run_perform 329 = .ok (.ireturn, 1) := by decide +kernel
theorem d_Run_perform_330 : decode b_Run_perform 330 = .ok (.aload_n 0, 1) := by decide +kernel
theorem d_Run_perform_331 : decode b_Run_perform 331 = .ok (.invokevirtual 125, 3) := by decide +kernel
theorem d_Run_perform_334 : decode b_Run_perform 334 = .ok (.ireturn, 1) := by decide +kernel
theorem d_Run_perform_335 : decode b_Run_perform 335 = .ok (.aload_n 0, 1) := by decide +kernel
theorem d_Run_perform_336 : decode b_Run_perform 336 = .ok (.getfield 12, 3) := by decide +kernel
theorem d_Run_perform_339 : decode b_Run_perform 339 = .ok (.iload_n 3, 1) := by decide +kernel
theorem d_Run_perform_340 : decode b_Run_perform 340 = .ok (.invokevirtual 104, 3) := by decide +kernel
theorem d_Run_perform_343 : decode b_Run_perform 343 = .ok (.ifCond .eq 30, 3) := by decide +kernel
theorem d_Run_perform_346 : decode b_Run_perform 346 = .ok (.iload_n 2, 1) := by decide +kernel
theorem d_Run_perform_347 : decode b_Run_perform 347 = .ok (.aload_n 0, 1) := by decide +kernel
theorem d_Run_perform_348 : decode b_Run_perform 348 = .ok (.getfield 12, 3) := by decide +kernel
theorem d_Run_perform_351 : decode b_Run_perform 351 = .ok (.iload_n 3, 1) := by decide +kernel
theorem d_Run_perform_352 : decode b_Run_perform 352 = .ok (.invokevirtual 107, 3) := by decide +kernel
theorem d_Run_perform_355 : decode b_Run_perform 355 = .ok (.if_icmp .lt 18, 3) := by decide +kernel
theorem d_Run_perform_358 : decode b_Run_perform 358 = .ok (.aload_n 0, 1) := by decide +kernel
theorem d_Run_perform_359 : decode b_Run_perform 359 = .ok (.getfield 12, 3) := by decide +kernel
theorem d_Run_perform_362 : decode b_Run_perform 362 = .ok (.iconst 1, 1) := by decide +kernel
theorem d_Run_perform_363 : decode b_Run_perform 363 = .ok (.invokevirtual 85, 3) := by decide +kernel
theorem d_Run_perform_366 : decode b_Run_perform 366 = .ok (.ifCond .eq 7, 3) := by decide +kernel
theorem d_Run_perform_369 : decode b_Run_perform 369 = .ok (.iconst 1, 1) := by decide +kernel
theorem d_Run_perform_370 : decode b_Run_perform 370 = .ok (.goto 4, 3) := by decide +kernel
theorem d_Run_perform_373 : decode b_Run_perform 373 = .ok (.iconst 0, 1) := by decide +kernel
theorem d_Run_perform_374 : decode b_Run_perform 374 = .ok (.ireturn, 1) := by decide +kernel
theorem d_Run_perform_375 : decode b_Run_perform 375 = .ok (.aload_n 0, 1) := by decide +kernel
theorem d_Run_perform_376 : decode b_Run_perform 376 = .ok (.getfield 12, 3) := by decide +kernel
theorem d_Run_perform_379 : decode b_Run_perform 379 = .ok (.iconst 1, 1) := by decide +kernel
theorem d_Run_perform_380 : decode b_Run_perform 380 = .ok (.invokevirtual 101, 3) := by decide +kernel
theorem d_Run_perform_383 : decode b_Run_perform 383 = .ok (.ireturn, 1) := by decide +kernel
theorem d_Run_perform_384 : decode b_Run_perform 384 = .ok (.aload_n 0, 1) := by decide +kernel
theorem d_Run_perform_385 : decode b_Run_perform 385 = .ok (.invokevirtual 128, 3) := by decide +kernel
theorem d_Run_perform_388 : decode b_Run_perform 388 = .ok (.ireturn, 1) := by decide +kernel
theorem d_Run_perform_389 : decode b_Run_perform 389 = .ok (.iconst 0, 1) := by decide +kernel
theorem d_Run_perform_390 : decode b_Run_perform 390 = .ok (.ireturn, 1) := by decide +kernel
theorem d_Run_reckon_0 : decode b_Run_reckon 0 = .ok (.aload_n 0, 1) := by decide +kernel
theorem d_Run_reckon_1 : decode b_Run_reckon 1 = .ok (.getfield 12, 3) := by decide +kernel
theorem d_Run_reckon_4 : decode b_Run_reckon 4 = .ok (.getfield 79, 3) := by decide +kernel
theorem d_Run_reckon_7 : decode b_Run_reckon 7 = .ok (.iconst 1, 1) := by decide +kernel
theorem d_Run_reckon_8 : decode b_Run_reckon 8 = .ok (.isub, 1) := by decide +kernel
theorem d_Run_reckon_9 : decode b_Run_reckon 9 = .ok (.istore_n 2, 1) := by decide +kernel
theorem d_Run_reckon_10 : decode b_Run_reckon 10 = .ok (.aload_n 0, 1) := by decide +kernel
theorem d_Run_reckon_11 : decode b_Run_reckon 11 = .ok (.getfield 12, 3) := by decide +kernel
theorem d_Run_reckon_14 : decode b_Run_reckon 14 = .ok (.iload_n 2, 1) := by decide +kernel
theorem d_Run_reckon_15 : decode b_Run_reckon 15 = .ok (.iconst 1, 1) := by decide +kernel
theorem d_Run_reckon_16 : decode b_Run_reckon 16 = .ok (.isub, 1) := by decide +kernel
theorem d_Run_reckon_17 : decode b_Run_reckon 17 = .ok (.invokevirtual 104, 3) := by decide +kernel
theorem d_Run_reckon_20 : decode b_Run_reckon 20 = .ok (.ifCond .eq 14, 3) := by decide +kernel
theorem d_Run_reckon_23 : decode b_Run_reckon 23 = .ok (.aload_n 0, 1) := by decide +kernel
theorem d_Run_reckon_24 : decode b_Run_reckon 24 = .ok (.getfield 12, 3) := by decide +kernel
theorem d_Run_reckon_27 : decode b_Run_reckon 27 = .ok (.iload_n 2, 1) := by decide +kernel
theorem d_Run_reckon_28 : decode b_Run_reckon 28 = .ok (.invokevirtual 104, 3) := by decide +kernel
theorem d_Run_reckon_31 : decode b_Run_reckon 31 = .ok (.ifCond .ne 5, 3) := by decide +kernel
theorem d_Run_reckon_34 : decode b_Run_reckon 34 = .ok (.iconst 0, 1) := by decide +kernel
theorem d_Run_reckon_35 : decode b_Run_reckon 35 = .ok (.ireturn, 1) := by decide +kernel
theorem d_Run_reckon_36 : decode b_Run_reckon 36 = .ok (.aload_n 0, 1) := by decide +kernel
theorem d_Run_reckon_37 : decode b_Run_reckon 37 = .ok (.getfield 12, 3) := by decide +kernel
theorem d_Run_reckon_40 : decode b_Run_reckon 40 = .ok (.iload_n 2, 1) := by decide +kernel
theorem d_Run_reckon_41 : decode b_Run_reckon 41 = .ok (.iconst 1, 1) := by decide +kernel
theorem d_Run_reckon_42 : decode b_Run_reckon 42 = .ok (.isub, 1) := by decide +kernel
theorem d_Run_reckon_43 : decode b_Run_reckon 43 = .ok (.invokevirtual 107, 3) := by decide +kernel
theorem d_Run_reckon_46 : decode b_Run_reckon 46 = .ok (.istore_n 3, 1) := by decide +kernel
theorem d_Run_reckon_47 : decode b_Run_reckon 47 = .ok (.aload_n 0, 1) := by decide +kernel
theorem d_Run_reckon_48 : decode b_Run_reckon 48 = .ok (.getfield 12, 3) := by decide +kernel
theorem d_Run_reckon_51 : decode b_Run_reckon 51 = .ok (.iload_n 2, 1) := by decide +kernel
theorem d_Run_reckon_52 : decode b_Run_reckon 52 = .ok (.invokevirtual 107, 3) := by decide +kernel
theorem d_Run_reckon_55 : decode b_Run_reckon 55 = .ok (.istore 4, 2) := by decide +kernel
theorem d_Run_reckon_57 : decode b_Run_reckon 57 = .ok (.iload_n 1, 1) := by decide +kernel
theorem d_Run_reckon_58 : decode b_Run_reckon 58 = .ok (.bipush 91, 2) := by decide +kernel
theorem d_Run_reckon_60 : decode b_Run_reckon 60 = .ok (.if_icmp .ne 23, 3) := by decide +kernel
theorem d_Run_reckon_63 : decode b_Run_reckon 63 = .ok (.aload_n 0, 1) := by decide +kernel
theorem d_Run_reckon_64 : decode b_Run_reckon 64 = .ok (.getfield 12, 3) := by decide +kernel
theorem d_Run_reckon_67 : decode b_Run_reckon 67 = .ok (.iconst 2, 1) := by decide +kernel
theorem d_Run_reckon_68 : decode b_Run_reckon 68 = .ok (.iload_n 3, 1) := by decide +kernel
theorem d_Run_reckon_69 : decode b_Run_reckon 69 = .ok (.iload 4, 2) := by decide +kernel
theorem d_Run_reckon_71 : decode b_Run_reckon 71 = .ok (.if_icmp .ge 7, 3) := by decide +kernel
theorem d_Run_reckon_74 : decode b_Run_reckon 74 = .ok (.iconst 1, 1) := by decide +kernel
theorem d_Run_reckon_75 : decode b_Run_reckon 75 = .ok (.goto 4, 3) := by decide +kernel
theorem d_Run_reckon_78 : decode b_Run_reckon 78 = .ok (.iconst 0, 1) := by decide +kernel
theorem d_Run_reckon_79 : decode b_Run_reckon 79 = .ok (.invokevirtual 111, 3) := by decide +kernel
theorem d_Run_reckon_82 : decode b_Run_reckon 82 = .ok (.ireturn, 1) := by decide +kernel
theorem d_Run_reckon_83 : decode b_Run_reckon 83 = .ok (.aload_n 0, 1) := by decide +kernel
theorem d_Run_reckon_84 : decode b_Run_reckon 84 = .ok (.getfield 12, 3) := by decide +kernel
theorem d_Run_reckon_87 : decode b_Run_reckon 87 = .ok (.iconst 2, 1) := by decide +kernel
theorem d_Run_reckon_88 : decode b_Run_reckon 88 = .ok (.iload_n 1, 1) := by decide +kernel
theorem d_Run_reckon_89 : decode b_Run_reckon 89 = .ok (.bipush 89, 2) := by decide +kernel
theorem d_Run_reckon_91 : decode b_Run_reckon 91 = .ok (.if_icmp .ne 10, 3) := by decide +kernel
theorem d_Run_reckon_94 : decode b_Run_reckon 94 = .ok (.iload_n 3, 1) := by decide +kernel
theorem d_Run_reckon_95 : decode b_Run_reckon 95 = .ok (.iload 4, 2) := by decide +kernel
theorem d_Run_reckon_97 : decode b_Run_reckon 97 = .ok (.iadd, 1) := by decide +kernel
theorem d_Run_reckon_98 : decode b_Run_reckon 98 = .ok (.goto 7, 3) := by decide +kernel
theorem d_Run_reckon_101 : decode b_Run_reckon 101 = .ok (.iload_n 3, 1) := by decide +kernel
theorem d_Run_reckon_102 : decode b_Run_reckon 102 = .ok (.iload 4, 2) := by decide +kernel
theorem d_Run_reckon_104 : decode b_Run_reckon 104 = .ok (.isub, 1) := by decide +kernel
theorem d_Run_reckon_105 : decode b_Run_reckon 105 = .ok (.invokevirtual 131, 3) := by decide +kernel
theorem d_Run_reckon_108 : decode b_Run_reckon 108 = .ok (.ireturn, 1) := by decide +kernel
theorem d_Run_equal_0 : decode b_Run_equal 0 = .ok (.aload_n 0, 1) := by decide +kernel
theorem d_Run_equal_1 : decode b_Run_equal 1 = .ok (.getfield 12, 3) := by decide +kernel
theorem d_Run_equal_4 : decode b_Run_equal 4 = .ok (.getfield 79, 3) := by decide +kernel
theorem d_Run_equal_7 : decode b_Run_equal 7 = .ok (.iconst 1, 1) := by decide +kernel
theorem d_Run_equal_8 : decode b_Run_equal 8 = .ok (.isub, 1) := by decide +kernel
theorem d_Run_equal_9 : decode b_Run_equal 9 = .ok (.istore_n 1, 1) := by decide +kernel
theorem d_Run_equal_10 : decode b_Run_equal 10 = .ok (.aload_n 0, 1) := by decide +kernel
theorem d_Run_equal_11 : decode b_Run_equal 11 = .ok (.getfield 12, 3) := by decide +kernel
theorem d_Run_equal_14 : decode b_Run_equal 14 = .ok (.iload_n 1, 1) := by decide +kernel
theorem d_Run_equal_15 : decode b_Run_equal 15 = .ok (.iconst 1, 1) := by decide +kernel
theorem d_Run_equal_16 : decode b_Run_equal 16 = .ok (.isub, 1) := by decide +kernel
theorem d_Run_equal_17 : decode b_Run_equal 17 = .ok (.invokevirtual 94, 3) := by decide +kernel
theorem d_Run_equal_20 : decode b_Run_equal 20 = .ok (.ifCond .ne 5, 3) := by decide +kernel
theorem d_Run_equal_23 : decode b_Run_equal 23 = .ok (.iconst 0, 1) := by decide +kernel
theorem d_Run_equal_24 : decode b_Run_equal 24 = .ok (.ireturn, 1) := by decide +kernel
theorem d_Run_equal_25 : decode b_Run_equal 25 = .ok (.aload_n 0, 1) := by decide +kernel
theorem d_Run_equal_26 : decode b_Run_equal 26 = .ok (.getfield 12, 3) := by decide +kernel
theorem d_Run_equal_29 : decode b_Run_equal 29 = .ok (.iload_n 1, 1) := by decide +kernel
theorem d_Run_equal_30 : decode b_Run_equal 30 = .ok (.iconst 1, 1) := by decide +kernel
theorem d_Run_equal_31 : decode b_Run_equal 31 = .ok (.isub, 1) := by decide +kernel
theorem d_Run_equal_32 : decode b_Run_equal 32 = .ok (.aload_n 0, 1) := by decide +kernel
theorem d_Run_equal_33 : decode b_Run_equal 33 = .ok (.getfield 12, 3) := by decide +kernel
theorem d_Run_equal_36 : decode b_Run_equal 36 = .ok (.getfield 134, 3) := by decide +kernel
theorem d_Run_equal_39 : decode b_Run_equal 39 = .ok (.aload_n 0, 1) := by decide +kernel
theorem d_Run_equal_40 : decode b_Run_equal 40 = .ok (.getfield 12, 3) := by decide +kernel
theorem d_Run_equal_43 : decode b_Run_equal 43 = .ok (.iload_n 1, 1) := by decide +kernel
theorem d_Run_equal_44 : decode b_Run_equal 44 = .ok (.invokevirtual 135, 3) := by decide +kernel
theorem d_Run_equal_47 : decode b_Run_equal 47 = .ok (.aload_n 0, 1) := by decide +kernel
theorem d_Run_equal_48 : decode b_Run_equal 48 = .ok (.getfield 12, 3) := by decide +kernel
theorem d_Run_equal_51 : decode b_Run_equal 51 = .ok (.getfield 97, 3) := by decide +kernel
theorem d_Run_equal_54 : decode b_Run_equal 54 = .ok (.iload_n 1, 1) := by decide +kernel
theorem d_Run_equal_55 : decode b_Run_equal 55 = .ok (.iaload, 1) := by decide +kernel
theorem d_Run_equal_56 : decode b_Run_equal 56 = .ok (.invokevirtual 138, 3) := by decide +kernel
theorem d_Run_equal_59 : decode b_Run_equal 59 = .ok (.istore_n 2, 1) := by decide +kernel
theorem d_Run_equal_60 : decode b_Run_equal 60 = .ok (.aload_n 0, 1) := by decide +kernel
theorem d_Run_equal_61 : decode b_Run_equal 61 = .ok (.getfield 12, 3) := by decide +kernel
theorem d_Run_equal_64 : decode b_Run_equal 64 = .ok (.iconst 2, 1) := by decide +kernel
theorem d_Run_equal_65 : decode b_Run_equal 65 = .ok (.iload_n 2, 1) := by decide +kernel
theorem d_Run_equal_66 : decode b_Run_equal 66 = .ok (.invokevirtual 111, 3) := by decide +kernel
theorem d_Run_equal_69 : decode b_Run_equal 69 = .ok (.ireturn, 1) := by decide +kernel
theorem d_Run_digestLast_0 : decode b_Run_digestLast 0 = .ok (.aload_n 0, 1) := by decide +kernel
theorem d_Run_digestLast_1 : decode b_Run_digestLast 1 = .ok (.getfield 12, 3) := by decide +kernel
theorem d_Run_digestLast_4 : decode b_Run_digestLast 4 = .ok (.getfield 79, 3) := by decide +kernel
theorem d_Run_digestLast_7 : decode b_Run_digestLast 7 = .ok (.iconst 1, 1) := by decide +kernel
theorem d_Run_digestLast_8 : decode b_Run_digestLast 8 = .ok (.isub, 1) := by decide +kernel
theorem d_Run_digestLast_9 : decode b_Run_digestLast 9 = .ok (.istore_n 2, 1) := by decide +kernel
theorem d_Run_digestLast_10 : decode b_Run_digestLast 10 = .ok (.aload_n 0, 1) := by decide +kernel
theorem d_Run_digestLast_11 : decode b_Run_digestLast 11 = .ok (.getfield 12, 3) := by decide +kernel
theorem d_Run_digestLast_14 : decode b_Run_digestLast 14 = .ok (.iload_n 2, 1) := by decide +kernel
theorem d_Run_digestLast_15 : decode b_Run_digestLast 15 = .ok (.invokevirtual 94, 3) := by decide +kernel
theorem d_Run_digestLast_18 : decode b_Run_digestLast 18 = .ok (.ifCond .ne 5, 3) := by decide +kernel
theorem d_Run_digestLast_21 : decode b_Run_digestLast 21 = .ok (.iconst 0, 1) := by decide +kernel
theorem d_Run_digestLast_22 : decode b_Run_digestLast 22 = .ok (.ireturn, 1) := by decide +kernel
theorem d_Run_digestLast_23 : decode b_Run_digestLast 23 = .ok (.aload_n 0, 1) := by decide +kernel
theorem d_Run_digestLast_24 : decode b_Run_digestLast 24 = .ok (.getfield 12, 3) := by decide +kernel
theorem d_Run_digestLast_27 : decode b_Run_digestLast 27 = .ok (.iload_n 2, 1) := by decide +kernel
theorem d_Run_digestLast_28 : decode b_Run_digestLast 28 = .ok (.invokevirtual 135, 3) := by decide +kernel
theorem d_Run_digestLast_31 : decode b_Run_digestLast 31 = .ok (.istore_n 3, 1) := by decide +kernel
theorem d_Run_digestLast_32 : decode b_Run_digestLast 32 = .ok (.iload_n 1, 1) := by decide +kernel
theorem d_Run_digestLast_33 : decode b_Run_digestLast 33 = .ok (.ifCond .eq 38, 3) := by decide +kernel
theorem d_Run_digestLast_36 : decode b_Run_digestLast 36 = .ok (.aload_n 0, 1) := by decide +kernel
theorem d_Run_digestLast_37 : decode b_Run_digestLast 37 = .ok (.getfield 29, 3) := by decide +kernel
theorem d_Run_digestLast_40 : decode b_Run_digestLast 40 = .ok (.aload_n 0, 1) := by decide +kernel
theorem d_Run_digestLast_41 : decode b_Run_digestLast 41 = .ok (.getfield 12, 3) := by decide +kernel
theorem d_Run_digestLast_44 : decode b_Run_digestLast 44 = .ok (.getfield 134, 3) := by decide +kernel
theorem d_Run_digestLast_47 : decode b_Run_digestLast 47 = .ok (.iload_n 3, 1) := by decide +kernel
theorem d_Run_digestLast_48 : decode b_Run_digestLast 48 = .ok (.aload_n 0, 1) := by decide +kernel
theorem d_Run_digestLast_49 : decode b_Run_digestLast 49 = .ok (.getfield 12, 3) := by decide +kernel
theorem d_Run_digestLast_52 : decode b_Run_digestLast 52 = .ok (.getfield 97, 3) := by decide +kernel
theorem d_Run_digestLast_55 : decode b_Run_digestLast 55 = .ok (.iload_n 2, 1) := by decide +kernel
theorem d_Run_digestLast_56 : decode b_Run_digestLast 56 = .ok (.iaload, 1) := by decide +kernel
theorem d_Run_digestLast_57 : decode b_Run_digestLast 57 = .ok (.aload_n 0, 1) := by decide +kernel
theorem d_Run_digestLast_58 : decode b_Run_digestLast 58 = .ok (.getfield 12, 3) := by decide +kernel
theorem d_Run_digestLast_61 : decode b_Run_digestLast 61 = .ok (.getfield 134, 3) := by decide +kernel
theorem d_Run_digestLast_64 : decode b_Run_digestLast 64 = .ok (.iload_n 3, 1) := by decide +kernel
theorem d_Run_digestLast_65 : decode b_Run_digestLast 65 = .ok (.invokevirtual 142, 3) := by decide +kernel
theorem d_Run_digestLast_68 : decode b_Run_digestLast 68 = .ok (.goto 35, 3) := by decide +kernel
theorem d_Run_digestLast_71 : decode b_Run_digestLast 71 = .ok (.aload_n 0, 1) := by decide +kernel
theorem d_Run_digestLast_72 : decode b_Run_digestLast 72 = .ok (.getfield 29, 3) := by decide +kernel
theorem d_Run_digestLast_75 : decode b_Run_digestLast 75 = .ok (.aload_n 0, 1) := by decide +kernel
theorem d_Run_digestLast_76 : decode b_Run_digestLast 76 = .ok (.getfield 12, 3) := by decide +kernel
theorem d_Run_digestLast_79 : decode b_Run_digestLast 79 = .ok (.getfield 134, 3) := by decide +kernel
theorem d_Run_digestLast_82 : decode b_Run_digestLast 82 = .ok (.iload_n 3, 1) := by decide +kernel
theorem d_Run_digestLast_83 : decode b_Run_digestLast 83 = .ok (.aload_n 0, 1) := by decide +kernel
theorem d_Run_digestLast_84 : decode b_Run_digestLast 84 = .ok (.getfield 12, 3) := by decide +kernel
theorem d_Run_digestLast_87 : decode b_Run_digestLast 87 = .ok (.getfield 97, 3) := by decide +kernel
theorem d_Run_digestLast_90 : decode b_Run_digestLast 90 = .ok (.iload_n 2, 1) := by decide +kernel
theorem d_Run_digestLast_91 : decode b_Run_digestLast 91 = .ok (.iaload, 1) := by decide +kernel
theorem d_Run_digestLast_92 : decode b_Run_digestLast 92 = .ok (.aload_n 0, 1) := by decide +kernel
theorem d_Run_digestLast_93 : decode b_Run_digestLast 93 = .ok (.getfield 12, 3) := by decide +kernel
theorem d_Run_digestLast_96 : decode b_Run_digestLast 96 = .ok (.getfield 134, 3) := by decide +kernel
theorem d_Run_digestLast_99 : decode b_Run_digestLast 99 = .ok (.iload_n 3, 1) := by decide +kernel
theorem d_Run_digestLast_100 : decode b_Run_digestLast 100 = .ok (.invokevirtual 148, 3) := by decide +kernel
theorem d_Run_digestLast_103 : decode b_Run_digestLast 103 = .ok (.aload_n 0, 1) := by decide +kernel
theorem d_Run_digestLast_104 : decode b_Run_digestLast 104 = .ok (.getfield 12, 3) := by decide +kernel
theorem d_Run_digestLast_107 : decode b_Run_digestLast 107 = .ok (.getfield 97, 3) := by decide +kernel
theorem d_Run_digestLast_110 : decode b_Run_digestLast 110 = .ok (.iload_n 2, 1) := by decide +kernel
theorem d_Run_digestLast_111 : decode b_Run_digestLast 111 = .ok (.bipush 32, 2) := by decide +kernel
theorem d_Run_digestLast_113 : decode b_Run_digestLast 113 = .ok (.iastore, 1) := by decide +kernel
theorem d_Run_digestLast_114 : decode b_Run_digestLast 114 = .ok (.iconst 1, 1) := by decide +kernel
theorem d_Run_digestLast_115 : decode b_Run_digestLast 115 = .ok (.ireturn, 1) := by decide +kernel
theorem d_Run_signed_0 : decode b_Run_signed 0 = .ok (.aload_n 0, 1) := by decide +kernel
theorem d_Run_signed_1 : decode b_Run_signed 1 = .ok (.getfield 12, 3) := by decide +kernel
theorem d_Run_signed_4 : decode b_Run_signed 4 = .ok (.getfield 79, 3) := by decide +kernel
theorem d_Run_signed_7 : decode b_Run_signed 7 = .ok (.iconst 1, 1) := by decide +kernel
theorem d_Run_signed_8 : decode b_Run_signed 8 = .ok (.isub, 1) := by decide +kernel
theorem d_Run_signed_9 : decode b_Run_signed 9 = .ok (.istore_n 1, 1) := by decide +kernel
theorem d_Run_signed_10 : decode b_Run_signed 10 = .ok (.aload_n 0, 1) := by decide +kernel
theorem d_Run_signed_11 : decode b_Run_signed 11 = .ok (.getfield 12, 3) := by decide +kernel
theorem d_Run_signed_14 : decode b_Run_signed 14 = .ok (.iload_n 1, 1) := by decide +kernel
theorem d_Run_signed_15 : decode b_Run_signed 15 = .ok (.iconst 1, 1) := by decide +kernel
theorem d_Run_signed_16 : decode b_Run_signed 16 = .ok (.isub, 1) := by decide +kernel
theorem d_Run_signed_17 : decode b_Run_signed 17 = .ok (.invokevirtual 94, 3) := by decide +kernel
theorem d_Run_signed_20 : decode b_Run_signed 20 = .ok (.ifCond .ne 5, 3) := by decide +kernel
theorem d_Run_signed_23 : decode b_Run_signed 23 = .ok (.iconst 0, 1) := by decide +kernel
theorem d_Run_signed_24 : decode b_Run_signed 24 = .ok (.ireturn, 1) := by decide +kernel
theorem d_Run_signed_25 : decode b_Run_signed 25 = .ok (.aload_n 0, 1) := by decide +kernel
theorem d_Run_signed_26 : decode b_Run_signed 26 = .ok (.getfield 21, 3) := by decide +kernel
theorem d_Run_signed_29 : decode b_Run_signed 29 = .ok (.aload_n 0, 1) := by decide +kernel
theorem d_Run_signed_30 : decode b_Run_signed 30 = .ok (.getfield 12, 3) := by decide +kernel
theorem d_Run_signed_33 : decode b_Run_signed 33 = .ok (.getfield 134, 3) := by decide +kernel
theorem d_Run_signed_36 : decode b_Run_signed 36 = .ok (.aload_n 0, 1) := by decide +kernel
theorem d_Run_signed_37 : decode b_Run_signed 37 = .ok (.getfield 12, 3) := by decide +kernel
theorem d_Run_signed_40 : decode b_Run_signed 40 = .ok (.iload_n 1, 1) := by decide +kernel
theorem d_Run_signed_41 : decode b_Run_signed 41 = .ok (.invokevirtual 135, 3) := by decide +kernel
theorem d_Run_signed_44 : decode b_Run_signed 44 = .ok (.aload_n 0, 1) := by decide +kernel
theorem d_Run_signed_45 : decode b_Run_signed 45 = .ok (.getfield 12, 3) := by decide +kernel
theorem d_Run_signed_48 : decode b_Run_signed 48 = .ok (.getfield 97, 3) := by decide +kernel
theorem d_Run_signed_51 : decode b_Run_signed 51 = .ok (.iload_n 1, 1) := by decide +kernel
theorem d_Run_signed_52 : decode b_Run_signed 52 = .ok (.iaload, 1) := by decide +kernel
theorem d_Run_signed_53 : decode b_Run_signed 53 = .ok (.invokevirtual 151, 3) := by decide +kernel
theorem d_Run_signed_56 : decode b_Run_signed 56 = .ok (.aload_n 0, 1) := by decide +kernel
theorem d_Run_signed_57 : decode b_Run_signed 57 = .ok (.getfield 12, 3) := by decide +kernel
theorem d_Run_signed_60 : decode b_Run_signed 60 = .ok (.iload_n 1, 1) := by decide +kernel
theorem d_Run_signed_61 : decode b_Run_signed 61 = .ok (.iconst 1, 1) := by decide +kernel
theorem d_Run_signed_62 : decode b_Run_signed 62 = .ok (.isub, 1) := by decide +kernel
theorem d_Run_signed_63 : decode b_Run_signed 63 = .ok (.aload_n 0, 1) := by decide +kernel
theorem d_Run_signed_64 : decode b_Run_signed 64 = .ok (.getfield 21, 3) := by decide +kernel
theorem d_Run_signed_67 : decode b_Run_signed 67 = .ok (.getfield 155, 3) := by decide +kernel
theorem d_Run_signed_70 : decode b_Run_signed 70 = .ok (.iconst 0, 1) := by decide +kernel
theorem d_Run_signed_71 : decode b_Run_signed 71 = .ok (.bipush 8, 2) := by decide +kernel
theorem d_Run_signed_73 : decode b_Run_signed 73 = .ok (.invokevirtual 138, 3) := by decide +kernel
theorem d_Run_signed_76 : decode b_Run_signed 76 = .ok (.istore_n 2, 1) := by decide +kernel
theorem d_Run_signed_77 : decode b_Run_signed 77 = .ok (.aload_n 0, 1) := by decide +kernel
theorem d_Run_signed_78 : decode b_Run_signed 78 = .ok (.getfield 12, 3) := by decide +kernel
theorem d_Run_signed_81 : decode b_Run_signed 81 = .ok (.iconst 2, 1) := by decide +kernel
theorem d_Run_signed_82 : decode b_Run_signed 82 = .ok (.iload_n 2, 1) := by decide +kernel
theorem d_Run_signed_83 : decode b_Run_signed 83 = .ok (.invokevirtual 111, 3) := by decide +kernel
theorem d_Run_signed_86 : decode b_Run_signed 86 = .ok (.ireturn, 1) := by decide +kernel
theorem d_Run_many_0 : decode b_Run_many 0 = .ok (.aload_n 0, 1) := by decide +kernel
theorem d_Run_many_1 : decode b_Run_many 1 = .ok (.getfield 12, 3) := by decide +kernel
theorem d_Run_many_4 : decode b_Run_many 4 = .ok (.getfield 79, 3) := by decide +kernel
theorem d_Run_many_7 : decode b_Run_many 7 = .ok (.iconst 1, 1) := by decide +kernel
theorem d_Run_many_8 : decode b_Run_many 8 = .ok (.isub, 1) := by decide +kernel
theorem d_Run_many_9 : decode b_Run_many 9 = .ok (.istore_n 1, 1) := by decide +kernel
theorem d_Run_many_10 : decode b_Run_many 10 = .ok (.aload_n 0, 1) := by decide +kernel
theorem d_Run_many_11 : decode b_Run_many 11 = .ok (.getfield 12, 3) := by decide +kernel
theorem d_Run_many_14 : decode b_Run_many 14 = .ok (.iload_n 1, 1) := by decide +kernel
theorem d_Run_many_15 : decode b_Run_many 15 = .ok (.invokevirtual 107, 3) := by decide +kernel
theorem d_Run_many_18 : decode b_Run_many 18 = .ok (.istore_n 2, 1) := by decide +kernel
theorem d_Run_many_19 : decode b_Run_many 19 = .ok (.aload_n 0, 1) := by decide +kernel
theorem d_Run_many_20 : decode b_Run_many 20 = .ok (.getfield 12, 3) := by decide +kernel
theorem d_Run_many_23 : decode b_Run_many 23 = .ok (.iload_n 1, 1) := by decide +kernel
theorem d_Run_many_24 : decode b_Run_many 24 = .ok (.invokevirtual 104, 3) := by decide +kernel
theorem d_Run_many_27 : decode b_Run_many 27 = .ok (.ifCond .eq 13, 3) := by decide +kernel
theorem d_Run_many_30 : decode b_Run_many 30 = .ok (.iload_n 2, 1) := by decide +kernel
theorem d_Run_many_31 : decode b_Run_many 31 = .ok (.ifCond .lt 9, 3) := by decide +kernel
theorem d_Run_many_34 : decode b_Run_many 34 = .ok (.iload_n 2, 1) := by decide +kernel
theorem d_Run_many_35 : decode b_Run_many 35 = .ok (.bipush 8, 2) := by decide +kernel
theorem d_Run_many_37 : decode b_Run_many 37 = .ok (.if_icmp .le 5, 3) := by decide +kernel
theorem d_Run_many_40 : decode b_Run_many 40 = .ok (.iconst 0, 1) := by decide +kernel
theorem d_Run_many_41 : decode b_Run_many 41 = .ok (.ireturn, 1) := by decide +kernel
theorem d_Run_many_42 : decode b_Run_many 42 = .ok (.iload_n 1, 1) := by decide +kernel
theorem d_Run_many_43 : decode b_Run_many 43 = .ok (.iload_n 2, 1) := by decide +kernel
theorem d_Run_many_44 : decode b_Run_many 44 = .ok (.isub, 1) := by decide +kernel
theorem d_Run_many_45 : decode b_Run_many 45 = .ok (.istore_n 3, 1) := by decide +kernel
theorem d_Run_many_46 : decode b_Run_many 46 = .ok (.aload_n 0, 1) := by decide +kernel
theorem d_Run_many_47 : decode b_Run_many 47 = .ok (.getfield 12, 3) := by decide +kernel
theorem d_Run_many_50 : decode b_Run_many 50 = .ok (.iload_n 3, 1) := by decide +kernel
theorem d_Run_many_51 : decode b_Run_many 51 = .ok (.iconst 1, 1) := by decide +kernel
theorem d_Run_many_52 : decode b_Run_many 52 = .ok (.isub, 1) := by decide +kernel
theorem d_Run_many_53 : decode b_Run_many 53 = .ok (.invokevirtual 107, 3) := by decide +kernel
theorem d_Run_many_56 : decode b_Run_many 56 = .ok (.istore 4, 2) := by decide +kernel
theorem d_Run_many_58 : decode b_Run_many 58 = .ok (.aload_n 0, 1) := by decide +kernel
theorem d_Run_many_59 : decode b_Run_many 59 = .ok (.getfield 12, 3) := by decide +kernel
theorem d_Run_many_62 : decode b_Run_many 62 = .ok (.iload_n 3, 1) := by decide +kernel
theorem d_Run_many_63 : decode b_Run_many 63 = .ok (.iconst 1, 1) := by decide +kernel
theorem d_Run_many_64 : decode b_Run_many 64 = .ok (.isub, 1) := by decide +kernel
theorem d_Run_many_65 : decode b_Run_many 65 = .ok (.invokevirtual 104, 3) := by decide +kernel
theorem d_Run_many_68 : decode b_Run_many 68 = .ok (.ifCond .eq 14, 3) := by decide +kernel
theorem d_Run_many_71 : decode b_Run_many 71 = .ok (.iload 4, 2) := by decide +kernel
theorem d_Run_many_73 : decode b_Run_many 73 = .ok (.ifCond .lt 9, 3) := by decide +kernel
theorem d_Run_many_76 : decode b_Run_many 76 = .ok (.iload 4, 2) := by decide +kernel
theorem d_Run_many_78 : decode b_Run_many 78 = .ok (.iload_n 2, 1) := by decide +kernel
theorem d_Run_many_79 : decode b_Run_many 79 = .ok (.if_icmp .le 5, 3) := by decide +kernel
theorem d_Run_many_82 : decode b_Run_many 82 = .ok (.iconst 0, 1) := by decide +kernel
theorem d_Run_many_83 : decode b_Run_many 83 = .ok (.ireturn, 1) := by decide +kernel
theorem d_Run_many_84 : decode b_Run_many 84 = .ok (.iload_n 3, 1) := by decide +kernel
theorem d_Run_many_85 : decode b_Run_many 85 = .ok (.iconst 1, 1) := by decide +kernel
theorem d_Run_many_86 : decode b_Run_many 86 = .ok (.isub, 1) := by decide +kernel
theorem d_Run_many_87 : decode b_Run_many 87 = .ok (.iload 4, 2) := by decide +kernel
theorem d_Run_many_89 : decode b_Run_many 89 = .ok (.isub, 1) := by decide +kernel
theorem d_Run_many_90 : decode b_Run_many 90 = .ok (.istore 5, 2) := by decide +kernel
theorem d_Run_many_92 : decode b_Run_many 92 = .ok (.iload 5, 2) := by decide +kernel
theorem d_Run_many_94 : decode b_Run_many 94 = .ok (.ifCond .ge 5, 3) := by decide +kernel
theorem d_Run_many_97 : decode b_Run_many 97 = .ok (.iconst 0, 1) := by decide +kernel
theorem d_Run_many_98 : decode b_Run_many 98 = .ok (.ireturn, 1) := by decide +kernel
theorem d_Run_many_99 : decode b_Run_many 99 = .ok (.iconst 0, 1) := by decide +kernel
theorem d_Run_many_100 : decode b_Run_many 100 = .ok (.istore 6, 2) := by decide +kernel
theorem d_Run_many_102 : decode b_Run_many 102 = .ok (.iload_n 3, 1) := by decide +kernel
theorem d_Run_many_103 : decode b_Run_many 103 = .ok (.istore 7, 2) := by decide +kernel
theorem d_Run_many_105 : decode b_Run_many 105 = .ok (.iload 7, 2) := by decide +kernel
theorem d_Run_many_107 : decode b_Run_many 107 = .ok (.iload_n 1, 1) := by decide +kernel
theorem d_Run_many_108 : decode b_Run_many 108 = .ok (.if_icmp .ge 77, 3) := by decide +kernel
theorem d_Run_many_111 : decode b_Run_many 111 = .ok (.iload 6, 2) := by decide +kernel
theorem d_Run_many_113 : decode b_Run_many 113 = .ok (.iload 4, 2) := by decide +kernel
theorem d_Run_many_115 : decode b_Run_many 115 = .ok (.if_icmp .ge 70, 3) := by decide +kernel
theorem d_Run_many_118 : decode b_Run_many 118 = .ok (.aload_n 0, 1) := by decide +kernel
theorem d_Run_many_119 : decode b_Run_many 119 = .ok (.getfield 21, 3) := by decide +kernel
theorem d_Run_many_122 : decode b_Run_many 122 = .ok (.aload_n 0, 1) := by decide +kernel
theorem d_Run_many_123 : decode b_Run_many 123 = .ok (.getfield 12, 3) := by decide +kernel
theorem d_Run_many_126 : decode b_Run_many 126 = .ok (.getfield 134, 3) := by decide +kernel
theorem d_Run_many_129 : decode b_Run_many 129 = .ok (.aload_n 0, 1) := by decide +kernel
theorem d_Run_many_130 : decode b_Run_many 130 = .ok (.getfield 12, 3) := by decide +kernel
theorem d_Run_many_133 : decode b_Run_many 133 = .ok (.iload 7, 2) := by decide +kernel
theorem d_Run_many_135 : decode b_Run_many 135 = .ok (.invokevirtual 135, 3) := by decide +kernel
theorem d_Run_many_138 : decode b_Run_many 138 = .ok (.aload_n 0, 1) := by decide +kernel
theorem d_Run_many_139 : decode b_Run_many 139 = .ok (.getfield 12, 3) := by decide +kernel
theorem d_Run_many_142 : decode b_Run_many 142 = .ok (.getfield 97, 3) := by decide +kernel
theorem d_Run_many_145 : decode b_Run_many 145 = .ok (.iload 7, 2) := by decide +kernel
theorem d_Run_many_147 : decode b_Run_many 147 = .ok (.iaload, 1) := by decide +kernel
theorem d_Run_many_148 : decode b_Run_many 148 = .ok (.invokevirtual 151, 3) := by decide +kernel
theorem d_Run_many_151 : decode b_Run_many 151 = .ok (.aload_n 0, 1) := by decide +kernel
theorem d_Run_many_152 : decode b_Run_many 152 = .ok (.getfield 12, 3) := by decide +kernel
theorem d_Run_many_155 : decode b_Run_many 155 = .ok (.iload 5, 2) := by decide +kernel
theorem d_Run_many_157 : decode b_Run_many 157 = .ok (.iload 6, 2) := by decide +kernel
theorem d_Run_many_159 : decode b_Run_many 159 = .ok (.iadd, 1) := by decide +kernel
theorem d_Run_many_160 : decode b_Run_many 160 = .ok (.aload_n 0, 1) := by decide +kernel
theorem d_Run_many_161 : decode b_Run_many 161 = .ok (.getfield 21, 3) := by decide +kernel
theorem d_Run_many_164 : decode b_Run_many 164 = .ok (.getfield 155, 3) := by decide +kernel
theorem d_Run_many_167 : decode b_Run_many 167 = .ok (.iconst 0, 1) := by decide +kernel
theorem d_Run_many_168 : decode b_Run_many 168 = .ok (.bipush 8, 2) := by decide +kernel
theorem d_Run_many_170 : decode b_Run_many 170 = .ok (.invokevirtual 138, 3) := by decide +kernel
theorem d_Run_many_173 : decode b_Run_many 173 = .ok (.ifCond .eq 6, 3) := by decide +kernel
theorem d_Run_many_176 : decode b_Run_many 176 = .ok (.iinc 6 1, 3) := by decide +kernel
theorem d_Run_many_179 : decode b_Run_many 179 = .ok (.iinc 7 1, 3) := by decide +kernel
theorem d_Run_many_182 : decode b_Run_many 182 = .ok (.goto (-77), 3) := by decide +kernel
theorem d_Run_many_185 : decode b_Run_many 185 = .ok (.aload_n 0, 1) := by decide +kernel
theorem d_Run_many_186 : decode b_Run_many 186 = .ok (.getfield 12, 3) := by decide +kernel
theorem d_Run_many_189 : decode b_Run_many 189 = .ok (.aload_n 0, 1) := by decide +kernel
theorem d_Run_many_190 : decode b_Run_many 190 = .ok (.getfield 12, 3) := by decide +kernel
theorem d_Run_many_193 : decode b_Run_many 193 = .ok (.getfield 79, 3) := by decide +kernel
theorem d_Run_many_196 : decode b_Run_many 196 = .ok (.iload 5, 2) := by decide +kernel
theorem d_Run_many_198 : decode b_Run_many 198 = .ok (.isub, 1) := by decide +kernel
theorem d_Run_many_199 : decode b_Run_many 199 = .ok (.iload 6, 2) := by decide +kernel
theorem d_Run_many_201 : decode b_Run_many 201 = .ok (.iload 4, 2) := by decide +kernel
theorem d_Run_many_203 : decode b_Run_many 203 = .ok (.if_icmp .ne 7, 3) := by decide +kernel
theorem d_Run_many_206 : decode b_Run_many 206 = .ok (.iconst 1, 1) := by decide +kernel
theorem d_Run_many_207 : decode b_Run_many 207 = .ok (.goto 4, 3) := by decide +kernel
theorem d_Run_many_210 : decode b_Run_many 210 = .ok (.iconst 0, 1) := by decide +kernel
theorem d_Run_many_211 : decode b_Run_many 211 = .ok (.invokevirtual 111, 3) := by decide +kernel
theorem d_Run_many_214 : decode b_Run_many 214 = .ok (.ireturn, 1) := by decide +kernel
end
section
theorem d_Mod_init_0 : decode b_Mod_init 0 = .ok (.aload_n 0, 1) := by decide +kernel
theorem d_Mod_init_1 : decode b_Mod_init 1 = .ok (.invokespecial 1, 3) := by decide +kernel
theorem d_Mod_init_4 : decode b_Mod_init 4 = .ok (.aload_n 0, 1) := by decide +kernel
theorem d_Mod_init_5 : decode b_Mod_init 5 = .ok (.sipush 400, 3) := by decide +kernel
theorem d_Mod_init_8 : decode b_Mod_init 8 = .ok (.newarray .byte, 2) := by decide +kernel
theorem d_Mod_init_10 : decode b_Mod_init 10 = .ok (.putfield 7, 3) := by decide +kernel
theorem d_Mod_init_13 : decode b_Mod_init 13 = .ok (.aload_n 0, 1) := by decide +kernel
theorem d_Mod_init_14 : decode b_Mod_init 14 = .ok (.bipush 32, 2) := by decide +kernel
theorem d_Mod_init_16 : decode b_Mod_init 16 = .ok (.newarray .byte, 2) := by decide +kernel
theorem d_Mod_init_18 : decode b_Mod_init 18 = .ok (.putfield 13, 3) := by decide +kernel
theorem d_Mod_init_21 : decode b_Mod_init 21 = .ok (.aload_n 0, 1) := by decide +kernel
theorem d_Mod_init_22 : decode b_Mod_init 22 = .ok (.sipush 160, 3) := by decide +kernel
theorem d_Mod_init_25 : decode b_Mod_init 25 = .ok (.newarray .byte, 2) := by decide +kernel
theorem d_Mod_init_27 : decode b_Mod_init 27 = .ok (.putfield 16, 3) := by decide +kernel
theorem d_Mod_init_30 : decode b_Mod_init 30 = .ok (.aload_n 0, 1) := by decide +kernel
theorem d_Mod_init_31 : decode b_Mod_init 31 = .ok (.iconst 2, 1) := by decide +kernel
theorem d_Mod_init_32 : decode b_Mod_init 32 = .ok (.newarray .int, 2) := by decide +kernel
theorem d_Mod_init_34 : decode b_Mod_init 34 = .ok (.putfield 19, 3) := by decide +kernel
theorem d_Mod_init_37 : decode b_Mod_init 37 = .ok (.aload_n 0, 1) := by decide +kernel
theorem d_Mod_init_38 : decode b_Mod_init 38 = .ok (.bipush 32, 2) := by decide +kernel
theorem d_Mod_init_40 : decode b_Mod_init 40 = .ok (.newarray .byte, 2) := by decide +kernel
theorem d_Mod_init_42 : decode b_Mod_init 42 = .ok (.putfield 23, 3) := by decide +kernel
theorem d_Mod_init_45 : decode b_Mod_init 45 = .ok (.aload_n 0, 1) := by decide +kernel
theorem d_Mod_init_46 : decode b_Mod_init 46 = .ok (.bipush 64, 2) := by decide +kernel
theorem d_Mod_init_48 : decode b_Mod_init 48 = .ok (.newarray .int, 2) := by decide +kernel
theorem d_Mod_init_50 : decode b_Mod_init 50 = .ok (.putfield 26, 3) := by decide +kernel
theorem d_Mod_init_53 : decode b_Mod_init 53 = .ok (.aload_n 0, 1) := by decide +kernel
theorem d_Mod_init_54 : decode b_Mod_init 54 = .ok (.bipush 8, 2) := by decide +kernel
theorem d_Mod_init_56 : decode b_Mod_init 56 = .ok (.newarray .int, 2) := by decide +kernel
theorem d_Mod_init_58 : decode b_Mod_init 58 = .ok (.putfield 29, 3) := by decide +kernel
theorem d_Mod_init_61 : decode b_Mod_init 61 = .ok (.aload_n 0, 1) := by decide +kernel
theorem d_Mod_init_62 : decode b_Mod_init 62 = .ok (.bipush 32, 2) := by decide +kernel
theorem d_Mod_init_64 : decode b_Mod_init 64 = .ok (.newarray .byte, 2) := by decide +kernel
theorem d_Mod_init_66 : decode b_Mod_init 66 = .ok (.putfield 32, 3) := by decide +kernel
theorem d_Mod_init_69 : decode b_Mod_init 69 = .ok (.aload_n 0, 1) := by decide +kernel
theorem d_Mod_init_70 : decode b_Mod_init 70 = .ok (.bipush 32, 2) := by decide +kernel
theorem d_Mod_init_72 : decode b_Mod_init 72 = .ok (.newarray .byte, 2) := by decide +kernel
theorem d_Mod_init_74 : decode b_Mod_init 74 = .ok (.putfield 35, 3) := by decide +kernel
theorem d_Mod_init_77 : decode b_Mod_init 77 = .ok (.aload_n 0, 1) := by decide +kernel
theorem d_Mod_init_78 : decode b_Mod_init 78 = .ok (.sipush 512, 3) := by decide +kernel
theorem d_Mod_init_81 : decode b_Mod_init 81 = .ok (.newarray .byte, 2) := by decide +kernel
theorem d_Mod_init_83 : decode b_Mod_init 83 = .ok (.putfield 38, 3) := by decide +kernel
theorem d_Mod_init_86 : decode b_Mod_init 86 = .ok (.aload_n 0, 1) := by decide +kernel
theorem d_Mod_init_87 : decode b_Mod_init 87 = .ok (.sipush 1920, 3) := by decide +kernel
theorem d_Mod_init_90 : decode b_Mod_init 90 = .ok (.newarray .byte, 2) := by decide +kernel
theorem d_Mod_init_92 : decode b_Mod_init 92 = .ok (.putfield 41, 3) := by decide +kernel
theorem d_Mod_init_95 : decode b_Mod_init 95 = .ok (.aload_n 0, 1) := by decide +kernel
theorem d_Mod_init_96 : decode b_Mod_init 96 = .ok (.bipush 24, 2) := by decide +kernel
theorem d_Mod_init_98 : decode b_Mod_init 98 = .ok (.newarray .int, 2) := by decide +kernel
theorem d_Mod_init_100 : decode b_Mod_init 100 = .ok (.putfield 44, 3) := by decide +kernel
theorem d_Mod_init_103 : decode b_Mod_init 103 = .ok (.aload_n 0, 1) := by decide +kernel
theorem d_Mod_init_104 : decode b_Mod_init 104 = .ok (.bipush 100, 2) := by decide +kernel
theorem d_Mod_init_106 : decode b_Mod_init 106 = .ok (.newarray .boolean, 2) := by decide +kernel
theorem d_Mod_init_108 : decode b_Mod_init 108 = .ok (.putfield 47, 3) := by decide +kernel
theorem d_Mod_init_111 : decode b_Mod_init 111 = .ok (.return_, 1) := by decide +kernel
theorem d_Mod_round_0 : decode b_Mod_round 0 = .ok (.bipush 16, 2) := by decide +kernel
theorem d_Mod_round_2 : decode b_Mod_round 2 = .ok (.istore_n 1, 1) := by decide +kernel
theorem d_Mod_round_3 : decode b_Mod_round 3 = .ok (.iload_n 1, 1) := by decide +kernel
theorem d_Mod_round_4 : decode b_Mod_round 4 = .ok (.bipush 64, 2) := by decide +kernel
theorem d_Mod_round_6 : decode b_Mod_round 6 = .ok (.if_icmp .ge 110, 3) := by decide +kernel
theorem d_Mod_round_9 : decode b_Mod_round 9 = .ok (.aload_n 0, 1) := by decide +kernel
theorem d_Mod_round_10 : decode b_Mod_round 10 = .ok (.getfield 26, 3) := by decide +kernel
theorem d_Mod_round_13 : decode b_Mod_round 13 = .ok (.iload_n 1, 1) := by decide +kernel
theorem d_Mod_round_14 : decode b_Mod_round 14 = .ok (.bipush 15, 2) := by decide +kernel
theorem d_Mod_round_16 : decode b_Mod_round 16 = .ok (.isub, 1) := by decide +kernel
theorem d_Mod_round_17 : decode b_Mod_round 17 = .ok (.iaload, 1) := by decide +kernel
theorem d_Mod_round_18 : decode b_Mod_round 18 = .ok (.istore_n 2, 1) := by decide +kernel
theorem d_Mod_round_19 : decode b_Mod_round 19 = .ok (.aload_n 0, 1) := by decide +kernel
theorem d_Mod_round_20 : decode b_Mod_round 20 = .ok (.getfield 26, 3) := by decide +kernel
theorem d_Mod_round_23 : decode b_Mod_round 23 = .ok (.iload_n 1, 1) := by decide +kernel
theorem d_Mod_round_24 : decode b_Mod_round 24 = .ok (.iconst 2, 1) := by decide +kernel
theorem d_Mod_round_25 : decode b_Mod_round 25 = .ok (.isub, 1) := by decide +kernel
theorem d_Mod_round_26 : decode b_Mod_round 26 = .ok (.iaload, 1) := by decide +kernel
theorem d_Mod_round_27 : decode b_Mod_round 27 = .ok (.istore_n 3, 1) := by decide +kernel
theorem d_Mod_round_28 : decode b_Mod_round 28 = .ok (.iload_n 2, 1) := by decide +kernel
theorem d_Mod_round_29 : decode b_Mod_round 29 = .ok (.bipush 7, 2) := by decide +kernel
theorem d_Mod_round_31 : decode b_Mod_round 31 = .ok (.iushr, 1) := by decide +kernel
theorem d_Mod_round_32 : decode b_Mod_round 32 = .ok (.iload_n 2, 1) := by decide +kernel
theorem d_Mod_round_33 : decode b_Mod_round 33 = .ok (.bipush 25, 2) := by decide +kernel
theorem d_Mod_round_35 : decode b_Mod_round 35 = .ok (.ishl, 1) := by decide +kernel
theorem d_Mod_round_36 : decode b_Mod_round 36 = .ok (.ior, 1) := by decide +kernel
theorem d_Mod_round_37 : decode b_Mod_round 37 = .ok (.iload_n 2, 1) := by decide +kernel
theorem d_Mod_round_38 : decode b_Mod_round 38 = .ok (.bipush 18, 2) := by decide +kernel
theorem d_Mod_round_40 : decode b_Mod_round 40 = .ok (.iushr, 1) := by decide +kernel
theorem d_Mod_round_41 : decode b_Mod_round 41 = .ok (.iload_n 2, 1) := by decide +kernel
theorem d_Mod_round_42 : decode b_Mod_round 42 = .ok (.bipush 14, 2) := by decide +kernel
theorem d_Mod_round_44 : decode b_Mod_round 44 = .ok (.ishl, 1) := by decide +kernel
theorem d_Mod_round_45 : decode b_Mod_round 45 = .ok (.ior, 1) := by decide +kernel
theorem d_Mod_round_46 : decode b_Mod_round 46 = .ok (.ixor, 1) := by decide +kernel
theorem d_Mod_round_47 : decode b_Mod_round 47 = .ok (.iload_n 2, 1) := by decide +kernel
theorem d_Mod_round_48 : decode b_Mod_round 48 = .ok (.iconst 3, 1) := by decide +kernel
theorem d_Mod_round_49 : decode b_Mod_round 49 = .ok (.iushr, 1) := by decide +kernel
theorem d_Mod_round_50 : decode b_Mod_round 50 = .ok (.ixor, 1) := by decide +kernel
theorem d_Mod_round_51 : decode b_Mod_round 51 = .ok (.istore 4, 2) := by decide +kernel
theorem d_Mod_round_53 : decode b_Mod_round 53 = .ok (.iload_n 3, 1) := by decide +kernel
theorem d_Mod_round_54 : decode b_Mod_round 54 = .ok (.bipush 17, 2) := by decide +kernel
theorem d_Mod_round_56 : decode b_Mod_round 56 = .ok (.iushr, 1) := by decide +kernel
theorem d_Mod_round_57 : decode b_Mod_round 57 = .ok (.iload_n 3, 1) := by decide +kernel
theorem d_Mod_round_58 : decode b_Mod_round 58 = .ok (.bipush 15, 2) := by decide +kernel
theorem d_Mod_round_60 : decode b_Mod_round 60 = .ok (.ishl, 1) := by decide +kernel
theorem d_Mod_round_61 : decode b_Mod_round 61 = .ok (.ior, 1) := by decide +kernel
theorem d_Mod_round_62 : decode b_Mod_round 62 = .ok (.iload_n 3, 1) := by decide +kernel
theorem d_Mod_round_63 : decode b_Mod_round 63 = .ok (.bipush 19, 2) := by decide +kernel
theorem d_Mod_round_65 : decode b_Mod_round 65 = .ok (.iushr, 1) := by decide +kernel
theorem d_Mod_round_66 : decode b_Mod_round 66 = .ok (.iload_n 3, 1) := by decide +kernel
theorem d_Mod_round_67 : decode b_Mod_round 67 = .ok (.bipush 13, 2) := by decide +kernel
theorem d_Mod_round_69 : decode b_Mod_round 69 = .ok (.ishl, 1) := by decide +kernel
theorem d_Mod_round_70 : decode b_Mod_round 70 = .ok (.ior, 1) := by decide +kernel
theorem d_Mod_round_71 : decode b_Mod_round 71 = .ok (.ixor, 1) := by decide +kernel
theorem d_Mod_round_72 : decode b_Mod_round 72 = .ok (.iload_n 3, 1) := by decide +kernel
theorem d_Mod_round_73 : decode b_Mod_round 73 = .ok (.bipush 10, 2) := by decide +kernel
theorem d_Mod_round_75 : decode b_Mod_round 75 = .ok (.iushr, 1) := by decide +kernel
theorem d_Mod_round_76 : decode b_Mod_round 76 = .ok (.ixor, 1) := by decide +kernel
theorem d_Mod_round_77 : decode b_Mod_round 77 = .ok (.istore 5, 2) := by decide +kernel
theorem d_Mod_round_79 : decode b_Mod_round 79 = .ok (.aload_n 0, 1) := by decide +kernel
theorem d_Mod_round_80 : decode b_Mod_round 80 = .ok (.getfield 26, 3) := by decide +kernel
theorem d_Mod_round_83 : decode b_Mod_round 83 = .ok (.iload_n 1, 1) := by decide +kernel
theorem d_Mod_round_84 : decode b_Mod_round 84 = .ok (.aload_n 0, 1) := by decide +kernel
theorem d_Mod_round_85 : decode b_Mod_round 85 = .ok (.getfield 26, 3) := by decide +kernel
theorem d_Mod_round_88 : decode b_Mod_round 88 = .ok (.iload_n 1, 1) := by decide +kernel
theorem d_Mod_round_89 : decode b_Mod_round 89 = .ok (.bipush 16, 2) := by decide +kernel
theorem d_Mod_round_91 : decode b_Mod_round 91 = .ok (.isub, 1) := by decide +kernel
theorem d_Mod_round_92 : decode b_Mod_round 92 = .ok (.iaload, 1) := by decide +kernel
theorem d_Mod_round_93 : decode b_Mod_round 93 = .ok (.iload 4, 2) := by decide +kernel
theorem d_Mod_round_95 : decode b_Mod_round 95 = .ok (.iadd, 1) := by decide +kernel
theorem d_Mod_round_96 : decode b_Mod_round 96 = .ok (.aload_n 0, 1) := by decide +kernel
theorem d_Mod_round_97 : decode b_Mod_round 97 = .ok (.getfield 26, 3) := by decide +kernel
theorem d_Mod_round_100 : decode b_Mod_round 100 = .ok (.iload_n 1, 1) := by decide +kernel
theorem d_Mod_round_101 : decode b_Mod_round 101 = .ok (.bipush 7, 2) := by decide +kernel
theorem d_Mod_round_103 : decode b_Mod_round 103 = .ok (.isub, 1) := by decide +kernel
theorem d_Mod_round_104 : decode b_Mod_round 104 = .ok (.iaload, 1) := by decide +kernel
theorem d_Mod_round_105 : decode b_Mod_round 105 = .ok (.iadd, 1) := by decide +kernel
theorem d_Mod_round_106 : decode b_Mod_round 106 = .ok (.iload 5, 2) := by decide +kernel
theorem d_Mod_round_108 : decode b_Mod_round 108 = .ok (.iadd, 1) := by decide +kernel
theorem d_Mod_round_109 : decode b_Mod_round 109 = .ok (.iastore, 1) := by decide +kernel
theorem d_Mod_round_110 : decode b_Mod_round 110 = .ok (.iinc 1 1, 3) := by decide +kernel
theorem d_Mod_round_113 : decode b_Mod_round 113 = .ok (.goto (-110), 3) := by decide +kernel
theorem d_Mod_round_116 : decode b_Mod_round 116 = .ok (.aload_n 0, 1) := by decide +kernel
theorem d_Mod_round_117 : decode b_Mod_round 117 = .ok (.getfield 29, 3) := by decide +kernel
theorem d_Mod_round_120 : decode b_Mod_round 120 = .ok (.iconst 0, 1) := by decide +kernel
theorem d_Mod_round_121 : decode b_Mod_round 121 = .ok (.iaload, 1) := by decide +kernel
theorem d_Mod_round_122 : decode b_Mod_round 122 = .ok (.istore_n 1, 1) := by decide +kernel
theorem d_Mod_round_123 : decode b_Mod_round 123 = .ok (.aload_n 0, 1) := by decide +kernel
theorem d_Mod_round_124 : decode b_Mod_round 124 = .ok (.getfield 29, 3) := by decide +kernel
theorem d_Mod_round_127 : decode b_Mod_round 127 = .ok (.iconst 1, 1) := by decide +kernel
theorem d_Mod_round_128 : decode b_Mod_round 128 = .ok (.iaload, 1) := by decide +kernel
theorem d_Mod_round_129 : decode b_Mod_round 129 = .ok (.istore_n 2, 1) := by decide +kernel
theorem d_Mod_round_130 : decode b_Mod_round 130 = .ok (.aload_n 0, 1) := by decide +kernel
theorem d_Mod_round_131 : decode b_Mod_round 131 = .ok (.getfield 29, 3) := by decide +kernel
theorem d_Mod_round_134 : decode b_Mod_round 134 = .ok (.iconst 2, 1) := by decide +kernel
theorem d_Mod_round_135 : decode b_Mod_round 135 = .ok (.iaload, 1) := by decide +kernel
theorem d_Mod_round_136 : decode b_Mod_round 136 = .ok (.istore_n 3, 1) := by decide +kernel
theorem d_Mod_round_137 : decode b_Mod_round 137 = .ok (.aload_n 0, 1) := by decide +kernel
theorem d_Mod_round_138 : decode b_Mod_round 138 = .ok (.getfield 29, 3) := by decide +kernel
theorem d_Mod_round_141 : decode b_Mod_round 141 = .ok (.iconst 3, 1) := by decide +kernel
theorem d_Mod_round_142 : decode b_Mod_round 142 = .ok (.iaload, 1) := by decide +kernel
theorem d_Mod_round_143 : decode b_Mod_round 143 = .ok (.istore 4, 2) := by decide +kernel
theorem d_Mod_round_145 : decode b_Mod_round 145 = .ok (.aload_n 0, 1) := by decide +kernel
theorem d_Mod_round_146 : decode b_Mod_round 146 = .ok (.getfield 29, 3) := by decide +kernel
theorem d_Mod_round_149 : decode b_Mod_round 149 = .ok (.iconst 4, 1) := by decide +kernel
theorem d_Mod_round_150 : decode b_Mod_round 150 = .ok (.iaload, 1) := by decide +kernel
theorem d_Mod_round_151 : decode b_Mod_round 151 = .ok (.istore 5, 2) := by decide +kernel
theorem d_Mod_round_153 : decode b_Mod_round 153 = .ok (.aload_n 0, 1) := by decide +kernel
theorem d_Mod_round_154 : decode b_Mod_round 154 = .ok (.getfield 29, 3) := by decide +kernel
theorem d_Mod_round_157 : decode b_Mod_round 157 = .ok (.iconst 5, 1) := by decide +kernel
theorem d_Mod_round_158 : decode b_Mod_round 158 = .ok (.iaload, 1) := by decide +kernel
theorem d_Mod_round_159 : decode b_Mod_round 159 = .ok (.istore 6, 2) := by decide +kernel
theorem d_Mod_round_161 : decode b_Mod_round 161 = .ok (.aload_n 0, 1) := by decide +kernel
theorem d_Mod_round_162 : decode b_Mod_round 162 = .ok (.getfield 29, 3) := by decide +kernel
theorem d_Mod_round_165 : decode b_Mod_round 165 = .ok (.bipush 6, 2) := by decide +kernel
theorem d_Mod_round_167 : decode b_Mod_round 167 = .ok (.iaload, 1) := by decide +kernel
theorem d_Mod_round_168 : decode b_Mod_round 168 = .ok (.istore 7, 2) := by decide +kernel
theorem d_Mod_round_170 : decode b_Mod_round 170 = .ok (.aload_n 0, 1) := by decide +kernel
theorem d_Mod_round_171 : decode b_Mod_round 171 = .ok (.getfield 29, 3) := by decide +kernel
theorem d_Mod_round_174 : decode b_Mod_round 174 = .ok (.bipush 7, 2) := by decide +kernel
theorem d_Mod_round_176 : decode b_Mod_round 176 = .ok (.iaload, 1) := by decide +kernel
theorem d_Mod_round_177 : decode b_Mod_round 177 = .ok (.istore 8, 2) := by decide +kernel
theorem d_Mod_round_179 : decode b_Mod_round 179 = .ok (.iconst 0, 1) := by decide +kernel
theorem d_Mod_round_180 : decode b_Mod_round 180 = .ok (.istore 9, 2) := by decide +kernel
theorem d_Mod_round_182 : decode b_Mod_round 182 = .ok (.iload 9, 2) := by decide +kernel
theorem d_Mod_round_184 : decode b_Mod_round 184 = .ok (.bipush 64, 2) := by decide +kernel
theorem d_Mod_round_186 : decode b_Mod_round 186 = .ok (.if_icmp .ge 152, 3) := by decide +kernel
theorem d_Mod_round_189 : decode b_Mod_round 189 = .ok (.iload 8, 2) := by decide +kernel
theorem d_Mod_round_191 : decode b_Mod_round 191 = .ok (.iload 5, 2) := by decide +kernel
theorem d_Mod_round_193 : decode b_Mod_round 193 = .ok (.bipush 6, 2) := by decide +kernel
theorem d_Mod_round_195 : decode b_Mod_round 195 = .ok (.iushr, 1) := by decide +kernel
theorem d_Mod_round_196 : decode b_Mod_round 196 = .ok (.iload 5, 2) := by decide +kernel
theorem d_Mod_round_198 : decode b_Mod_round 198 = .ok (.bipush 26, 2) := by decide +kernel
theorem d_Mod_round_200 : decode b_Mod_round 200 = .ok (.ishl, 1) := by decide +kernel
theorem d_Mod_round_201 : decode b_Mod_round 201 = .ok (.ior, 1) := by decide +kernel
theorem d_Mod_round_202 : decode b_Mod_round 202 = .ok (.iload 5, 2) := by decide +kernel
theorem d_Mod_round_204 : decode b_Mod_round 204 = .ok (.bipush 11, 2) := by decide +kernel
theorem d_Mod_round_206 : decode b_Mod_round 206 = .ok (.iushr, 1) := by decide +kernel
theorem d_Mod_round_207 : decode b_Mod_round 207 = .ok (.iload 5, 2) := by decide +kernel
theorem d_Mod_round_209 : decode b_Mod_round 209 = .ok (.bipush 21, 2) := by decide +kernel
theorem d_Mod_round_211 : decode b_Mod_round 211 = .ok (.ishl, 1) := by decide +kernel
theorem d_Mod_round_212 : decode b_Mod_round 212 = .ok (.ior, 1) := by decide +kernel
theorem d_Mod_round_213 : decode b_Mod_round 213 = .ok (.ixor, 1) := by decide +kernel
theorem d_Mod_round_214 : decode b_Mod_round 214 = .ok (.iload 5, 2) := by decide +kernel
theorem d_Mod_round_216 : decode b_Mod_round 216 = .ok (.bipush 25, 2) := by decide +kernel
theorem d_Mod_round_218 : decode b_Mod_round 218 = .ok (.iushr, 1) := by decide +kernel
theorem d_Mod_round_219 : decode b_Mod_round 219 = .ok (.iload 5, 2) := by decide +kernel
theorem d_Mod_round_221 : decode b_Mod_round 221 = .ok (.bipush 7, 2) := by decide +kernel
theorem d_Mod_round_223 : decode b_Mod_round 223 = .ok (.ishl, 1) := by decide +kernel
theorem d_Mod_round_224 : decode b_Mod_round 224 = .ok (.ior, 1) := by decide +kernel
theorem d_Mod_round_225 : decode b_Mod_round 225 = .ok (.ixor, 1) := by decide +kernel
theorem d_Mod_round_226 : decode b_Mod_round 226 = .ok (.iadd, 1) := by decide +kernel
theorem d_Mod_round_227 : decode b_Mod_round 227 = .ok (.iload 5, 2) := by decide +kernel
theorem d_Mod_round_229 : decode b_Mod_round 229 = .ok (.iload 6, 2) := by decide +kernel
theorem d_Mod_round_231 : decode b_Mod_round 231 = .ok (.iand, 1) := by decide +kernel
theorem d_Mod_round_232 : decode b_Mod_round 232 = .ok (.iload 5, 2) := by decide +kernel
theorem d_Mod_round_234 : decode b_Mod_round 234 = .ok (.iconst (-1), 1) := by decide +kernel
theorem d_Mod_round_235 : decode b_Mod_round 235 = .ok (.ixor, 1) := by decide +kernel
theorem d_Mod_round_236 : decode b_Mod_round 236 = .ok (.iload 7, 2) := by decide +kernel
theorem d_Mod_round_238 : decode b_Mod_round 238 = .ok (.iand, 1) := by decide +kernel
theorem d_Mod_round_239 : decode b_Mod_round 239 = .ok (.ixor, 1) := by decide +kernel
theorem d_Mod_round_240 : decode b_Mod_round 240 = .ok (.iadd, 1) := by decide +kernel
theorem d_Mod_round_241 : decode b_Mod_round 241 = .ok (.getstatic 51, 3) := by decide +kernel
theorem d_Mod_round_244 : decode b_Mod_round 244 = .ok (.iload 9, 2) := by decide +kernel
theorem d_Mod_round_246 : decode b_Mod_round 246 = .ok (.iaload, 1) := by decide +kernel
theorem d_Mod_round_247 : decode b_Mod_round 247 = .ok (.iadd, 1) := by decide +kernel
theorem d_Mod_round_248 : decode b_Mod_round 248 = .ok (.aload_n 0, 1) := by decide +kernel
theorem d_Mod_round_249 : decode b_Mod_round 249 = .ok (.getfield 26, 3) := by decide +kernel
theorem d_Mod_round_252 : decode b_Mod_round 252 = .ok (.iload 9, 2) := by decide +kernel
theorem d_Mod_round_254 : decode b_Mod_round 254 = .ok (.iaload, 1) := by decide +kernel
theorem d_Mod_round_255 : decode b_Mod_round 255 = .ok (.iadd, 1) := by decide +kernel
theorem d_Mod_round_256 : decode b_Mod_round 256 = .ok (.istore 10, 2) := by decide +kernel
theorem d_Mod_round_258 : decode b_Mod_round 258 = .ok (.iload_n 1, 1) := by decide +kernel
theorem d_Mod_round_259 : decode b_Mod_round 259 = .ok (.iconst 2, 1) := by decide +kernel
theorem d_Mod_round_260 : decode b_Mod_round 260 = .ok (.iushr, 1) := by decide +kernel
theorem d_Mod_round_261 : decode b_Mod_round 261 = .ok (.iload_n 1, 1) := by decide +kernel
theorem d_Mod_round_262 : decode b_Mod_round 262 = .ok (.bipush 30, 2) := by decide +kernel
theorem d_Mod_round_264 : decode b_Mod_round 264 = .ok (.ishl, 1) := by decide +kernel
theorem d_Mod_round_265 : decode b_Mod_round 265 = .ok (.ior, 1) := by decide +kernel
theorem d_Mod_round_266 : decode b_Mod_round 266 = .ok (.iload_n 1, 1) := by decide +kernel
theorem d_Mod_round_267 : decode b_Mod_round 267 = .ok (.bipush 13, 2) := by decide +kernel
theorem d_Mod_round_269 : decode b_Mod_round 269 = .ok (.iushr, 1) := by decide +kernel
theorem d_Mod_round_270 : decode b_Mod_round 270 = .ok (.iload_n 1, 1) := by decide +kernel
theorem d_Mod_round_271 : decode b_Mod_round 271 = .ok (.bipush 19, 2) := by decide +kernel
theorem d_Mod_round_273 : decode b_Mod_round 273 = .ok (.ishl, 1) := by decide +kernel
theorem d_Mod_round_274 : decode b_Mod_round 274 = .ok (.ior, 1) := by decide +kernel
theorem d_Mod_round_275 : decode b_Mod_round 275 = .ok (.ixor, 1) := by decide +kernel
theorem d_Mod_round_276 : decode b_Mod_round 276 = .ok (.iload_n 1, 1) := by decide +kernel
theorem d_Mod_round_277 : decode b_Mod_round 277 = .ok (.bipush 22, 2) := by decide +kernel
theorem d_Mod_round_279 : decode b_Mod_round 279 = .ok (.iushr, 1) := by decide +kernel
theorem d_Mod_round_280 : decode b_Mod_round 280 = .ok (.iload_n 1, 1) := by decide +kernel
theorem d_Mod_round_281 : decode b_Mod_round 281 = .ok (.bipush 10, 2) := by decide +kernel
theorem d_Mod_round_283 : decode b_Mod_round 283 = .ok (.ishl, 1) := by decide +kernel
theorem d_Mod_round_284 : decode b_Mod_round 284 = .ok (.ior, 1) := by decide +kernel
theorem d_Mod_round_285 : decode b_Mod_round 285 = .ok (.ixor, 1) := by decide +kernel
theorem d_Mod_round_286 : decode b_Mod_round 286 = .ok (.iload_n 1, 1) := by decide +kernel
theorem d_Mod_round_287 : decode b_Mod_round 287 = .ok (.iload_n 2, 1) := by decide +kernel
theorem d_Mod_round_288 : decode b_Mod_round 288 = .ok (.iand, 1) := by decide +kernel
theorem d_Mod_round_289 : decode b_Mod_round 289 = .ok (.iload_n 1, 1) := by decide +kernel
theorem d_Mod_round_290 : decode b_Mod_round 290 = .ok (.iload_n 3, 1) := by decide +kernel
theorem d_Mod_round_291 : decode b_Mod_round 291 = .ok (.iand, 1) := by decide +kernel
theorem d_Mod_round_292 : decode b_Mod_round 292 = .ok (.ixor, 1) := by decide +kernel
theorem d_Mod_round_293 : decode b_Mod_round 293 = .ok (.iload_n 2, 1) := by decide +kernel
theorem d_Mod_round_294 : decode b_Mod_round 294 = .ok (.iload_n 3, 1) := by decide +kernel
theorem d_Mod_round_295 : decode b_Mod_round 295 = .ok (.iand, 1) := by decide +kernel
theorem d_Mod_round_296 : decode b_Mod_round 296 = .ok (.ixor, 1) := by decide +kernel
theorem d_Mod_round_297 : decode b_Mod_round 297 = .ok (.iadd, 1) := by decide +kernel
theorem d_Mod_round_298 : decode b_Mod_round 298 = .ok (.istore 11, 2) := by decide +kernel
theorem d_Mod_round_300 : decode b_Mod_round 300 = .ok (.iload 7, 2) := by decide +kernel
theorem d_Mod_round_302 : decode b_Mod_round 302 = .ok (.istore 8, 2) := by decide +kernel
theorem d_Mod_round_304 : decode b_Mod_round 304 = .ok (.iload 6, 2) := by decide +kernel
theorem d_Mod_round_306 : decode b_Mod_round 306 = .ok (.istore 7, 2) := by decide +kernel
theorem d_Mod_round_308 : decode b_Mod_round 308 = .ok (.iload 5, 2) := by decide +kernel
theorem d_Mod_round_310 : decode b_Mod_round 310 = .ok (.istore 6, 2) := by decide +kernel
theorem d_Mod_round_312 : decode b_Mod_round 312 = .ok (.iload 4, 2) := by decide +kernel
theorem d_Mod_round_314 : decode b_Mod_round 314 = .ok (.iload 10, 2) := by decide +kernel
theorem d_Mod_round_316 : decode b_Mod_round 316 = .ok (.iadd, 1) := by decide +kernel
theorem d_Mod_round_317 : decode b_Mod_round 317 = .ok (.istore 5, 2) := by decide +kernel
theorem d_Mod_round_319 : decode b_Mod_round 319 = .ok (.iload_n 3, 1) := by decide +kernel
theorem d_Mod_round_320 : decode b_Mod_round 320 = .ok (.istore 4, 2) := by decide +kernel
theorem d_Mod_round_322 : decode b_Mod_round 322 = .ok (.iload_n 2, 1) := by decide +kernel
theorem d_Mod_round_323 : decode b_Mod_round 323 = .ok (.istore_n 3, 1) := by decide +kernel
theorem d_Mod_round_324 : decode b_Mod_round 324 = .ok (.iload_n 1, 1) := by decide +kernel
theorem d_Mod_round_325 : decode b_Mod_round 325 = .ok (.istore_n 2, 1) := by decide +kernel
theorem d_Mod_round_326 : decode b_Mod_round 326 = .ok (.iload 10, 2) := by decide +kernel
theorem d_Mod_round_328 : decode b_Mod_round 328 = .ok (.iload 11, 2) := by decide +kernel
theorem d_Mod_round_330 : decode b_Mod_round 330 = .ok (.iadd, 1) := by decide +kernel
theorem d_Mod_round_331 : decode b_Mod_round 331 = .ok (.istore_n 1, 1) := by decide +kernel
theorem d_Mod_round_332 : decode b_Mod_round 332 = .ok (.iinc 9 1, 3) := by decide +kernel
theorem d_Mod_round_335 : decode b_Mod_round 335 = .ok (.goto (-153), 3) := by decide +kernel
theorem d_Mod_round_338 : decode b_Mod_round 338 = .ok (.aload_n 0, 1) := by decide +kernel
theorem d_Mod_round_339 : decode b_Mod_round 339 = .ok (.getfield 29, 3) := by decide +kernel
theorem d_Mod_round_342 : decode b_Mod_round 342 = .ok (.iconst 0, 1) := by decide +kernel
theorem d_Mod_round_343 : decode b_Mod_round 343 = .ok (.dup2, 1) := by decide +kernel
theorem d_Mod_round_344 : decode b_Mod_round 344 = .ok (.iaload, 1) := by decide +kernel
theorem d_Mod_round_345 : decode b_Mod_round 345 = .ok (.iload_n 1, 1) := by decide +kernel
theorem d_Mod_round_346 : decode b_Mod_round 346 = .ok (.iadd, 1) := by decide +kernel
theorem d_Mod_round_347 : decode b_Mod_round 347 = .ok (.iastore, 1) := by decide +kernel
theorem d_Mod_round_348 : decode b_Mod_round 348 = .ok (.aload_n 0, 1) := by decide +kernel
theorem d_Mod_round_349 : decode b_Mod_round 349 = .ok (.getfield 29, 3) := by decide +kernel
theorem d_Mod_round_352 : decode b_Mod_round 352 = .ok (.iconst 1, 1) := by decide +kernel
theorem d_Mod_round_353 : decode b_Mod_round 353 = .ok (.dup2, 1) := by decide +kernel
theorem d_Mod_round_354 : decode b_Mod_round 354 = .ok (.iaload, 1) := by decide +kernel
theorem d_Mod_round_355 : decode b_Mod_round 355 = .ok (.iload_n 2, 1) := by decide +kernel
theorem d_Mod_round_356 : decode b_Mod_round 356 = .ok (.iadd, 1) := by decide +kernel
theorem d_Mod_round_357 : decode b_Mod_round 357 = .ok (.iastore, 1) := by decide +kernel
theorem d_Mod_round_358 : decode b_Mod_round 358 = .ok (.aload_n 0, 1) := by decide +kernel
theorem d_Mod_round_359 : decode b_Mod_round 359 = .ok (.getfield 29, 3) := by decide +kernel
theorem d_Mod_round_362 : decode b_Mod_round 362 = .ok (.iconst 2, 1) := by decide +kernel
theorem d_Mod_round_363 : decode b_Mod_round 363 = .ok (.dup2, 1) := by decide +kernel
theorem d_Mod_round_364 : decode b_Mod_round 364 = .ok (.iaload, 1) := by decide +kernel
theorem d_Mod_round_365 : decode b_Mod_round 365 = .ok (.iload_n 3, 1) := by decide +kernel
theorem d_Mod_round_366 : decode b_Mod_round 366 = .ok (.iadd, 1) := by decide +kernel
theorem d_Mod_round_367 : decode b_Mod_round 367 = .ok (.iastore, 1) := by decide +kernel
theorem d_Mod_round_368 : decode b_Mod_round 368 = .ok (.aload_n 0, 1) := by decide +kernel
theorem d_Mod_round_369 : decode b_Mod_round 369 = .ok (.getfield 29, 3) := by decide +kernel
theorem d_Mod_round_372 : decode b_Mod_round 372 = .ok (.iconst 3, 1) := by decide +kernel
theorem d_Mod_round_373 : decode b_Mod_round 373 = .ok (.dup2, 1) := by decide +kernel
theorem d_Mod_round_374 : decode b_Mod_round 374 = .ok (.iaload, 1) := by decide +kernel
theorem d_Mod_round_375 : decode b_Mod_round 375 = .ok (.iload 4, 2) := by decide +kernel
theorem d_Mod_round_377 : decode b_Mod_round 377 = .ok (.iadd, 1) := by decide +kernel
theorem d_Mod_round_378 : decode b_Mod_round 378 = .ok (.iastore, 1) := by decide +kernel
theorem d_Mod_round_379 : decode b_Mod_round 379 = .ok (.aload_n 0, 1) := by decide +kernel
theorem d_Mod_round_380 : decode b_Mod_round 380 = .ok (.getfield 29, 3) := by decide +kernel
theorem d_Mod_round_383 : decode b_Mod_round 383 = .ok (.iconst 4, 1) := by decide +kernel
theorem d_Mod_round_384 : decode b_Mod_round 384 = .ok (.dup2, 1) := by decide +kernel
theorem d_Mod_round_385 : decode b_Mod_round 385 = .ok (.iaload, 1) := by decide +kernel
theorem d_Mod_round_386 : decode b_Mod_round 386 = .ok (.iload 5, 2) := by decide +kernel
theorem d_Mod_round_388 : decode b_Mod_round 388 = .ok (.iadd, 1) := by decide +kernel
theorem d_Mod_round_389 : decode b_Mod_round 389 = .ok (.iastore, 1) := by decide +kernel
theorem d_Mod_round_390 : decode b_Mod_round 390 = .ok (.aload_n 0, 1) := by decide +kernel
theorem d_Mod_round_391 : decode b_Mod_round 391 = .ok (.getfield 29, 3) := by decide +kernel
theorem d_Mod_round_394 : decode b_Mod_round 394 = .ok (.iconst 5, 1) := by decide +kernel
theorem d_Mod_round_395 : decode b_Mod_round 395 = .ok (.dup2, 1) := by decide +kernel
theorem d_Mod_round_396 : decode b_Mod_round 396 = .ok (.iaload, 1) := by decide +kernel
theorem d_Mod_round_397 : decode b_Mod_round 397 = .ok (.iload 6, 2) := by decide +kernel
theorem d_Mod_round_399 : decode b_Mod_round 399 = .ok (.iadd, 1) := by decide +kernel
theorem d_Mod_round_400 : decode b_Mod_round 400 = .ok (.iastore, 1) := by decide +kernel
theorem d_Mod_round_401 : decode b_Mod_round 401 = .ok (.aload_n 0, 1) := by decide +kernel
theorem d_Mod_round_402 : decode b_Mod_round 402 = .ok (.getfield 29, 3) := by decide +kernel
theorem d_Mod_round_405 : decode b_Mod_round 405 = .ok (.bipush 6, 2) := by decide +kernel
theorem d_Mod_round_407 : decode b_Mod_round 407 = .ok (.dup2, 1) := by decide +kernel
theorem d_Mod_round_408 : decode b_Mod_round 408 = .ok (.iaload, 1) := by decide +kernel
theorem d_Mod_round_409 : decode b_Mod_round 409 = .ok (.iload 7, 2) := by decide +kernel
theorem d_Mod_round_411 : decode b_Mod_round 411 = .ok (.iadd, 1) := by decide +kernel
theorem d_Mod_round_412 : decode b_Mod_round 412 = .ok (.iastore, 1) := by decide +kernel
theorem d_Mod_round_413 : decode b_Mod_round 413 = .ok (.aload_n 0, 1) := by decide +kernel
theorem d_Mod_round_414 : decode b_Mod_round 414 = .ok (.getfield 29, 3) := by decide +kernel
theorem d_Mod_round_417 : decode b_Mod_round 417 = .ok (.bipush 7, 2) := by decide +kernel
theorem d_Mod_round_419 : decode b_Mod_round 419 = .ok (.dup2, 1) := by decide +kernel
theorem d_Mod_round_420 : decode b_Mod_round 420 = .ok (.iaload, 1) := by decide +kernel
theorem d_Mod_round_421 : decode b_Mod_round 421 = .ok (.iload 8, 2) := by decide +kernel
theorem d_Mod_round_423 : decode b_Mod_round 423 = .ok (.iadd, 1) := by decide +kernel
theorem d_Mod_round_424 : decode b_Mod_round 424 = .ok (.iastore, 1) := by decide +kernel
theorem d_Mod_round_425 : decode b_Mod_round 425 = .ok (.return_, 1) := by decide +kernel
theorem d_Mod_sha5_0 : decode b_Mod_sha5 0 = .ok (.iconst 0, 1) := by decide +kernel
theorem d_Mod_sha5_1 : decode b_Mod_sha5 1 = .ok (.istore 6, 2) := by decide +kernel
theorem d_Mod_sha5_3 : decode b_Mod_sha5 3 = .ok (.iload 6, 2) := by decide +kernel
theorem d_Mod_sha5_5 : decode b_Mod_sha5 5 = .ok (.bipush 8, 2) := by decide +kernel
theorem d_Mod_sha5_7 : decode b_Mod_sha5 7 = .ok (.if_icmp .ge 22, 3) := by decide +kernel
theorem d_Mod_sha5_10 : decode b_Mod_sha5 10 = .ok (.aload_n 0, 1) := by decide +kernel
theorem d_Mod_sha5_11 : decode b_Mod_sha5 11 = .ok (.getfield 29, 3) := by decide +kernel
theorem d_Mod_sha5_14 : decode b_Mod_sha5 14 = .ok (.iload 6, 2) := by decide +kernel
theorem d_Mod_sha5_16 : decode b_Mod_sha5 16 = .ok (.getstatic 54, 3) := by decide +kernel
theorem d_Mod_sha5_19 : decode b_Mod_sha5 19 = .ok (.iload 6, 2) := by decide +kernel
theorem d_Mod_sha5_21 : decode b_Mod_sha5 21 = .ok (.iaload, 1) := by decide +kernel
theorem d_Mod_sha5_22 : decode b_Mod_sha5 22 = .ok (.iastore, 1) := by decide +kernel
theorem d_Mod_sha5_23 : decode b_Mod_sha5 23 = .ok (.iinc 6 1, 3) := by decide +kernel
theorem d_Mod_sha5_26 : decode b_Mod_sha5 26 = .ok (.goto (-23), 3) := by decide +kernel
theorem d_Mod_sha5_29 : decode b_Mod_sha5 29 = .ok (.iload_n 3, 1) := by decide +kernel
theorem d_Mod_sha5_30 : decode b_Mod_sha5 30 = .ok (.bipush 9, 2) := by decide +kernel
theorem d_Mod_sha5_32 : decode b_Mod_sha5 32 = .ok (.iadd, 1) := by decide +kernel
theorem d_Mod_sha5_33 : decode b_Mod_sha5 33 = .ok (.bipush 63, 2) := by decide +kernel
theorem d_Mod_sha5_35 : decode b_Mod_sha5 35 = .ok (.iadd, 1) := by decide +kernel
theorem d_Mod_sha5_36 : decode b_Mod_sha5 36 = .ok (.bipush 64, 2) := by decide +kernel
theorem d_Mod_sha5_38 : decode b_Mod_sha5 38 = .ok (.idiv, 1) := by decide +kernel
theorem d_Mod_sha5_39 : decode b_Mod_sha5 39 = .ok (.bipush 64, 2) := by decide +kernel
theorem d_Mod_sha5_41 : decode b_Mod_sha5 41 = .ok (.imul, 1) := by decide +kernel
theorem d_Mod_sha5_42 : decode b_Mod_sha5 42 = .ok (.istore 6, 2) := by decide +kernel
theorem d_Mod_sha5_44 : decode b_Mod_sha5 44 = .ok (.iconst 0, 1) := by decide +kernel
theorem d_Mod_sha5_45 : decode b_Mod_sha5 45 = .ok (.istore 7, 2) := by decide +kernel
theorem d_Mod_sha5_47 : decode b_Mod_sha5 47 = .ok (.iload 7, 2) := by decide +kernel
theorem d_Mod_sha5_49 : decode b_Mod_sha5 49 = .ok (.iload 6, 2) := by decide +kernel
theorem d_Mod_sha5_51 : decode b_Mod_sha5 51 = .ok (.if_icmp .ge 146, 3) := by decide +kernel
theorem d_Mod_sha5_54 : decode b_Mod_sha5 54 = .ok (.iconst 0, 1) := by decide +kernel
theorem d_Mod_sha5_55 : decode b_Mod_sha5 55 = .ok (.istore 8, 2) := by decide +kernel
theorem d_Mod_sha5_57 : decode b_Mod_sha5 57 = .ok (.iload 8, 2) := by decide +kernel
theorem d_Mod_sha5_59 : decode b_Mod_sha5 59 = .ok (.bipush 16, 2) := by decide +kernel
theorem d_Mod_sha5_61 : decode b_Mod_sha5 61 = .ok (.if_icmp .ge 126, 3) := by decide +kernel
theorem d_Mod_sha5_64 : decode b_Mod_sha5 64 = .ok (.iconst 0, 1) := by decide +kernel
theorem d_Mod_sha5_65 : decode b_Mod_sha5 65 = .ok (.istore 9, 2) := by decide +kernel
theorem d_Mod_sha5_67 : decode b_Mod_sha5 67 = .ok (.iconst 0, 1) := by decide +kernel
theorem d_Mod_sha5_68 : decode b_Mod_sha5 68 = .ok (.istore 10, 2) := by decide +kernel
theorem d_Mod_sha5_70 : decode b_Mod_sha5 70 = .ok (.iload 10, 2) := by decide +kernel
theorem d_Mod_sha5_72 : decode b_Mod_sha5 72 = .ok (.iconst 4, 1) := by decide +kernel
theorem d_Mod_sha5_73 : decode b_Mod_sha5 73 = .ok (.if_icmp .ge 99, 3) := by decide +kernel
theorem d_Mod_sha5_76 : decode b_Mod_sha5 76 = .ok (.iload 7, 2) := by decide +kernel
theorem d_Mod_sha5_78 : decode b_Mod_sha5 78 = .ok (.iconst 4, 1) := by decide +kernel
theorem d_Mod_sha5_79 : decode b_Mod_sha5 79 = .ok (.iload 8, 2) := by decide +kernel
theorem d_Mod_sha5_81 : decode b_Mod_sha5 81 = .ok (.imul, 1) := by decide +kernel
theorem d_Mod_sha5_82 : decode b_Mod_sha5 82 = .ok (.iadd, 1) := by decide +kernel
theorem d_Mod_sha5_83 : decode b_Mod_sha5 83 = .ok (.iload 10, 2) := by decide +kernel
theorem d_Mod_sha5_85 : decode b_Mod_sha5 85 = .ok (.iadd, 1) := by decide +kernel
theorem d_Mod_sha5_86 : decode b_Mod_sha5 86 = .ok (.istore 11, 2) := by decide +kernel
theorem d_Mod_sha5_88 : decode b_Mod_sha5 88 = .ok (.iload 11, 2) := by decide +kernel
theorem d_Mod_sha5_90 : decode b_Mod_sha5 90 = .ok (.iload_n 3, 1) := by decide +kernel
theorem d_Mod_sha5_91 : decode b_Mod_sha5 91 = .ok (.if_icmp .ge 16, 3) := by decide +kernel
theorem d_Mod_sha5_94 : decode b_Mod_sha5 94 = .ok (.aload_n 1, 1) := by decide +kernel
theorem d_Mod_sha5_95 : decode b_Mod_sha5 95 = .ok (.iload_n 2, 1) := by decide +kernel
theorem d_Mod_sha5_96 : decode b_Mod_sha5 96 = .ok (.iload 11, 2) := by decide +kernel
theorem d_Mod_sha5_98 : decode b_Mod_sha5 98 = .ok (.iadd, 1) := by decide +kernel
theorem d_Mod_sha5_99 : decode b_Mod_sha5 99 = .ok (.baload, 1) := by decide +kernel
theorem d_Mod_sha5_100 : decode b_Mod_sha5 100 = .ok (.sipush 255, 3) := by decide +kernel
theorem d_Mod_sha5_103 : decode b_Mod_sha5 103 = .ok (.iand, 1) := by decide +kernel
theorem d_Mod_sha5_104 : decode b_Mod_sha5 104 = .ok (.goto 16, 3) := by decide +kernel
theorem d_Mod_sha5_107 : decode b_Mod_sha5 107 = .ok (.iload 11, 2) := by decide +kernel
theorem d_Mod_sha5_109 : decode b_Mod_sha5 109 = .ok (.iload_n 3, 1) := by decide +kernel
theorem d_Mod_sha5_110 : decode b_Mod_sha5 110 = .ok (.if_icmp .ne 9, 3) := by decide +kernel
theorem d_Mod_sha5_113 : decode b_Mod_sha5 113 = .ok (.sipush 128, 3) := by decide +kernel
theorem d_Mod_sha5_116 : decode b_Mod_sha5 116 = .ok (.goto 4, 3) := by decide +kernel
theorem d_Mod_sha5_119 : decode b_Mod_sha5 119 = .ok (.iconst 0, 1) := by decide +kernel
theorem d_Mod_sha5_120 : decode b_Mod_sha5 120 = .ok (.istore 12, 2) := by decide +kernel
theorem d_Mod_sha5_122 : decode b_Mod_sha5 122 = .ok (.iload 11, 2) := by decide +kernel
theorem d_Mod_sha5_124 : decode b_Mod_sha5 124 = .ok (.iload 6, 2) := by decide +kernel
theorem d_Mod_sha5_126 : decode b_Mod_sha5 126 = .ok (.bipush 8, 2) := by decide +kernel
theorem d_Mod_sha5_128 : decode b_Mod_sha5 128 = .ok (.isub, 1) := by decide +kernel
theorem d_Mod_sha5_129 : decode b_Mod_sha5 129 = .ok (.if_icmp .lt 27, 3) := by decide +kernel
theorem d_Mod_sha5_132 : decode b_Mod_sha5 132 = .ok (.iload_n 3, 1) := by decide +kernel
theorem d_Mod_sha5_133 : decode b_Mod_sha5 133 = .ok (.i2l, 1) := by decide +kernel
theorem d_Mod_sha5_134 : decode b_Mod_sha5 134 = .ok (.ldc2_w 57, 3) := by decide +kernel
theorem d_Mod_sha5_137 : decode b_Mod_sha5 137 = .ok (.lmul, 1) := by decide +kernel
theorem d_Mod_sha5_138 : decode b_Mod_sha5 138 = .ok (.bipush 8, 2) := by decide +kernel
theorem d_Mod_sha5_140 : decode b_Mod_sha5 140 = .ok (.iload 6, 2) := by decide +kernel
theorem d_Mod_sha5_142 : decode b_Mod_sha5 142 = .ok (.iconst 1, 1) := by decide +kernel
theorem d_Mod_sha5_143 : decode b_Mod_sha5 143 = .ok (.isub, 1) := by decide +kernel
theorem d_Mod_sha5_144 : decode b_Mod_sha5 144 = .ok (.iload 11, 2) := by decide +kernel
theorem d_Mod_sha5_146 : decode b_Mod_sha5 146 = .ok (.isub, 1) := by decide +kernel
theorem d_Mod_sha5_147 : decode b_Mod_sha5 147 = .ok (.imul, 1) := by decide +kernel
theorem d_Mod_sha5_148 : decode b_Mod_sha5 148 = .ok (.lushr, 1) := by decide +kernel
theorem d_Mod_sha5_149 : decode b_Mod_sha5 149 = .ok (.l2i, 1) := by decide +kernel
theorem d_Mod_sha5_150 : decode b_Mod_sha5 150 = .ok (.sipush 255, 3) := by decide +kernel
theorem d_Mod_sha5_153 : decode b_Mod_sha5 153 = .ok (.iand, 1) := by decide +kernel
theorem d_Mod_sha5_154 : decode b_Mod_sha5 154 = .ok (.istore 12, 2) := by decide +kernel
theorem d_Mod_sha5_156 : decode b_Mod_sha5 156 = .ok (.iload 9, 2) := by decide +kernel
theorem d_Mod_sha5_158 : decode b_Mod_sha5 158 = .ok (.bipush 8, 2) := by decide +kernel
theorem d_Mod_sha5_160 : decode b_Mod_sha5 160 = .ok (.ishl, 1) := by decide +kernel
theorem d_Mod_sha5_161 : decode b_Mod_sha5 161 = .ok (.iload 12, 2) := by decide +kernel
theorem d_Mod_sha5_163 : decode b_Mod_sha5 163 = .ok (.ior, 1) := by decide +kernel
theorem d_Mod_sha5_164 : decode b_Mod_sha5 164 = .ok (.istore 9, 2) := by decide +kernel
theorem d_Mod_sha5_166 : decode b_Mod_sha5 166 = .ok (.iinc 10 1, 3) := by decide +kernel
theorem d_Mod_sha5_169 : decode b_Mod_sha5 169 = .ok (.goto (-99), 3) := by decide +kernel
theorem d_Mod_sha5_172 : decode b_Mod_sha5 172 = .ok (.aload_n 0, 1) := by decide +kernel
theorem d_Mod_sha5_173 : decode b_Mod_sha5 173 = .ok (.getfield 26, 3) := by decide +kernel
theorem d_Mod_sha5_176 : decode b_Mod_sha5 176 = .ok (.iload 8, 2) := by decide +kernel
theorem d_Mod_sha5_178 : decode b_Mod_sha5 178 = .ok (.iload 9, 2) := by decide +kernel
theorem d_Mod_sha5_180 : decode b_Mod_sha5 180 = .ok (.iastore, 1) := by decide +kernel
theorem d_Mod_sha5_181 : decode b_Mod_sha5 181 = .ok (.iinc 8 1, 3) := by decide +kernel
theorem d_Mod_sha5_184 : decode b_Mod_sha5 184 = .ok (.goto (-127), 3) := by decide +kernel
theorem d_Mod_sha5_187 : decode b_Mod_sha5 187 = .ok (.aload_n 0, 1) := by decide +kernel
theorem d_Mod_sha5_188 : decode b_Mod_sha5 188 = .ok (.invokevirtual 59, 3) := by decide +kernel
theorem d_Mod_sha5_191 : decode b_Mod_sha5 191 = .ok (.iinc 7 64, 3) := by decide +kernel
theorem d_Mod_sha5_194 : decode b_Mod_sha5 194 = .ok (.goto (-147), 3) := by decide +kernel
theorem d_Mod_sha5_197 : decode b_Mod_sha5 197 = .ok (.iconst 0, 1) := by decide +kernel
theorem d_Mod_sha5_198 : decode b_Mod_sha5 198 = .ok (.istore 7, 2) := by decide +kernel
theorem d_Mod_sha5_200 : decode b_Mod_sha5 200 = .ok (.iload 7, 2) := by decide +kernel
theorem d_Mod_sha5_202 : decode b_Mod_sha5 202 = .ok (.bipush 32, 2) := by decide +kernel
theorem d_Mod_sha5_204 : decode b_Mod_sha5 204 = .ok (.if_icmp .ge 38, 3) := by decide +kernel
theorem d_Mod_sha5_207 : decode b_Mod_sha5 207 = .ok (.aload 4, 2) := by decide +kernel
theorem d_Mod_sha5_209 : decode b_Mod_sha5 209 = .ok (.iload 5, 2) := by decide +kernel
theorem d_Mod_sha5_211 : decode b_Mod_sha5 211 = .ok (.iload 7, 2) := by decide +kernel
theorem d_Mod_sha5_213 : decode b_Mod_sha5 213 = .ok (.iadd, 1) := by decide +kernel
theorem d_Mod_sha5_214 : decode b_Mod_sha5 214 = .ok (.aload_n 0, 1) := by decide +kernel
theorem d_Mod_sha5_215 : decode b_Mod_sha5 215 = .ok (.getfield 29, 3) := by decide +kernel
theorem d_Mod_sha5_218 : decode b_Mod_sha5 218 = .ok (.iload 7, 2) := by decide +kernel
theorem d_Mod_sha5_220 : decode b_Mod_sha5 220 = .ok (.iconst 4, 1) := by decide +kernel
theorem d_Mod_sha5_221 : decode b_Mod_sha5 221 = .ok (.idiv, 1) := by decide +kernel
theorem d_Mod_sha5_222 : decode b_Mod_sha5 222 = .ok (.iaload, 1) := by decide +kernel
theorem d_Mod_sha5_223 : decode b_Mod_sha5 223 = .ok (.bipush 24, 2) := by decide +kernel
theorem d_Mod_sha5_225 : decode b_Mod_sha5 225 = .ok (.bipush 8, 2) := by decide +kernel
theorem d_Mod_sha5_227 : decode b_Mod_sha5 227 = .ok (.iload 7, 2) := by decide +kernel
theorem d_Mod_sha5_229 : decode b_Mod_sha5 229 = .ok (.iconst 4, 1) := by decide +kernel
theorem d_Mod_sha5_230 : decode b_Mod_sha5 230 = .ok (.irem, 1) := by decide +kernel
theorem d_Mod_sha5_231 : decode b_Mod_sha5 231 = .ok (.imul, 1) := by decide +kernel
theorem d_Mod_sha5_232 : decode b_Mod_sha5 232 = .ok (.isub, 1) := by decide +kernel
theorem d_Mod_sha5_233 : decode b_Mod_sha5 233 = .ok (.iushr, 1) := by decide +kernel
theorem d_Mod_sha5_234 : decode b_Mod_sha5 234 = .ok (.i2b, 1) := by decide +kernel
theorem d_Mod_sha5_235 : decode b_Mod_sha5 235 = .ok (.bastore, 1) := by decide +kernel
theorem d_Mod_sha5_236 : decode b_Mod_sha5 236 = .ok (.iinc 7 1, 3) := by decide +kernel
theorem d_Mod_sha5_239 : decode b_Mod_sha5 239 = .ok (.goto (-39), 3) := by decide +kernel
theorem d_Mod_sha5_242 : decode b_Mod_sha5 242 = .ok (.return_, 1) := by decide +kernel
theorem d_Mod_hash_0 : decode b_Mod_hash 0 = .ok (.aload_n 0, 1) := by decide +kernel
theorem d_Mod_hash_1 : decode b_Mod_hash 1 = .ok (.aload_n 1, 1) := by decide +kernel
theorem d_Mod_hash_2 : decode b_Mod_hash 2 = .ok (.iload_n 2, 1) := by decide +kernel
theorem d_Mod_hash_3 : decode b_Mod_hash 3 = .ok (.iload_n 3, 1) := by decide +kernel
theorem d_Mod_hash_4 : decode b_Mod_hash 4 = .ok (.aload_n 0, 1) := by decide +kernel
theorem d_Mod_hash_5 : decode b_Mod_hash 5 = .ok (.getfield 32, 3) := by decide +kernel
theorem d_Mod_hash_8 : decode b_Mod_hash 8 = .ok (.iconst 0, 1) := by decide +kernel
theorem d_Mod_hash_9 : decode b_Mod_hash 9 = .ok (.invokevirtual 62, 3) := by decide +kernel
theorem d_Mod_hash_12 : decode b_Mod_hash 12 = .ok (.aload_n 0, 1) := by decide +kernel
theorem d_Mod_hash_13 : decode b_Mod_hash 13 = .ok (.aload_n 0, 1) := by decide +kernel
theorem d_Mod_hash_14 : decode b_Mod_hash 14 = .ok (.getfield 32, 3) := by decide +kernel
theorem d_Mod_hash_17 : decode b_Mod_hash 17 = .ok (.iconst 0, 1) := by decide +kernel
theorem d_Mod_hash_18 : decode b_Mod_hash 18 = .ok (.bipush 32, 2) := by decide +kernel
theorem d_Mod_hash_20 : decode b_Mod_hash 20 = .ok (.aload 4, 2) := by decide +kernel
theorem d_Mod_hash_22 : decode b_Mod_hash 22 = .ok (.iload 5, 2) := by decide +kernel
theorem d_Mod_hash_24 : decode b_Mod_hash 24 = .ok (.invokevirtual 62, 3) := by decide +kernel
theorem d_Mod_hash_27 : decode b_Mod_hash 27 = .ok (.return_, 1) := by decide +kernel
theorem d_Mod_same_0 : decode b_Mod_same 0 = .ok (.iconst 0, 1) := by decide +kernel
theorem d_Mod_same_1 : decode b_Mod_same 1 = .ok (.istore 5, 2) := by decide +kernel
theorem d_Mod_same_3 : decode b_Mod_same 3 = .ok (.iload 5, 2) := by decide +kernel
theorem d_Mod_same_5 : decode b_Mod_same 5 = .ok (.iload 4, 2) := by decide +kernel
theorem d_Mod_same_7 : decode b_Mod_same 7 = .ok (.if_icmp .ge 26, 3) := by decide +kernel
theorem d_Mod_same_10 : decode b_Mod_same 10 = .ok (.aload_n 0, 1) := by decide +kernel
theorem d_Mod_same_11 : decode b_Mod_same 11 = .ok (.iload_n 1, 1) := by decide +kernel
theorem d_Mod_same_12 : decode b_Mod_same 12 = .ok (.iload 5, 2) := by decide +kernel
theorem d_Mod_same_14 : decode b_Mod_same 14 = .ok (.iadd, 1) := by decide +kernel
theorem d_Mod_same_15 : decode b_Mod_same 15 = .ok (.baload, 1) := by decide +kernel
theorem d_Mod_same_16 : decode b_Mod_same 16 = .ok (.aload_n 2, 1) := by decide +kernel
theorem d_Mod_same_17 : decode b_Mod_same 17 = .ok (.iload_n 3, 1) := by decide +kernel
theorem d_Mod_same_18 : decode b_Mod_same 18 = .ok (.iload 5, 2) := by decide +kernel
theorem d_Mod_same_20 : decode b_Mod_same 20 = .ok (.iadd, 1) := by decide +kernel
theorem d_Mod_same_21 : decode b_Mod_same 21 = .ok (.baload, 1) := by decide +kernel
theorem d_Mod_same_22 : decode b_Mod_same 22 = .ok (.if_icmp .eq 5, 3) := by decide +kernel
theorem d_Mod_same_25 : decode b_Mod_same 25 = .ok (.iconst 0, 1) := by decide +kernel
theorem d_Mod_same_26 : decode b_Mod_same 26 = .ok (.ireturn, 1) := by decide +kernel
theorem d_Mod_same_27 : decode b_Mod_same 27 = .ok (.iinc 5 1, 3) := by decide +kernel
theorem d_Mod_same_30 : decode b_Mod_same 30 = .ok (.goto (-27), 3) := by decide +kernel
theorem d_Mod_same_33 : decode b_Mod_same 33 = .ok (.iconst 1, 1) := by decide +kernel
theorem d_Mod_same_34 : decode b_Mod_same 34 = .ok (.ireturn, 1) := by decide +kernel
theorem d_Mod_push_0 : decode b_Mod_push 0 = .ok (.aload_n 0, 1) := by decide +kernel
theorem d_Mod_push_1 : decode b_Mod_push 1 = .ok (.getfield 66, 3) := by decide +kernel
theorem d_Mod_push_4 : decode b_Mod_push 4 = .ok (.bipush 24, 2) := by decide +kernel
theorem d_Mod_push_6 : decode b_Mod_push 6 = .ok (.if_icmp .eq 9, 3) := by decide +kernel
theorem d_Mod_push_9 : decode b_Mod_push 9 = .ok (.iload_n 3, 1) := by decide +kernel
theorem d_Mod_push_10 : decode b_Mod_push 10 = .ok (.bipush 80, 2) := by decide +kernel
theorem d_Mod_push_12 : decode b_Mod_push 12 = .ok (.if_icmp .le 5, 3) := by decide +kernel
theorem d_Mod_push_15 : decode b_Mod_push 15 = .ok (.iconst 0, 1) := by decide +kernel
theorem d_Mod_push_16 : decode b_Mod_push 16 = .ok (.ireturn, 1) := by decide +kernel
theorem d_Mod_push_17 : decode b_Mod_push 17 = .ok (.iconst 0, 1) := by decide +kernel
theorem d_Mod_push_18 : decode b_Mod_push 18 = .ok (.istore 4, 2) := by decide +kernel
theorem d_Mod_push_20 : decode b_Mod_push 20 = .ok (.iload 4, 2) := by decide +kernel
theorem d_Mod_push_22 : decode b_Mod_push 22 = .ok (.iload_n 3, 1) := by decide +kernel
theorem d_Mod_push_23 : decode b_Mod_push 23 = .ok (.if_icmp .ge 30, 3) := by decide +kernel
theorem d_Mod_push_26 : decode b_Mod_push 26 = .ok (.aload_n 0, 1) := by decide +kernel
theorem d_Mod_push_27 : decode b_Mod_push 27 = .ok (.getfield 41, 3) := by decide +kernel
theorem d_Mod_push_30 : decode b_Mod_push 30 = .ok (.bipush 80, 2) := by decide +kernel
theorem d_Mod_push_32 : decode b_Mod_push 32 = .ok (.aload_n 0, 1) := by decide +kernel
theorem d_Mod_push_33 : decode b_Mod_push 33 = .ok (.getfield 66, 3) := by decide +kernel
theorem d_Mod_push_36 : decode b_Mod_push 36 = .ok (.imul, 1) := by decide +kernel
theorem d_Mod_push_37 : decode b_Mod_push 37 = .ok (.iload 4, 2) := by decide +kernel
theorem d_Mod_push_39 : decode b_Mod_push 39 = .ok (.iadd, 1) := by decide +kernel
theorem d_Mod_push_40 : decode b_Mod_push 40 = .ok (.aload_n 1, 1) := by decide +kernel
theorem d_Mod_push_41 : decode b_Mod_push 41 = .ok (.iload_n 2, 1) := by decide +kernel
theorem d_Mod_push_42 : decode b_Mod_push 42 = .ok (.iload 4, 2) := by decide +kernel
theorem d_Mod_push_44 : decode b_Mod_push 44 = .ok (.iadd, 1) := by decide +kernel
theorem d_Mod_push_45 : decode b_Mod_push 45 = .ok (.baload, 1) := by decide +kernel
theorem d_Mod_push_46 : decode b_Mod_push 46 = .ok (.bastore, 1) := by decide +kernel
theorem d_Mod_push_47 : decode b_Mod_push 47 = .ok (.iinc 4 1, 3) := by decide +kernel
theorem d_Mod_push_50 : decode b_Mod_push 50 = .ok (.goto (-30), 3) := by decide +kernel
theorem d_Mod_push_53 : decode b_Mod_push 53 = .ok (.aload_n 0, 1) := by decide +kernel
theorem d_Mod_push_54 : decode b_Mod_push 54 = .ok (.getfield 44, 3) := by decide +kernel
theorem d_Mod_push_57 : decode b_Mod_push 57 = .ok (.aload_n 0, 1) := by decide +kernel
theorem d_Mod_push_58 : decode b_Mod_push 58 = .ok (.getfield 66, 3) := by decide +kernel
theorem d_Mod_push_61 : decode b_Mod_push 61 = .ok (.iload_n 3, 1) := by decide +kernel
theorem d_Mod_push_62 : decode b_Mod_push 62 = .ok (.iastore, 1) := by decide +kernel
theorem d_Mod_push_63 : decode b_Mod_push 63 = .ok (.aload_n 0, 1) := by decide +kernel
theorem d_Mod_push_64 : decode b_Mod_push 64 = .ok (.dup, 1) := by decide +kernel
theorem d_Mod_push_65 : decode b_Mod_push 65 = .ok (.getfield 66, 3) := by decide +kernel
theorem d_Mod_push_68 : decode b_Mod_push 68 = .ok (.iconst 1, 1) := by decide +kernel
theorem d_Mod_push_69 : decode b_Mod_push 69 = .ok (.iadd, 1) := by decide +kernel
theorem d_Mod_push_70 : decode b_Mod_push 70 = .ok (.putfield 66, 3) := by decide +kernel
theorem d_Mod_push_73 : decode b_Mod_push 73 = .ok (.iconst 1, 1) := by decide +kernel
theorem d_Mod_push_74 : decode b_Mod_push 74 = .ok (.ireturn, 1) := by decide +kernel
theorem d_Mod_pushNumber_0 : decode b_Mod_pushNumber 0 = .ok (.iload_n 1, 1) := by decide +kernel
theorem d_Mod_pushNumber_1 : decode b_Mod_pushNumber 1 = .ok (.ifCond .ne 14, 3) := by decide +kernel
theorem d_Mod_pushNumber_4 : decode b_Mod_pushNumber 4 = .ok (.aload_n 0, 1) := by decide +kernel
theorem d_Mod_pushNumber_5 : decode b_Mod_pushNumber 5 = .ok (.aload_n 0, 1) := by decide +kernel
theorem d_Mod_pushNumber_6 : decode b_Mod_pushNumber 6 = .ok (.getfield 32, 3) := by decide +kernel
theorem d_Mod_pushNumber_9 : decode b_Mod_pushNumber 9 = .ok (.iconst 0, 1) := by decide +kernel
theorem d_Mod_pushNumber_10 : decode b_Mod_pushNumber 10 = .ok (.iconst 0, 1) := by decide +kernel
theorem d_Mod_pushNumber_11 : decode b_Mod_pushNumber 11 = .ok (.invokevirtual 70, 3) := by decide +kernel
theorem d_Mod_pushNumber_14 : decode b_Mod_pushNumber 14 = .ok (.ireturn, 1) := by decide +kernel
theorem d_Mod_pushNumber_15 : decode b_Mod_pushNumber 15 = .ok (.iconst 0, 1) := by decide +kernel
theorem d_Mod_pushNumber_16 : decode b_Mod_pushNumber 16 = .ok (.istore_n 2, 1) := by decide +kernel
theorem d_Mod_pushNumber_17 : decode b_Mod_pushNumber 17 = .ok (.iload_n 2, 1) := by decide +kernel
theorem d_Mod_pushNumber_18 : decode b_Mod_pushNumber 18 = .ok (.iconst 4, 1) := by decide +kernel
theorem d_Mod_pushNumber_19 : decode b_Mod_pushNumber 19 = .ok (.if_icmp .ge 25, 3) := by decide +kernel
theorem d_Mod_pushNumber_22 : decode b_Mod_pushNumber 22 = .ok (.aload_n 0, 1) := by decide +kernel
theorem d_Mod_pushNumber_23 : decode b_Mod_pushNumber 23 = .ok (.getfield 32, 3) := by decide +kernel
theorem d_Mod_pushNumber_26 : decode b_Mod_pushNumber 26 = .ok (.iload_n 2, 1) := by decide +kernel
theorem d_Mod_pushNumber_27 : decode b_Mod_pushNumber 27 = .ok (.iload_n 1, 1) := by decide +kernel
theorem d_Mod_pushNumber_28 : decode b_Mod_pushNumber 28 = .ok (.bipush 24, 2) := by decide +kernel
theorem d_Mod_pushNumber_30 : decode b_Mod_pushNumber 30 = .ok (.bipush 8, 2) := by decide +kernel
theorem d_Mod_pushNumber_32 : decode b_Mod_pushNumber 32 = .ok (.iload_n 2, 1) := by decide +kernel
theorem d_Mod_pushNumber_33 : decode b_Mod_pushNumber 33 = .ok (.imul, 1) := by decide +kernel
theorem d_Mod_pushNumber_34 : decode b_Mod_pushNumber 34 = .ok (.isub, 1) := by decide +kernel
theorem d_Mod_pushNumber_35 : decode b_Mod_pushNumber 35 = .ok (.ishr, 1) := by decide +kernel
theorem d_Mod_pushNumber_36 : decode b_Mod_pushNumber 36 = .ok (.i2b, 1) := by decide +kernel
theorem d_Mod_pushNumber_37 : decode b_Mod_pushNumber 37 = .ok (.bastore, 1) := by decide +kernel
theorem d_Mod_pushNumber_38 : decode b_Mod_pushNumber 38 = .ok (.iinc 2 1, 3) := by decide +kernel
theorem d_Mod_pushNumber_41 : decode b_Mod_pushNumber 41 = .ok (.goto (-24), 3) := by decide +kernel
theorem d_Mod_pushNumber_44 : decode b_Mod_pushNumber 44 = .ok (.aload_n 0, 1) := by decide +kernel
theorem d_Mod_pushNumber_45 : decode b_Mod_pushNumber 45 = .ok (.aload_n 0, 1) := by decide +kernel
theorem d_Mod_pushNumber_46 : decode b_Mod_pushNumber 46 = .ok (.getfield 32, 3) := by decide +kernel
theorem d_Mod_pushNumber_49 : decode b_Mod_pushNumber 49 = .ok (.iconst 0, 1) := by decide +kernel
theorem d_Mod_pushNumber_50 : decode b_Mod_pushNumber 50 = .ok (.iconst 4, 1) := by decide +kernel
theorem d_Mod_pushNumber_51 : decode b_Mod_pushNumber 51 = .ok (.invokevirtual 70, 3) := by decide +kernel
theorem d_Mod_pushNumber_54 : decode b_Mod_pushNumber 54 = .ok (.ireturn, 1) := by decide +kernel
theorem d_Mod_isTrue_0 : decode b_Mod_isTrue 0 = .ok (.iconst 0, 1) := by decide +kernel
theorem d_Mod_isTrue_1 : decode b_Mod_isTrue 1 = .ok (.istore_n 2, 1) := by decide +kernel
theorem d_Mod_isTrue_2 : decode b_Mod_isTrue 2 = .ok (.iload_n 2, 1) := by decide +kernel
theorem d_Mod_isTrue_3 : decode b_Mod_isTrue 3 = .ok (.aload_n 0, 1) := by decide +kernel
theorem d_Mod_isTrue_4 : decode b_Mod_isTrue 4 = .ok (.getfield 44, 3) := by decide +kernel
theorem d_Mod_isTrue_7 : decode b_Mod_isTrue 7 = .ok (.iload_n 1, 1) := by decide +kernel
theorem d_Mod_isTrue_8 : decode b_Mod_isTrue 8 = .ok (.iaload, 1) := by decide +kernel
theorem d_Mod_isTrue_9 : decode b_Mod_isTrue 9 = .ok (.if_icmp .ge 25, 3) := by decide +kernel
theorem d_Mod_isTrue_12 : decode b_Mod_isTrue 12 = .ok (.aload_n 0, 1) := by decide +kernel
theorem d_Mod_isTrue_13 : decode b_Mod_isTrue 13 = .ok (.getfield 41, 3) := by decide +kernel
theorem d_Mod_isTrue_16 : decode b_Mod_isTrue 16 = .ok (.bipush 80, 2) := by decide +kernel
theorem d_Mod_isTrue_18 : decode b_Mod_isTrue 18 = .ok (.iload_n 1, 1) := by decide +kernel
theorem d_Mod_isTrue_19 : decode b_Mod_isTrue 19 = .ok (.imul, 1) := by decide +kernel
theorem d_Mod_isTrue_20 : decode b_Mod_isTrue 20 = .ok (.iload_n 2, 1) := by decide +kernel
theorem d_Mod_isTrue_21 : decode b_Mod_isTrue 21 = .ok (.iadd, 1) := by decide +kernel
theorem d_Mod_isTrue_22 : decode b_Mod_isTrue 22 = .ok (.baload, 1) := by decide +kernel
theorem d_Mod_isTrue_23 : decode b_Mod_isTrue 23 = .ok (.ifCond .eq 5, 3) := by decide +kernel
theorem d_Mod_isTrue_26 : decode b_Mod_isTrue 26 = .ok (.iconst 1, 1) := by decide +kernel
theorem d_Mod_isTrue_27 : decode b_Mod_isTrue 27 = .ok (.ireturn, 1) := by decide +kernel
theorem d_Mod_isTrue_28 : decode b_Mod_isTrue 28 = .ok (.iinc 2 1, 3) := by decide +kernel
theorem d_Mod_isTrue_31 : decode b_Mod_isTrue 31 = .ok (.goto (-29), 3) := by decide +kernel
theorem d_Mod_isTrue_34 : decode b_Mod_isTrue 34 = .ok (.iconst 0, 1) := by decide +kernel
theorem d_Mod_isTrue_35 : decode b_Mod_isTrue 35 = .ok (.ireturn, 1) := by decide +kernel
theorem d_Mod_numberOf_0 : decode b_Mod_numberOf 0 = .ok (.aload_n 0, 1) := by decide +kernel
theorem d_Mod_numberOf_1 : decode b_Mod_numberOf 1 = .ok (.getfield 44, 3) := by decide +kernel
theorem d_Mod_numberOf_4 : decode b_Mod_numberOf 4 = .ok (.iload_n 1, 1) := by decide +kernel
theorem d_Mod_numberOf_5 : decode b_Mod_numberOf 5 = .ok (.iaload, 1) := by decide +kernel
theorem d_Mod_numberOf_6 : decode b_Mod_numberOf 6 = .ok (.ifCond .le 19, 3) := by decide +kernel
theorem d_Mod_numberOf_9 : decode b_Mod_numberOf 9 = .ok (.aload_n 0, 1) := by decide +kernel
theorem d_Mod_numberOf_10 : decode b_Mod_numberOf 10 = .ok (.getfield 41, 3) := by decide +kernel
theorem d_Mod_numberOf_13 : decode b_Mod_numberOf 13 = .ok (.bipush 80, 2) := by decide +kernel
theorem d_Mod_numberOf_15 : decode b_Mod_numberOf 15 = .ok (.iload_n 1, 1) := by decide +kernel
theorem d_Mod_numberOf_16 : decode b_Mod_numberOf 16 = .ok (.imul, 1) := by decide +kernel
theorem d_Mod_numberOf_17 : decode b_Mod_numberOf 17 = .ok (.baload, 1) := by decide +kernel
theorem d_Mod_numberOf_18 : decode b_Mod_numberOf 18 = .ok (.ifCond .ge 7, 3) := by decide +kernel
theorem d_Mod_numberOf_21 : decode b_Mod_numberOf 21 = .ok (.iconst (-1), 1) := by decide +kernel
theorem d_Mod_numberOf_22 : decode b_Mod_numberOf 22 = .ok (.goto 4, 3) := by decide +kernel
theorem d_Mod_numberOf_25 : decode b_Mod_numberOf 25 = .ok (.iconst 0, 1) := by decide +kernel
theorem d_Mod_numberOf_26 : decode b_Mod_numberOf 26 = .ok (.istore_n 2, 1) := by decide +kernel
theorem d_Mod_numberOf_27 : decode b_Mod_numberOf 27 = .ok (.iconst 0, 1) := by decide +kernel
theorem d_Mod_numberOf_28 : decode b_Mod_numberOf 28 = .ok (.istore_n 3, 1) := by decide +kernel
theorem d_Mod_numberOf_29 : decode b_Mod_numberOf 29 = .ok (.iload_n 3, 1) := by decide +kernel
theorem d_Mod_numberOf_30 : decode b_Mod_numberOf 30 = .ok (.aload_n 0, 1) := by decide +kernel
theorem d_Mod_numberOf_31 : decode b_Mod_numberOf 31 = .ok (.getfield 44, 3) := by decide +kernel
theorem d_Mod_numberOf_34 : decode b_Mod_numberOf 34 = .ok (.iload_n 1, 1) := by decide +kernel
theorem d_Mod_numberOf_35 : decode b_Mod_numberOf 35 = .ok (.iaload, 1) := by decide +kernel
theorem d_Mod_numberOf_36 : decode b_Mod_numberOf 36 = .ok (.if_icmp .ge 30, 3) := by decide +kernel
theorem d_Mod_numberOf_39 : decode b_Mod_numberOf 39 = .ok (.iload_n 2, 1) := by decide +kernel
theorem d_Mod_numberOf_40 : decode b_Mod_numberOf 40 = .ok (.bipush 8, 2) := by decide +kernel
theorem d_Mod_numberOf_42 : decode b_Mod_numberOf 42 = .ok (.ishl, 1) := by decide +kernel
theorem d_Mod_numberOf_43 : decode b_Mod_numberOf 43 = .ok (.aload_n 0, 1) := by decide +kernel
theorem d_Mod_numberOf_44 : decode b_Mod_numberOf 44 = .ok (.getfield 41, 3) := by decide +kernel
theorem d_Mod_numberOf_47 : decode b_Mod_numberOf 47 = .ok (.bipush 80, 2) := by decide +kernel
theorem d_Mod_numberOf_49 : decode b_Mod_numberOf 49 = .ok (.iload_n 1, 1) := by decide +kernel
theorem d_Mod_numberOf_50 : decode b_Mod_numberOf 50 = .ok (.imul, 1) := by decide +kernel
theorem d_Mod_numberOf_51 : decode b_Mod_numberOf 51 = .ok (.iload_n 3, 1) := by decide +kernel
theorem d_Mod_numberOf_52 : decode b_Mod_numberOf 52 = .ok (.iadd, 1) := by decide +kernel
theorem d_Mod_numberOf_53 : decode b_Mod_numberOf 53 = .ok (.baload, 1) := by decide +kernel
theorem d_Mod_numberOf_54 : decode b_Mod_numberOf 54 = .ok (.sipush 255, 3) := by decide +kernel
theorem d_Mod_numberOf_57 : decode b_Mod_numberOf 57 = .ok (.iand, 1) := by decide +kernel
theorem d_Mod_numberOf_58 : decode b_Mod_numberOf 58 = .ok (.ior, 1) := by decide +kernel
theorem d_Mod_numberOf_59 : decode b_Mod_numberOf 59 = .ok (.istore_n 2, 1) := by decide +kernel
theorem d_Mod_numberOf_60 : decode b_Mod_numberOf 60 = .ok (.iinc 3 1, 3) := by decide +kernel
theorem d_Mod_numberOf_63 : decode b_Mod_numberOf 63 = .ok (.goto (-34), 3) := by decide +kernel
theorem d_Mod_numberOf_66 : decode b_Mod_numberOf 66 = .ok (.iload_n 2, 1) := by decide +kernel
theorem d_Mod_numberOf_67 : decode b_Mod_numberOf 67 = .ok (.ireturn, 1) := by decide +kernel
end
section
theorem d_Mod_signed_0 : decode b_Mod_signed 0 = .ok (.iconst 0, 1) := by decide +kernel
theorem d_Mod_signed_1 : decode b_Mod_signed 1 = .ok (.istore_n 3, 1) := by decide +kernel
theorem d_Mod_signed_2 : decode b_Mod_signed 2 = .ok (.iload_n 3, 1) := by decide +kernel
theorem d_Mod_signed_3 : decode b_Mod_signed 3 = .ok (.aload_n 0, 1) := by decide +kernel
theorem d_Mod_signed_4 : decode b_Mod_signed 4 = .ok (.getfield 44, 3) := by decide +kernel
theorem d_Mod_signed_7 : decode b_Mod_signed 7 = .ok (.iload_n 2, 1) := by decide +kernel
theorem d_Mod_signed_8 : decode b_Mod_signed 8 = .ok (.iaload, 1) := by decide +kernel
theorem d_Mod_signed_9 : decode b_Mod_signed 9 = .ok (.if_icmp .ge 26, 3) := by decide +kernel
theorem d_Mod_signed_12 : decode b_Mod_signed 12 = .ok (.aload_n 0, 1) := by decide +kernel
theorem d_Mod_signed_13 : decode b_Mod_signed 13 = .ok (.getfield 38, 3) := by decide +kernel
theorem d_Mod_signed_16 : decode b_Mod_signed 16 = .ok (.iload_n 3, 1) := by decide +kernel
theorem d_Mod_signed_17 : decode b_Mod_signed 17 = .ok (.aload_n 0, 1) := by decide +kernel
theorem d_Mod_signed_18 : decode b_Mod_signed 18 = .ok (.getfield 41, 3) := by decide +kernel
theorem d_Mod_signed_21 : decode b_Mod_signed 21 = .ok (.bipush 80, 2) := by decide +kernel
theorem d_Mod_signed_23 : decode b_Mod_signed 23 = .ok (.iload_n 2, 1) := by decide +kernel
theorem d_Mod_signed_24 : decode b_Mod_signed 24 = .ok (.imul, 1) := by decide +kernel
theorem d_Mod_signed_25 : decode b_Mod_signed 25 = .ok (.iload_n 3, 1) := by decide +kernel
theorem d_Mod_signed_26 : decode b_Mod_signed 26 = .ok (.iadd, 1) := by decide +kernel
theorem d_Mod_signed_27 : decode b_Mod_signed 27 = .ok (.baload, 1) := by decide +kernel
theorem d_Mod_signed_28 : decode b_Mod_signed 28 = .ok (.bastore, 1) := by decide +kernel
theorem d_Mod_signed_29 : decode b_Mod_signed 29 = .ok (.iinc 3 1, 3) := by decide +kernel
theorem d_Mod_signed_32 : decode b_Mod_signed 32 = .ok (.goto (-30), 3) := by decide +kernel
theorem d_Mod_signed_35 : decode b_Mod_signed 35 = .ok (.iconst 0, 1) := by decide +kernel
theorem d_Mod_signed_36 : decode b_Mod_signed 36 = .ok (.istore_n 3, 1) := by decide +kernel
theorem d_Mod_signed_37 : decode b_Mod_signed 37 = .ok (.iload_n 3, 1) := by decide +kernel
theorem d_Mod_signed_38 : decode b_Mod_signed 38 = .ok (.bipush 32, 2) := by decide +kernel
theorem d_Mod_signed_40 : decode b_Mod_signed 40 = .ok (.if_icmp .ge 28, 3) := by decide +kernel
theorem d_Mod_signed_43 : decode b_Mod_signed 43 = .ok (.aload_n 0, 1) := by decide +kernel
theorem d_Mod_signed_44 : decode b_Mod_signed 44 = .ok (.getfield 38, 3) := by decide +kernel
theorem d_Mod_signed_47 : decode b_Mod_signed 47 = .ok (.aload_n 0, 1) := by decide +kernel
theorem d_Mod_signed_48 : decode b_Mod_signed 48 = .ok (.getfield 44, 3) := by decide +kernel
theorem d_Mod_signed_51 : decode b_Mod_signed 51 = .ok (.iload_n 2, 1) := by decide +kernel
theorem d_Mod_signed_52 : decode b_Mod_signed 52 = .ok (.iaload, 1) := by decide +kernel
theorem d_Mod_signed_53 : decode b_Mod_signed 53 = .ok (.iload_n 3, 1) := by decide +kernel
theorem d_Mod_signed_54 : decode b_Mod_signed 54 = .ok (.iadd, 1) := by decide +kernel
theorem d_Mod_signed_55 : decode b_Mod_signed 55 = .ok (.aload_n 0, 1) := by decide +kernel
theorem d_Mod_signed_56 : decode b_Mod_signed 56 = .ok (.getfield 23, 3) := by decide +kernel
theorem d_Mod_signed_59 : decode b_Mod_signed 59 = .ok (.iload_n 3, 1) := by decide +kernel
theorem d_Mod_signed_60 : decode b_Mod_signed 60 = .ok (.baload, 1) := by decide +kernel
theorem d_Mod_signed_61 : decode b_Mod_signed 61 = .ok (.bastore, 1) := by decide +kernel
theorem d_Mod_signed_62 : decode b_Mod_signed 62 = .ok (.iinc 3 1, 3) := by decide +kernel
theorem d_Mod_signed_65 : decode b_Mod_signed 65 = .ok (.goto (-28), 3) := by decide +kernel
theorem d_Mod_signed_68 : decode b_Mod_signed 68 = .ok (.aload_n 0, 1) := by decide +kernel
theorem d_Mod_signed_69 : decode b_Mod_signed 69 = .ok (.aload_n 0, 1) := by decide +kernel
theorem d_Mod_signed_70 : decode b_Mod_signed 70 = .ok (.getfield 38, 3) := by decide +kernel
theorem d_Mod_signed_73 : decode b_Mod_signed 73 = .ok (.iconst 0, 1) := by decide +kernel
theorem d_Mod_signed_74 : decode b_Mod_signed 74 = .ok (.aload_n 0, 1) := by decide +kernel
theorem d_Mod_signed_75 : decode b_Mod_signed 75 = .ok (.getfield 44, 3) := by decide +kernel
theorem d_Mod_signed_78 : decode b_Mod_signed 78 = .ok (.iload_n 2, 1) := by decide +kernel
theorem d_Mod_signed_79 : decode b_Mod_signed 79 = .ok (.iaload, 1) := by decide +kernel
theorem d_Mod_signed_80 : decode b_Mod_signed 80 = .ok (.bipush 32, 2) := by decide +kernel
theorem d_Mod_signed_82 : decode b_Mod_signed 82 = .ok (.iadd, 1) := by decide +kernel
theorem d_Mod_signed_83 : decode b_Mod_signed 83 = .ok (.aload_n 0, 1) := by decide +kernel
theorem d_Mod_signed_84 : decode b_Mod_signed 84 = .ok (.getfield 35, 3) := by decide +kernel
theorem d_Mod_signed_87 : decode b_Mod_signed 87 = .ok (.iconst 0, 1) := by decide +kernel
theorem d_Mod_signed_88 : decode b_Mod_signed 88 = .ok (.invokevirtual 74, 3) := by decide +kernel
theorem d_Mod_signed_91 : decode b_Mod_signed 91 = .ok (.aload_n 0, 1) := by decide +kernel
theorem d_Mod_signed_92 : decode b_Mod_signed 92 = .ok (.getfield 44, 3) := by decide +kernel
theorem d_Mod_signed_95 : decode b_Mod_signed 95 = .ok (.iload_n 1, 1) := by decide +kernel
theorem d_Mod_signed_96 : decode b_Mod_signed 96 = .ok (.iaload, 1) := by decide +kernel
theorem d_Mod_signed_97 : decode b_Mod_signed 97 = .ok (.bipush 8, 2) := by decide +kernel
theorem d_Mod_signed_99 : decode b_Mod_signed 99 = .ok (.if_icmp .ne 28, 3) := by decide +kernel
theorem d_Mod_signed_102 : decode b_Mod_signed 102 = .ok (.aload_n 0, 1) := by decide +kernel
theorem d_Mod_signed_103 : decode b_Mod_signed 103 = .ok (.getfield 41, 3) := by decide +kernel
theorem d_Mod_signed_106 : decode b_Mod_signed 106 = .ok (.bipush 80, 2) := by decide +kernel
theorem d_Mod_signed_108 : decode b_Mod_signed 108 = .ok (.iload_n 1, 1) := by decide +kernel
theorem d_Mod_signed_109 : decode b_Mod_signed 109 = .ok (.imul, 1) := by decide +kernel
theorem d_Mod_signed_110 : decode b_Mod_signed 110 = .ok (.aload_n 0, 1) := by decide +kernel
theorem d_Mod_signed_111 : decode b_Mod_signed 111 = .ok (.getfield 35, 3) := by decide +kernel
theorem d_Mod_signed_114 : decode b_Mod_signed 114 = .ok (.iconst 0, 1) := by decide +kernel
theorem d_Mod_signed_115 : decode b_Mod_signed 115 = .ok (.bipush 8, 2) := by decide +kernel
theorem d_Mod_signed_117 : decode b_Mod_signed 117 = .ok (.invokestatic 77, 3) := by decide +kernel
theorem d_Mod_signed_120 : decode b_Mod_signed 120 = .ok (.ifCond .eq 7, 3) := by decide +kernel
theorem d_Mod_signed_123 : decode b_Mod_signed 123 = .ok (.iconst 1, 1) := by decide +kernel
theorem d_Mod_signed_124 : decode b_Mod_signed 124 = .ok (.goto 4, 3) := by decide +kernel
theorem d_Mod_signed_127 : decode b_Mod_signed 127 = .ok (.iconst 0, 1) := by decide +kernel
theorem d_Mod_signed_128 : decode b_Mod_signed 128 = .ok (.ireturn, 1) := by decide +kernel
theorem d_Mod_many_0 : decode b_Mod_many 0 = .ok (.aload_n 0, 1) := by decide +kernel
theorem d_Mod_many_1 : decode b_Mod_many 1 = .ok (.getfield 66, 3) := by decide +kernel
theorem d_Mod_many_4 : decode b_Mod_many 4 = .ok (.iconst 1, 1) := by decide +kernel
theorem d_Mod_many_5 : decode b_Mod_many 5 = .ok (.if_icmp .lt 18, 3) := by decide +kernel
theorem d_Mod_many_8 : decode b_Mod_many 8 = .ok (.aload_n 0, 1) := by decide +kernel
theorem d_Mod_many_9 : decode b_Mod_many 9 = .ok (.getfield 44, 3) := by decide +kernel
theorem d_Mod_many_12 : decode b_Mod_many 12 = .ok (.aload_n 0, 1) := by decide +kernel
theorem d_Mod_many_13 : decode b_Mod_many 13 = .ok (.getfield 66, 3) := by decide +kernel
theorem d_Mod_many_16 : decode b_Mod_many 16 = .ok (.iconst 1, 1) := by decide +kernel
theorem d_Mod_many_17 : decode b_Mod_many 17 = .ok (.isub, 1) := by decide +kernel
theorem d_Mod_many_18 : decode b_Mod_many 18 = .ok (.iaload, 1) := by decide +kernel
theorem d_Mod_many_19 : decode b_Mod_many 19 = .ok (.iconst 4, 1) := by decide +kernel
theorem d_Mod_many_20 : decode b_Mod_many 20 = .ok (.if_icmp .le 5, 3) := by decide +kernel
theorem d_Mod_many_23 : decode b_Mod_many 23 = .ok (.iconst 0, 1) := by decide +kernel
theorem d_Mod_many_24 : decode b_Mod_many 24 = .ok (.ireturn, 1) := by decide +kernel
theorem d_Mod_many_25 : decode b_Mod_many 25 = .ok (.aload_n 0, 1) := by decide +kernel
theorem d_Mod_many_26 : decode b_Mod_many 26 = .ok (.aload_n 0, 1) := by decide +kernel
theorem d_Mod_many_27 : decode b_Mod_many 27 = .ok (.getfield 66, 3) := by decide +kernel
theorem d_Mod_many_30 : decode b_Mod_many 30 = .ok (.iconst 1, 1) := by decide +kernel
theorem d_Mod_many_31 : decode b_Mod_many 31 = .ok (.isub, 1) := by decide +kernel
theorem d_Mod_many_32 : decode b_Mod_many 32 = .ok (.invokevirtual 81, 3) := by decide +kernel
theorem d_Mod_many_35 : decode b_Mod_many 35 = .ok (.istore_n 1, 1) := by decide +kernel
theorem d_Mod_many_36 : decode b_Mod_many 36 = .ok (.iload_n 1, 1) := by decide +kernel
theorem d_Mod_many_37 : decode b_Mod_many 37 = .ok (.ifCond .lt 19, 3) := by decide +kernel
theorem d_Mod_many_40 : decode b_Mod_many 40 = .ok (.iload_n 1, 1) := by decide +kernel
theorem d_Mod_many_41 : decode b_Mod_many 41 = .ok (.bipush 8, 2) := by decide +kernel
theorem d_Mod_many_43 : decode b_Mod_many 43 = .ok (.if_icmp .gt 13, 3) := by decide +kernel
theorem d_Mod_many_46 : decode b_Mod_many 46 = .ok (.aload_n 0, 1) := by decide +kernel
theorem d_Mod_many_47 : decode b_Mod_many 47 = .ok (.getfield 66, 3) := by decide +kernel
theorem d_Mod_many_50 : decode b_Mod_many 50 = .ok (.iload_n 1, 1) := by decide +kernel
theorem d_Mod_many_51 : decode b_Mod_many 51 = .ok (.iconst 2, 1) := by decide +kernel
theorem d_Mod_many_52 : decode b_Mod_many 52 = .ok (.iadd, 1) := by decide +kernel
theorem d_Mod_many_53 : decode b_Mod_many 53 = .ok (.if_icmp .ge 5, 3) := by decide +kernel
theorem d_Mod_many_56 : decode b_Mod_many 56 = .ok (.iconst 0, 1) := by decide +kernel
theorem d_Mod_many_57 : decode b_Mod_many 57 = .ok (.ireturn, 1) := by decide +kernel
theorem d_Mod_many_58 : decode b_Mod_many 58 = .ok (.aload_n 0, 1) := by decide +kernel
theorem d_Mod_many_59 : decode b_Mod_many 59 = .ok (.getfield 66, 3) := by decide +kernel
theorem d_Mod_many_62 : decode b_Mod_many 62 = .ok (.iconst 1, 1) := by decide +kernel
theorem d_Mod_many_63 : decode b_Mod_many 63 = .ok (.isub, 1) := by decide +kernel
theorem d_Mod_many_64 : decode b_Mod_many 64 = .ok (.iload_n 1, 1) := by decide +kernel
theorem d_Mod_many_65 : decode b_Mod_many 65 = .ok (.isub, 1) := by decide +kernel
theorem d_Mod_many_66 : decode b_Mod_many 66 = .ok (.istore_n 2, 1) := by decide +kernel
theorem d_Mod_many_67 : decode b_Mod_many 67 = .ok (.aload_n 0, 1) := by decide +kernel
theorem d_Mod_many_68 : decode b_Mod_many 68 = .ok (.getfield 44, 3) := by decide +kernel
theorem d_Mod_many_71 : decode b_Mod_many 71 = .ok (.iload_n 2, 1) := by decide +kernel
theorem d_Mod_many_72 : decode b_Mod_many 72 = .ok (.iconst 1, 1) := by decide +kernel
theorem d_Mod_many_73 : decode b_Mod_many 73 = .ok (.isub, 1) := by decide +kernel
theorem d_Mod_many_74 : decode b_Mod_many 74 = .ok (.iaload, 1) := by decide +kernel
theorem d_Mod_many_75 : decode b_Mod_many 75 = .ok (.iconst 4, 1) := by decide +kernel
theorem d_Mod_many_76 : decode b_Mod_many 76 = .ok (.if_icmp .le 5, 3) := by decide +kernel
theorem d_Mod_many_79 : decode b_Mod_many 79 = .ok (.iconst 0, 1) := by decide +kernel
theorem d_Mod_many_80 : decode b_Mod_many 80 = .ok (.ireturn, 1) := by decide +kernel
theorem d_Mod_many_81 : decode b_Mod_many 81 = .ok (.aload_n 0, 1) := by decide +kernel
theorem d_Mod_many_82 : decode b_Mod_many 82 = .ok (.iload_n 2, 1) := by decide +kernel
theorem d_Mod_many_83 : decode b_Mod_many 83 = .ok (.iconst 1, 1) := by decide +kernel
theorem d_Mod_many_84 : decode b_Mod_many 84 = .ok (.isub, 1) := by decide +kernel
theorem d_Mod_many_85 : decode b_Mod_many 85 = .ok (.invokevirtual 81, 3) := by decide +kernel
theorem d_Mod_many_88 : decode b_Mod_many 88 = .ok (.istore_n 3, 1) := by decide +kernel
theorem d_Mod_many_89 : decode b_Mod_many 89 = .ok (.iload_n 3, 1) := by decide +kernel
theorem d_Mod_many_90 : decode b_Mod_many 90 = .ok (.ifCond .lt 15, 3) := by decide +kernel
theorem d_Mod_many_93 : decode b_Mod_many 93 = .ok (.iload_n 3, 1) := by decide +kernel
theorem d_Mod_many_94 : decode b_Mod_many 94 = .ok (.iload_n 1, 1) := by decide +kernel
theorem d_Mod_many_95 : decode b_Mod_many 95 = .ok (.if_icmp .gt 10, 3) := by decide +kernel
theorem d_Mod_many_98 : decode b_Mod_many 98 = .ok (.iload_n 2, 1) := by decide +kernel
theorem d_Mod_many_99 : decode b_Mod_many 99 = .ok (.iconst 1, 1) := by decide +kernel
theorem d_Mod_many_100 : decode b_Mod_many 100 = .ok (.isub, 1) := by decide +kernel
theorem d_Mod_many_101 : decode b_Mod_many 101 = .ok (.iload_n 3, 1) := by decide +kernel
theorem d_Mod_many_102 : decode b_Mod_many 102 = .ok (.if_icmp .ge 5, 3) := by decide +kernel
theorem d_Mod_many_105 : decode b_Mod_many 105 = .ok (.iconst 0, 1) := by decide +kernel
theorem d_Mod_many_106 : decode b_Mod_many 106 = .ok (.ireturn, 1) := by decide +kernel
theorem d_Mod_many_107 : decode b_Mod_many 107 = .ok (.iload_n 2, 1) := by decide +kernel
theorem d_Mod_many_108 : decode b_Mod_many 108 = .ok (.iconst 1, 1) := by decide +kernel
theorem d_Mod_many_109 : decode b_Mod_many 109 = .ok (.isub, 1) := by decide +kernel
theorem d_Mod_many_110 : decode b_Mod_many 110 = .ok (.iload_n 3, 1) := by decide +kernel
theorem d_Mod_many_111 : decode b_Mod_many 111 = .ok (.isub, 1) := by decide +kernel
theorem d_Mod_many_112 : decode b_Mod_many 112 = .ok (.istore 4, 2) := by decide +kernel
theorem d_Mod_many_114 : decode b_Mod_many 114 = .ok (.iconst 0, 1) := by decide +kernel
theorem d_Mod_many_115 : decode b_Mod_many 115 = .ok (.istore 5, 2) := by decide +kernel
theorem d_Mod_many_117 : decode b_Mod_many 117 = .ok (.iconst 0, 1) := by decide +kernel
theorem d_Mod_many_118 : decode b_Mod_many 118 = .ok (.istore 6, 2) := by decide +kernel
theorem d_Mod_many_120 : decode b_Mod_many 120 = .ok (.iconst 0, 1) := by decide +kernel
theorem d_Mod_many_121 : decode b_Mod_many 121 = .ok (.istore 7, 2) := by decide +kernel
theorem d_Mod_many_123 : decode b_Mod_many 123 = .ok (.iload 7, 2) := by decide +kernel
theorem d_Mod_many_125 : decode b_Mod_many 125 = .ok (.iload_n 3, 1) := by decide +kernel
theorem d_Mod_many_126 : decode b_Mod_many 126 = .ok (.if_icmp .ge 52, 3) := by decide +kernel
theorem d_Mod_many_129 : decode b_Mod_many 129 = .ok (.iconst 0, 1) := by decide +kernel
theorem d_Mod_many_130 : decode b_Mod_many 130 = .ok (.istore 8, 2) := by decide +kernel
theorem d_Mod_many_132 : decode b_Mod_many 132 = .ok (.iload 5, 2) := by decide +kernel
theorem d_Mod_many_134 : decode b_Mod_many 134 = .ok (.iload_n 1, 1) := by decide +kernel
theorem d_Mod_many_135 : decode b_Mod_many 135 = .ok (.if_icmp .ge 29, 3) := by decide +kernel
theorem d_Mod_many_138 : decode b_Mod_many 138 = .ok (.iload 8, 2) := by decide +kernel
theorem d_Mod_many_140 : decode b_Mod_many 140 = .ok (.ifCond .ne 24, 3) := by decide +kernel
theorem d_Mod_many_143 : decode b_Mod_many 143 = .ok (.aload_n 0, 1) := by decide +kernel
theorem d_Mod_many_144 : decode b_Mod_many 144 = .ok (.iload 4, 2) := by decide +kernel
theorem d_Mod_many_146 : decode b_Mod_many 146 = .ok (.iload 7, 2) := by decide +kernel
theorem d_Mod_many_148 : decode b_Mod_many 148 = .ok (.iadd, 1) := by decide +kernel
theorem d_Mod_many_149 : decode b_Mod_many 149 = .ok (.iload_n 2, 1) := by decide +kernel
theorem d_Mod_many_150 : decode b_Mod_many 150 = .ok (.iload 5, 2) := by decide +kernel
theorem d_Mod_many_152 : decode b_Mod_many 152 = .ok (.iadd, 1) := by decide +kernel
theorem d_Mod_many_153 : decode b_Mod_many 153 = .ok (.invokevirtual 85, 3) := by decide +kernel
theorem d_Mod_many_156 : decode b_Mod_many 156 = .ok (.istore 8, 2) := by decide +kernel
theorem d_Mod_many_158 : decode b_Mod_many 158 = .ok (.iinc 5 1, 3) := by decide +kernel
theorem d_Mod_many_161 : decode b_Mod_many 161 = .ok (.goto (-29), 3) := by decide +kernel
theorem d_Mod_many_164 : decode b_Mod_many 164 = .ok (.iload 8, 2) := by decide +kernel
theorem d_Mod_many_166 : decode b_Mod_many 166 = .ok (.ifCond .eq 6, 3) := by decide +kernel
theorem d_Mod_many_169 : decode b_Mod_many 169 = .ok (.iinc 6 1, 3) := by decide +kernel
theorem d_Mod_many_172 : decode b_Mod_many 172 = .ok (.iinc 7 1, 3) := by decide +kernel
theorem d_Mod_many_175 : decode b_Mod_many 175 = .ok (.goto (-52), 3) := by decide +kernel
theorem d_Mod_many_178 : decode b_Mod_many 178 = .ok (.aload_n 0, 1) := by decide +kernel
theorem d_Mod_many_179 : decode b_Mod_many 179 = .ok (.iload 4, 2) := by decide +kernel
theorem d_Mod_many_181 : decode b_Mod_many 181 = .ok (.putfield 66, 3) := by decide +kernel
theorem d_Mod_many_184 : decode b_Mod_many 184 = .ok (.aload_n 0, 1) := by decide +kernel
theorem d_Mod_many_185 : decode b_Mod_many 185 = .ok (.iload 6, 2) := by decide +kernel
theorem d_Mod_many_187 : decode b_Mod_many 187 = .ok (.iload_n 3, 1) := by decide +kernel
theorem d_Mod_many_188 : decode b_Mod_many 188 = .ok (.if_icmp .ne 7, 3) := by decide +kernel
theorem d_Mod_many_191 : decode b_Mod_many 191 = .ok (.iconst 1, 1) := by decide +kernel
theorem d_Mod_many_192 : decode b_Mod_many 192 = .ok (.goto 4, 3) := by decide +kernel
theorem d_Mod_many_195 : decode b_Mod_many 195 = .ok (.iconst 0, 1) := by decide +kernel
theorem d_Mod_many_196 : decode b_Mod_many 196 = .ok (.invokevirtual 89, 3) := by decide +kernel
theorem d_Mod_many_199 : decode b_Mod_many 199 = .ok (.ireturn, 1) := by decide +kernel
theorem d_Mod_act_0 : decode b_Mod_act 0 = .ok (.aload_n 0, 1) := by decide +kernel
theorem d_Mod_act_1 : decode b_Mod_act 1 = .ok (.getfield 66, 3) := by decide +kernel
theorem d_Mod_act_4 : decode b_Mod_act 4 = .ok (.iconst 2, 1) := by decide +kernel
theorem d_Mod_act_5 : decode b_Mod_act 5 = .ok (.isub, 1) := by decide +kernel
theorem d_Mod_act_6 : decode b_Mod_act 6 = .ok (.istore_n 3, 1) := by decide +kernel
theorem d_Mod_act_7 : decode b_Mod_act 7 = .ok (.aload_n 0, 1) := by decide +kernel
theorem d_Mod_act_8 : decode b_Mod_act 8 = .ok (.getfield 66, 3) := by decide +kernel
theorem d_Mod_act_11 : decode b_Mod_act 11 = .ok (.iconst 1, 1) := by decide +kernel
theorem d_Mod_act_12 : decode b_Mod_act 12 = .ok (.isub, 1) := by decide +kernel
theorem d_Mod_act_13 : decode b_Mod_act 13 = .ok (.istore 4, 2) := by decide +kernel
theorem d_Mod_act_15 : decode b_Mod_act 15 = .ok (.iload_n 1, 1) := by decide +kernel
theorem d_Mod_act_16 : decode b_Mod_act 16 = .ok (.bipush 82, 2) := by decide +kernel
theorem d_Mod_act_18 : decode b_Mod_act 18 = .ok (.if_icmp .eq 33, 3) := by decide +kernel
theorem d_Mod_act_21 : decode b_Mod_act 21 = .ok (.iload_n 1, 1) := by decide +kernel
theorem d_Mod_act_22 : decode b_Mod_act 22 = .ok (.bipush 83, 2) := by decide +kernel
theorem d_Mod_act_24 : decode b_Mod_act 24 = .ok (.if_icmp .eq 27, 3) := by decide +kernel
theorem d_Mod_act_27 : decode b_Mod_act 27 = .ok (.iload_n 1, 1) := by decide +kernel
theorem d_Mod_act_28 : decode b_Mod_act 28 = .ok (.bipush 86, 2) := by decide +kernel
theorem d_Mod_act_30 : decode b_Mod_act 30 = .ok (.if_icmp .eq 21, 3) := by decide +kernel
theorem d_Mod_act_33 : decode b_Mod_act 33 = .ok (.iload_n 1, 1) := by decide +kernel
theorem d_Mod_act_34 : decode b_Mod_act 34 = .ok (.bipush 89, 2) := by decide +kernel
theorem d_Mod_act_36 : decode b_Mod_act 36 = .ok (.if_icmp .lt 9, 3) := by decide +kernel
theorem d_Mod_act_39 : decode b_Mod_act 39 = .ok (.iload_n 1, 1) := by decide +kernel
theorem d_Mod_act_40 : decode b_Mod_act 40 = .ok (.bipush 92, 2) := by decide +kernel
theorem d_Mod_act_42 : decode b_Mod_act 42 = .ok (.if_icmp .le 9, 3) := by decide +kernel
theorem d_Mod_act_45 : decode b_Mod_act 45 = .ok (.iload_n 1, 1) := by decide +kernel
theorem d_Mod_act_46 : decode b_Mod_act 46 = .ok (.bipush 95, 2) := by decide +kernel
theorem d_Mod_act_48 : decode b_Mod_act 48 = .ok (.if_icmp .ne 7, 3) := by decide +kernel
theorem d_Mod_act_51 : decode b_Mod_act 51 = .ok (.iconst 1, 1) := by decide +kernel
theorem d_Mod_act_52 : decode b_Mod_act 52 = .ok (.goto 4, 3) := by decide +kernel
theorem d_Mod_act_55 : decode b_Mod_act 55 = .ok (.iconst 0, 1) := by decide +kernel
theorem d_Mod_act_56 : decode b_Mod_act 56 = .ok (.istore 5, 2) := by decide +kernel
theorem d_Mod_act_58 : decode b_Mod_act 58 = .ok (.aload_n 0, 1) := by decide +kernel
theorem d_Mod_act_59 : decode b_Mod_act 59 = .ok (.getfield 66, 3) := by decide +kernel
theorem d_Mod_act_62 : decode b_Mod_act 62 = .ok (.iload 5, 2) := by decide +kernel
theorem d_Mod_act_64 : decode b_Mod_act 64 = .ok (.ifCond .eq 7, 3) := by decide +kernel
theorem d_Mod_act_67 : decode b_Mod_act 67 = .ok (.iconst 2, 1) := by decide +kernel
theorem d_Mod_act_68 : decode b_Mod_act 68 = .ok (.goto 14, 3) := by decide +kernel
theorem d_Mod_act_71 : decode b_Mod_act 71 = .ok (.iload_n 1, 1) := by decide +kernel
theorem d_Mod_act_72 : decode b_Mod_act 72 = .ok (.bipush 102, 2) := by decide +kernel
theorem d_Mod_act_74 : decode b_Mod_act 74 = .ok (.if_icmp .ne 7, 3) := by decide +kernel
theorem d_Mod_act_77 : decode b_Mod_act 77 = .ok (.iconst 0, 1) := by decide +kernel
theorem d_Mod_act_78 : decode b_Mod_act 78 = .ok (.goto 4, 3) := by decide +kernel
theorem d_Mod_act_81 : decode b_Mod_act 81 = .ok (.iconst 1, 1) := by decide +kernel
theorem d_Mod_act_82 : decode b_Mod_act 82 = .ok (.if_icmp .ge 5, 3) := by decide +kernel
theorem d_Mod_act_85 : decode b_Mod_act 85 = .ok (.iconst 0, 1) := by decide +kernel
theorem d_Mod_act_86 : decode b_Mod_act 86 = .ok (.ireturn, 1) := by decide +kernel
theorem d_Mod_act_87 : decode b_Mod_act 87 = .ok (.iload_n 1, 1) := by decide +kernel
theorem d_Mod_act_88 : decode b_Mod_act 88 = .ok (.bipush 88, 2) := by decide +kernel
theorem d_Mod_act_90 : decode b_Mod_act 90 = .ok (.if_icmp .lt 9, 3) := by decide +kernel
theorem d_Mod_act_93 : decode b_Mod_act 93 = .ok (.iload_n 1, 1) := by decide +kernel
theorem d_Mod_act_94 : decode b_Mod_act 94 = .ok (.bipush 91, 2) := by decide +kernel
theorem d_Mod_act_96 : decode b_Mod_act 96 = .ok (.if_icmp .le 9, 3) := by decide +kernel
theorem d_Mod_act_99 : decode b_Mod_act 99 = .ok (.iload_n 1, 1) := by decide +kernel
theorem d_Mod_act_100 : decode b_Mod_act 100 = .ok (.bipush 96, 2) := by decide +kernel
theorem d_Mod_act_102 : decode b_Mod_act 102 = .ok (.if_icmp .ne 7, 3) := by decide +kernel
theorem d_Mod_act_105 : decode b_Mod_act 105 = .ok (.iconst 1, 1) := by decide +kernel
theorem d_Mod_act_106 : decode b_Mod_act 106 = .ok (.goto 4, 3) := by decide +kernel
theorem d_Mod_act_109 : decode b_Mod_act 109 = .ok (.iconst 0, 1) := by decide +kernel
theorem d_Mod_act_110 : decode b_Mod_act 110 = .ok (.istore 6, 2) := by decide +kernel
theorem d_Mod_act_112 : decode b_Mod_act 112 = .ok (.iload 6, 2) := by decide +kernel
theorem d_Mod_act_114 : decode b_Mod_act 114 = .ok (.ifCond .eq 31, 3) := by decide +kernel
theorem d_Mod_act_117 : decode b_Mod_act 117 = .ok (.aload_n 0, 1) := by decide +kernel
theorem d_Mod_act_118 : decode b_Mod_act 118 = .ok (.getfield 44, 3) := by decide +kernel
theorem d_Mod_act_121 : decode b_Mod_act 121 = .ok (.iload 4, 2) := by decide +kernel
theorem d_Mod_act_123 : decode b_Mod_act 123 = .ok (.iaload, 1) := by decide +kernel
theorem d_Mod_act_124 : decode b_Mod_act 124 = .ok (.iconst 4, 1) := by decide +kernel
theorem d_Mod_act_125 : decode b_Mod_act 125 = .ok (.if_icmp .gt 18, 3) := by decide +kernel
theorem d_Mod_act_128 : decode b_Mod_act 128 = .ok (.iload 5, 2) := by decide +kernel
theorem d_Mod_act_130 : decode b_Mod_act 130 = .ok (.ifCond .eq 15, 3) := by decide +kernel
theorem d_Mod_act_133 : decode b_Mod_act 133 = .ok (.aload_n 0, 1) := by decide +kernel
theorem d_Mod_act_134 : decode b_Mod_act 134 = .ok (.getfield 44, 3) := by decide +kernel
theorem d_Mod_act_137 : decode b_Mod_act 137 = .ok (.iload_n 3, 1) := by decide +kernel
theorem d_Mod_act_138 : decode b_Mod_act 138 = .ok (.iaload, 1) := by decide +kernel
theorem d_Mod_act_139 : decode b_Mod_act 139 = .ok (.iconst 4, 1) := by decide +kernel
theorem d_Mod_act_140 : decode b_Mod_act 140 = .ok (.if_icmp .le 5, 3) := by decide +kernel
theorem d_Mod_act_143 : decode b_Mod_act 143 = .ok (.iconst 0, 1) := by decide +kernel
theorem d_Mod_act_144 : decode b_Mod_act 144 = .ok (.ireturn, 1) := by decide +kernel
theorem d_Mod_act_145 : decode b_Mod_act 145 = .ok (.iload 5, 2) := by decide +kernel
theorem d_Mod_act_147 : decode b_Mod_act 147 = .ok (.ifCond .eq 16, 3) := by decide +kernel
theorem d_Mod_act_150 : decode b_Mod_act 150 = .ok (.iload 6, 2) := by decide +kernel
theorem d_Mod_act_152 : decode b_Mod_act 152 = .ok (.ifCond .eq 11, 3) := by decide +kernel
theorem d_Mod_act_155 : decode b_Mod_act 155 = .ok (.aload_n 0, 1) := by decide +kernel
theorem d_Mod_act_156 : decode b_Mod_act 156 = .ok (.iload_n 3, 1) := by decide +kernel
theorem d_Mod_act_157 : decode b_Mod_act 157 = .ok (.invokevirtual 81, 3) := by decide +kernel
theorem d_Mod_act_160 : decode b_Mod_act 160 = .ok (.goto 4, 3) := by decide +kernel
theorem d_Mod_act_163 : decode b_Mod_act 163 = .ok (.iconst 0, 1) := by decide +kernel
theorem d_Mod_act_164 : decode b_Mod_act 164 = .ok (.istore 7, 2) := by decide +kernel
theorem d_Mod_act_166 : decode b_Mod_act 166 = .ok (.iload 6, 2) := by decide +kernel
theorem d_Mod_act_168 : decode b_Mod_act 168 = .ok (.ifCond .eq 12, 3) := by decide +kernel
theorem d_Mod_act_171 : decode b_Mod_act 171 = .ok (.aload_n 0, 1) := by decide +kernel
theorem d_Mod_act_172 : decode b_Mod_act 172 = .ok (.iload 4, 2) := by decide +kernel
theorem d_Mod_act_174 : decode b_Mod_act 174 = .ok (.invokevirtual 81, 3) := by decide +kernel
theorem d_Mod_act_177 : decode b_Mod_act 177 = .ok (.goto 4, 3) := by decide +kernel
theorem d_Mod_act_180 : decode b_Mod_act 180 = .ok (.iconst 0, 1) := by decide +kernel
theorem d_Mod_act_181 : decode b_Mod_act 181 = .ok (.istore 8, 2) := by decide +kernel
theorem d_Mod_act_183 : decode b_Mod_act 183 = .ok (.iload_n 1, 1) := by decide +kernel
theorem d_Mod_act_184 : decode b_Mod_act 184 = .ok (.tableswitch 641 80 102 #[108, 129, 141, 243, 641, 262, 274, 339, 356, 381, 401, 421, 448, 485, 532, 579, 613, 641, 641, 641, 641, 641, 635], 108) := by decide +kernel
theorem d_Mod_act_292 : decode b_Mod_act 292 = .ok (.aload_n 0, 1) := by decide +kernel
theorem d_Mod_act_293 : decode b_Mod_act 293 = .ok (.aload_n 0, 1) := by decide +kernel
theorem d_Mod_act_294 : decode b_Mod_act 294 = .ok (.getfield 41, 3) := by decide +kernel
theorem d_Mod_act_297 : decode b_Mod_act 297 = .ok (.bipush 80, 2) := by decide +kernel
theorem d_Mod_act_299 : decode b_Mod_act 299 = .ok (.iload 4, 2) := by decide +kernel
theorem d_Mod_act_301 : decode b_Mod_act 301 = .ok (.imul, 1) := by decide +kernel
theorem d_Mod_act_302 : decode b_Mod_act 302 = .ok (.aload_n 0, 1) := by decide +kernel
theorem d_Mod_act_303 : decode b_Mod_act 303 = .ok (.getfield 44, 3) := by decide +kernel
theorem d_Mod_act_306 : decode b_Mod_act 306 = .ok (.iload 4, 2) := by decide +kernel
theorem d_Mod_act_308 : decode b_Mod_act 308 = .ok (.iaload, 1) := by decide +kernel
theorem d_Mod_act_309 : decode b_Mod_act 309 = .ok (.invokevirtual 70, 3) := by decide +kernel
theorem d_Mod_act_312 : decode b_Mod_act 312 = .ok (.ireturn, 1) := by decide +kernel
theorem d_Mod_act_313 : decode b_Mod_act 313 = .ok (.aload_n 0, 1) := by decide +kernel
theorem d_Mod_act_314 : decode b_Mod_act 314 = .ok (.dup, 1) := by decide +kernel
theorem d_Mod_act_315 : decode b_Mod_act 315 = .ok (.getfield 66, 3) := by decide +kernel
theorem d_Mod_act_318 : decode b_Mod_act 318 = .ok (.iconst 1, 1) := by decide +kernel
theorem d_Mod_act_319 : decode b_Mod_act 319 = .ok (.isub, 1) := by decide +kernel
theorem d_Mod_act_320 : decode b_Mod_act 320 = .ok (.putfield 66, 3) := by decide +kernel
theorem d_Mod_act_323 : decode b_Mod_act 323 = .ok (.iconst 1, 1) := by decide +kernel
theorem d_Mod_act_324 : decode b_Mod_act 324 = .ok (.ireturn, 1) := by decide +kernel
theorem d_Mod_act_325 : decode b_Mod_act 325 = .ok (.iconst 0, 1) := by decide +kernel
theorem d_Mod_act_326 : decode b_Mod_act 326 = .ok (.istore 9, 2) := by decide +kernel
theorem d_Mod_act_328 : decode b_Mod_act 328 = .ok (.iload 9, 2) := by decide +kernel
theorem d_Mod_act_330 : decode b_Mod_act 330 = .ok (.bipush 80, 2) := by decide +kernel
theorem d_Mod_act_332 : decode b_Mod_act 332 = .ok (.if_icmp .ge 63, 3) := by decide +kernel
theorem d_Mod_act_335 : decode b_Mod_act 335 = .ok (.aload_n 0, 1) := by decide +kernel
theorem d_Mod_act_336 : decode b_Mod_act 336 = .ok (.getfield 41, 3) := by decide +kernel
theorem d_Mod_act_339 : decode b_Mod_act 339 = .ok (.bipush 80, 2) := by decide +kernel
theorem d_Mod_act_341 : decode b_Mod_act 341 = .ok (.iload_n 3, 1) := by decide +kernel
theorem d_Mod_act_342 : decode b_Mod_act 342 = .ok (.imul, 1) := by decide +kernel
theorem d_Mod_act_343 : decode b_Mod_act 343 = .ok (.iload 9, 2) := by decide +kernel
theorem d_Mod_act_345 : decode b_Mod_act 345 = .ok (.iadd, 1) := by decide +kernel
theorem d_Mod_act_346 : decode b_Mod_act 346 = .ok (.baload, 1) := by decide +kernel
theorem d_Mod_act_347 : decode b_Mod_act 347 = .ok (.istore 10, 2) := by decide +kernel
theorem d_Mod_act_349 : decode b_Mod_act 349 = .ok (.aload_n 0, 1) := by decide +kernel
theorem d_Mod_act_350 : decode b_Mod_act 350 = .ok (.getfield 41, 3) := by decide +kernel
theorem d_Mod_act_353 : decode b_Mod_act 353 = .ok (.bipush 80, 2) := by decide +kernel
theorem d_Mod_act_355 : decode b_Mod_act 355 = .ok (.iload_n 3, 1) := by decide +kernel
theorem d_Mod_act_356 : decode b_Mod_act 356 = .ok (.imul, 1) := by decide +kernel
theorem d_Mod_act_357 : decode b_Mod_act 357 = .ok (.iload 9, 2) := by decide +kernel
theorem d_Mod_act_359 : decode b_Mod_act 359 = .ok (.iadd, 1) := by decide +kernel
theorem d_Mod_act_360 : decode b_Mod_act 360 = .ok (.aload_n 0, 1) := by decide +kernel
theorem d_Mod_act_361 : decode b_Mod_act 361 = .ok (.getfield 41, 3) := by decide +kernel
theorem d_Mod_act_364 : decode b_Mod_act 364 = .ok (.bipush 80, 2) := by decide +kernel
theorem d_Mod_act_366 : decode b_Mod_act 366 = .ok (.iload 4, 2) := by decide +kernel
theorem d_Mod_act_368 : decode b_Mod_act 368 = .ok (.imul, 1) := by decide +kernel
theorem d_Mod_act_369 : decode b_Mod_act 369 = .ok (.iload 9, 2) := by decide +kernel
theorem d_Mod_act_371 : decode b_Mod_act 371 = .ok (.iadd, 1) := by decide +kernel
theorem d_Mod_act_372 : decode b_Mod_act 372 = .ok (.baload, 1) := by decide +kernel
theorem d_Mod_act_373 : decode b_Mod_act 373 = .ok (.bastore, 1) := by decide +kernel
theorem d_Mod_act_374 : decode b_Mod_act 374 = .ok (.aload_n 0, 1) := by decide +kernel
theorem d_Mod_act_375 : decode b_Mod_act 375 = .ok (.getfield 41, 3) := by decide +kernel
theorem d_Mod_act_378 : decode b_Mod_act 378 = .ok (.bipush 80, 2) := by decide +kernel
theorem d_Mod_act_380 : decode b_Mod_act 380 = .ok (.iload 4, 2) := by decide +kernel
theorem d_Mod_act_382 : decode b_Mod_act 382 = .ok (.imul, 1) := by decide +kernel
theorem d_Mod_act_383 : decode b_Mod_act 383 = .ok (.iload 9, 2) := by decide +kernel
theorem d_Mod_act_385 : decode b_Mod_act 385 = .ok (.iadd, 1) := by decide +kernel
theorem d_Mod_act_386 : decode b_Mod_act 386 = .ok (.iload 10, 2) := by decide +kernel
theorem d_Mod_act_388 : decode b_Mod_act 388 = .ok (.bastore, 1) := by decide +kernel
theorem d_Mod_act_389 : decode b_Mod_act 389 = .ok (.iinc 9 1, 3) := by decide +kernel
theorem d_Mod_act_392 : decode b_Mod_act 392 = .ok (.goto (-64), 3) := by decide +kernel
theorem d_Mod_act_395 : decode b_Mod_act 395 = .ok (.aload_n 0, 1) := by decide +kernel
theorem d_Mod_act_396 : decode b_Mod_act 396 = .ok (.getfield 44, 3) := by decide +kernel
theorem d_Mod_act_399 : decode b_Mod_act 399 = .ok (.iload_n 3, 1) := by decide +kernel
theorem d_Mod_act_400 : decode b_Mod_act 400 = .ok (.iaload, 1) := by decide +kernel
theorem d_Mod_act_401 : decode b_Mod_act 401 = .ok (.istore 9, 2) := by decide +kernel
theorem d_Mod_act_403 : decode b_Mod_act 403 = .ok (.aload_n 0, 1) := by decide +kernel
theorem d_Mod_act_404 : decode b_Mod_act 404 = .ok (.getfield 44, 3) := by decide +kernel
theorem d_Mod_act_407 : decode b_Mod_act 407 = .ok (.iload_n 3, 1) := by decide +kernel
theorem d_Mod_act_408 : decode b_Mod_act 408 = .ok (.aload_n 0, 1) := by decide +kernel
theorem d_Mod_act_409 : decode b_Mod_act 409 = .ok (.getfield 44, 3) := by decide +kernel
theorem d_Mod_act_412 : decode b_Mod_act 412 = .ok (.iload 4, 2) := by decide +kernel
theorem d_Mod_act_414 : decode b_Mod_act 414 = .ok (.iaload, 1) := by decide +kernel
theorem d_Mod_act_415 : decode b_Mod_act 415 = .ok (.iastore, 1) := by decide +kernel
theorem d_Mod_act_416 : decode b_Mod_act 416 = .ok (.aload_n 0, 1) := by decide +kernel
theorem d_Mod_act_417 : decode b_Mod_act 417 = .ok (.getfield 44, 3) := by decide +kernel
theorem d_Mod_act_420 : decode b_Mod_act 420 = .ok (.iload 4, 2) := by decide +kernel
theorem d_Mod_act_422 : decode b_Mod_act 422 = .ok (.iload 9, 2) := by decide +kernel
theorem d_Mod_act_424 : decode b_Mod_act 424 = .ok (.iastore, 1) := by decide +kernel
theorem d_Mod_act_425 : decode b_Mod_act 425 = .ok (.iconst 1, 1) := by decide +kernel
theorem d_Mod_act_426 : decode b_Mod_act 426 = .ok (.ireturn, 1) := by decide +kernel
theorem d_Mod_act_427 : decode b_Mod_act 427 = .ok (.aload_n 0, 1) := by decide +kernel
theorem d_Mod_act_428 : decode b_Mod_act 428 = .ok (.aload_n 0, 1) := by decide +kernel
theorem d_Mod_act_429 : decode b_Mod_act 429 = .ok (.getfield 41, 3) := by decide +kernel
theorem d_Mod_act_432 : decode b_Mod_act 432 = .ok (.bipush 80, 2) := by decide +kernel
theorem d_Mod_act_434 : decode b_Mod_act 434 = .ok (.iload_n 3, 1) := by decide +kernel
theorem d_Mod_act_435 : decode b_Mod_act 435 = .ok (.imul, 1) := by decide +kernel
theorem d_Mod_act_436 : decode b_Mod_act 436 = .ok (.aload_n 0, 1) := by decide +kernel
theorem d_Mod_act_437 : decode b_Mod_act 437 = .ok (.getfield 44, 3) := by decide +kernel
theorem d_Mod_act_440 : decode b_Mod_act 440 = .ok (.iload_n 3, 1) := by decide +kernel
theorem d_Mod_act_441 : decode b_Mod_act 441 = .ok (.iaload, 1) := by decide +kernel
theorem d_Mod_act_442 : decode b_Mod_act 442 = .ok (.invokevirtual 70, 3) := by decide +kernel
theorem d_Mod_act_445 : decode b_Mod_act 445 = .ok (.ireturn, 1) := by decide +kernel
theorem d_Mod_act_446 : decode b_Mod_act 446 = .ok (.aload_n 0, 1) := by decide +kernel
theorem d_Mod_act_447 : decode b_Mod_act 447 = .ok (.aload_n 0, 1) := by decide +kernel
theorem d_Mod_act_448 : decode b_Mod_act 448 = .ok (.getfield 44, 3) := by decide +kernel
theorem d_Mod_act_451 : decode b_Mod_act 451 = .ok (.iload 4, 2) := by decide +kernel
theorem d_Mod_act_453 : decode b_Mod_act 453 = .ok (.iaload, 1) := by decide +kernel
theorem d_Mod_act_454 : decode b_Mod_act 454 = .ok (.invokevirtual 89, 3) := by decide +kernel
theorem d_Mod_act_457 : decode b_Mod_act 457 = .ok (.ireturn, 1) := by decide +kernel
theorem d_Mod_act_458 : decode b_Mod_act 458 = .ok (.aload_n 0, 1) := by decide +kernel
theorem d_Mod_act_459 : decode b_Mod_act 459 = .ok (.dup, 1) := by decide +kernel
theorem d_Mod_act_460 : decode b_Mod_act 460 = .ok (.getfield 66, 3) := by decide +kernel
theorem d_Mod_act_463 : decode b_Mod_act 463 = .ok (.iconst 2, 1) := by decide +kernel
theorem d_Mod_act_464 : decode b_Mod_act 464 = .ok (.isub, 1) := by decide +kernel
theorem d_Mod_act_465 : decode b_Mod_act 465 = .ok (.putfield 66, 3) := by decide +kernel
theorem d_Mod_act_468 : decode b_Mod_act 468 = .ok (.aload_n 0, 1) := by decide +kernel
theorem d_Mod_act_469 : decode b_Mod_act 469 = .ok (.aload_n 0, 1) := by decide +kernel
theorem d_Mod_act_470 : decode b_Mod_act 470 = .ok (.getfield 44, 3) := by decide +kernel
theorem d_Mod_act_473 : decode b_Mod_act 473 = .ok (.iload_n 3, 1) := by decide +kernel
theorem d_Mod_act_474 : decode b_Mod_act 474 = .ok (.iaload, 1) := by decide +kernel
theorem d_Mod_act_475 : decode b_Mod_act 475 = .ok (.aload_n 0, 1) := by decide +kernel
theorem d_Mod_act_476 : decode b_Mod_act 476 = .ok (.getfield 44, 3) := by decide +kernel
theorem d_Mod_act_479 : decode b_Mod_act 479 = .ok (.iload 4, 2) := by decide +kernel
theorem d_Mod_act_481 : decode b_Mod_act 481 = .ok (.iaload, 1) := by decide +kernel
theorem d_Mod_act_482 : decode b_Mod_act 482 = .ok (.if_icmp .ne 36, 3) := by decide +kernel
theorem d_Mod_act_485 : decode b_Mod_act 485 = .ok (.aload_n 0, 1) := by decide +kernel
theorem d_Mod_act_486 : decode b_Mod_act 486 = .ok (.getfield 41, 3) := by decide +kernel
theorem d_Mod_act_489 : decode b_Mod_act 489 = .ok (.bipush 80, 2) := by decide +kernel
theorem d_Mod_act_491 : decode b_Mod_act 491 = .ok (.iload_n 3, 1) := by decide +kernel
theorem d_Mod_act_492 : decode b_Mod_act 492 = .ok (.imul, 1) := by decide +kernel
theorem d_Mod_act_493 : decode b_Mod_act 493 = .ok (.aload_n 0, 1) := by decide +kernel
theorem d_Mod_act_494 : decode b_Mod_act 494 = .ok (.getfield 41, 3) := by decide +kernel
theorem d_Mod_act_497 : decode b_Mod_act 497 = .ok (.bipush 80, 2) := by decide +kernel
theorem d_Mod_act_499 : decode b_Mod_act 499 = .ok (.iload 4, 2) := by decide +kernel
theorem d_Mod_act_501 : decode b_Mod_act 501 = .ok (.imul, 1) := by decide +kernel
theorem d_Mod_act_502 : decode b_Mod_act 502 = .ok (.aload_n 0, 1) := by decide +kernel
theorem d_Mod_act_503 : decode b_Mod_act 503 = .ok (.getfield 44, 3) := by decide +kernel
theorem d_Mod_act_506 : decode b_Mod_act 506 = .ok (.iload_n 3, 1) := by decide +kernel
theorem d_Mod_act_507 : decode b_Mod_act 507 = .ok (.iaload, 1) := by decide +kernel
theorem d_Mod_act_508 : decode b_Mod_act 508 = .ok (.invokestatic 77, 3) := by decide +kernel
theorem d_Mod_act_511 : decode b_Mod_act 511 = .ok (.ifCond .eq 7, 3) := by decide +kernel
theorem d_Mod_act_514 : decode b_Mod_act 514 = .ok (.iconst 1, 1) := by decide +kernel
theorem d_Mod_act_515 : decode b_Mod_act 515 = .ok (.goto 4, 3) := by decide +kernel
theorem d_Mod_act_518 : decode b_Mod_act 518 = .ok (.iconst 0, 1) := by decide +kernel
theorem d_Mod_act_519 : decode b_Mod_act 519 = .ok (.invokevirtual 89, 3) := by decide +kernel
theorem d_Mod_act_522 : decode b_Mod_act 522 = .ok (.ireturn, 1) := by decide +kernel
theorem d_Mod_act_523 : decode b_Mod_act 523 = .ok (.aload_n 0, 1) := by decide +kernel
theorem d_Mod_act_524 : decode b_Mod_act 524 = .ok (.dup, 1) := by decide +kernel
theorem d_Mod_act_525 : decode b_Mod_act 525 = .ok (.getfield 66, 3) := by decide +kernel
theorem d_Mod_act_528 : decode b_Mod_act 528 = .ok (.iconst 1, 1) := by decide +kernel
theorem d_Mod_act_529 : decode b_Mod_act 529 = .ok (.isub, 1) := by decide +kernel
theorem d_Mod_act_530 : decode b_Mod_act 530 = .ok (.putfield 66, 3) := by decide +kernel
theorem d_Mod_act_533 : decode b_Mod_act 533 = .ok (.aload_n 0, 1) := by decide +kernel
theorem d_Mod_act_534 : decode b_Mod_act 534 = .ok (.iload 4, 2) := by decide +kernel
theorem d_Mod_act_536 : decode b_Mod_act 536 = .ok (.invokevirtual 93, 3) := by decide +kernel
theorem d_Mod_act_539 : decode b_Mod_act 539 = .ok (.ireturn, 1) := by decide +kernel
theorem d_Mod_act_540 : decode b_Mod_act 540 = .ok (.aload_n 0, 1) := by decide +kernel
theorem d_Mod_act_541 : decode b_Mod_act 541 = .ok (.dup, 1) := by decide +kernel
theorem d_Mod_act_542 : decode b_Mod_act 542 = .ok (.getfield 66, 3) := by decide +kernel
theorem d_Mod_act_545 : decode b_Mod_act 545 = .ok (.iconst 1, 1) := by decide +kernel
theorem d_Mod_act_546 : decode b_Mod_act 546 = .ok (.isub, 1) := by decide +kernel
theorem d_Mod_act_547 : decode b_Mod_act 547 = .ok (.putfield 66, 3) := by decide +kernel
theorem d_Mod_act_550 : decode b_Mod_act 550 = .ok (.aload_n 0, 1) := by decide +kernel
theorem d_Mod_act_551 : decode b_Mod_act 551 = .ok (.iload 8, 2) := by decide +kernel
theorem d_Mod_act_553 : decode b_Mod_act 553 = .ok (.ifCond .ne 7, 3) := by decide +kernel
theorem d_Mod_act_556 : decode b_Mod_act 556 = .ok (.iconst 1, 1) := by decide +kernel
theorem d_Mod_act_557 : decode b_Mod_act 557 = .ok (.goto 4, 3) := by decide +kernel
theorem d_Mod_act_560 : decode b_Mod_act 560 = .ok (.iconst 0, 1) := by decide +kernel
theorem d_Mod_act_561 : decode b_Mod_act 561 = .ok (.invokevirtual 89, 3) := by decide +kernel
theorem d_Mod_act_564 : decode b_Mod_act 564 = .ok (.ireturn, 1) := by decide +kernel
theorem d_Mod_act_565 : decode b_Mod_act 565 = .ok (.aload_n 0, 1) := by decide +kernel
theorem d_Mod_act_566 : decode b_Mod_act 566 = .ok (.dup, 1) := by decide +kernel
theorem d_Mod_act_567 : decode b_Mod_act 567 = .ok (.getfield 66, 3) := by decide +kernel
theorem d_Mod_act_570 : decode b_Mod_act 570 = .ok (.iconst 2, 1) := by decide +kernel
theorem d_Mod_act_571 : decode b_Mod_act 571 = .ok (.isub, 1) := by decide +kernel
theorem d_Mod_act_572 : decode b_Mod_act 572 = .ok (.putfield 66, 3) := by decide +kernel
theorem d_Mod_act_575 : decode b_Mod_act 575 = .ok (.aload_n 0, 1) := by decide +kernel
theorem d_Mod_act_576 : decode b_Mod_act 576 = .ok (.iload 7, 2) := by decide +kernel
theorem d_Mod_act_578 : decode b_Mod_act 578 = .ok (.iload 8, 2) := by decide +kernel
theorem d_Mod_act_580 : decode b_Mod_act 580 = .ok (.iadd, 1) := by decide +kernel
theorem d_Mod_act_581 : decode b_Mod_act 581 = .ok (.invokevirtual 89, 3) := by decide +kernel
theorem d_Mod_act_584 : decode b_Mod_act 584 = .ok (.ireturn, 1) := by decide +kernel
theorem d_Mod_act_585 : decode b_Mod_act 585 = .ok (.aload_n 0, 1) := by decide +kernel
theorem d_Mod_act_586 : decode b_Mod_act 586 = .ok (.dup, 1) := by decide +kernel
theorem d_Mod_act_587 : decode b_Mod_act 587 = .ok (.getfield 66, 3) := by decide +kernel
theorem d_Mod_act_590 : decode b_Mod_act 590 = .ok (.iconst 2, 1) := by decide +kernel
theorem d_Mod_act_591 : decode b_Mod_act 591 = .ok (.isub, 1) := by decide +kernel
theorem d_Mod_act_592 : decode b_Mod_act 592 = .ok (.putfield 66, 3) := by decide +kernel
theorem d_Mod_act_595 : decode b_Mod_act 595 = .ok (.aload_n 0, 1) := by decide +kernel
theorem d_Mod_act_596 : decode b_Mod_act 596 = .ok (.iload 7, 2) := by decide +kernel
theorem d_Mod_act_598 : decode b_Mod_act 598 = .ok (.iload 8, 2) := by decide +kernel
theorem d_Mod_act_600 : decode b_Mod_act 600 = .ok (.isub, 1) := by decide +kernel
theorem d_Mod_act_601 : decode b_Mod_act 601 = .ok (.invokevirtual 89, 3) := by decide +kernel
theorem d_Mod_act_604 : decode b_Mod_act 604 = .ok (.ireturn, 1) := by decide +kernel
theorem d_Mod_act_605 : decode b_Mod_act 605 = .ok (.aload_n 0, 1) := by decide +kernel
theorem d_Mod_act_606 : decode b_Mod_act 606 = .ok (.dup, 1) := by decide +kernel
theorem d_Mod_act_607 : decode b_Mod_act 607 = .ok (.getfield 66, 3) := by decide +kernel
theorem d_Mod_act_610 : decode b_Mod_act 610 = .ok (.iconst 2, 1) := by decide +kernel
theorem d_Mod_act_611 : decode b_Mod_act 611 = .ok (.isub, 1) := by decide +kernel
theorem d_Mod_act_612 : decode b_Mod_act 612 = .ok (.putfield 66, 3) := by decide +kernel
theorem d_Mod_act_615 : decode b_Mod_act 615 = .ok (.aload_n 0, 1) := by decide +kernel
theorem d_Mod_act_616 : decode b_Mod_act 616 = .ok (.iload 7, 2) := by decide +kernel
theorem d_Mod_act_618 : decode b_Mod_act 618 = .ok (.iload 8, 2) := by decide +kernel
theorem d_Mod_act_620 : decode b_Mod_act 620 = .ok (.if_icmp .ge 7, 3) := by decide +kernel
theorem d_Mod_act_623 : decode b_Mod_act 623 = .ok (.iconst 1, 1) := by decide +kernel
theorem d_Mod_act_624 : decode b_Mod_act 624 = .ok (.goto 4, 3) := by decide +kernel
theorem d_Mod_act_627 : decode b_Mod_act 627 = .ok (.iconst 0, 1) := by decide +kernel
theorem d_Mod_act_628 : decode b_Mod_act 628 = .ok (.invokevirtual 89, 3) := by decide +kernel
theorem d_Mod_act_631 : decode b_Mod_act 631 = .ok (.ireturn, 1) := by decide +kernel
theorem d_Mod_act_632 : decode b_Mod_act 632 = .ok (.aload_n 0, 1) := by decide +kernel
theorem d_Mod_act_633 : decode b_Mod_act 633 = .ok (.dup, 1) := by decide +kernel
theorem d_Mod_act_634 : decode b_Mod_act 634 = .ok (.getfield 66, 3) := by decide +kernel
theorem d_Mod_act_637 : decode b_Mod_act 637 = .ok (.iconst 2, 1) := by decide +kernel
theorem d_Mod_act_638 : decode b_Mod_act 638 = .ok (.isub, 1) := by decide +kernel
theorem d_Mod_act_639 : decode b_Mod_act 639 = .ok (.putfield 66, 3) := by decide +kernel
theorem d_Mod_act_642 : decode b_Mod_act 642 = .ok (.aload_n 0, 1) := by decide +kernel
theorem d_Mod_act_643 : decode b_Mod_act 643 = .ok (.aload_n 0, 1) := by decide +kernel
theorem d_Mod_act_644 : decode b_Mod_act 644 = .ok (.iload_n 3, 1) := by decide +kernel
theorem d_Mod_act_645 : decode b_Mod_act 645 = .ok (.invokevirtual 93, 3) := by decide +kernel
theorem d_Mod_act_648 : decode b_Mod_act 648 = .ok (.ifCond .eq 16, 3) := by decide +kernel
theorem d_Mod_act_651 : decode b_Mod_act 651 = .ok (.aload_n 0, 1) := by decide +kernel
theorem d_Mod_act_652 : decode b_Mod_act 652 = .ok (.iload 4, 2) := by decide +kernel
theorem d_Mod_act_654 : decode b_Mod_act 654 = .ok (.invokevirtual 93, 3) := by decide +kernel
theorem d_Mod_act_657 : decode b_Mod_act 657 = .ok (.ifCond .eq 7, 3) := by decide +kernel
theorem d_Mod_act_660 : decode b_Mod_act 660 = .ok (.iconst 1, 1) := by decide +kernel
theorem d_Mod_act_661 : decode b_Mod_act 661 = .ok (.goto 4, 3) := by decide +kernel
theorem d_Mod_act_664 : decode b_Mod_act 664 = .ok (.iconst 0, 1) := by decide +kernel
theorem d_Mod_act_665 : decode b_Mod_act 665 = .ok (.invokevirtual 89, 3) := by decide +kernel
theorem d_Mod_act_668 : decode b_Mod_act 668 = .ok (.ireturn, 1) := by decide +kernel
theorem d_Mod_act_669 : decode b_Mod_act 669 = .ok (.aload_n 0, 1) := by decide +kernel
theorem d_Mod_act_670 : decode b_Mod_act 670 = .ok (.aload_n 0, 1) := by decide +kernel
theorem d_Mod_act_671 : decode b_Mod_act 671 = .ok (.getfield 41, 3) := by decide +kernel
theorem d_Mod_act_674 : decode b_Mod_act 674 = .ok (.bipush 80, 2) := by decide +kernel
theorem d_Mod_act_676 : decode b_Mod_act 676 = .ok (.iload 4, 2) := by decide +kernel
theorem d_Mod_act_678 : decode b_Mod_act 678 = .ok (.imul, 1) := by decide +kernel
theorem d_Mod_act_679 : decode b_Mod_act 679 = .ok (.aload_n 0, 1) := by decide +kernel
theorem d_Mod_act_680 : decode b_Mod_act 680 = .ok (.getfield 44, 3) := by decide +kernel
theorem d_Mod_act_683 : decode b_Mod_act 683 = .ok (.iload 4, 2) := by decide +kernel
theorem d_Mod_act_685 : decode b_Mod_act 685 = .ok (.iaload, 1) := by decide +kernel
theorem d_Mod_act_686 : decode b_Mod_act 686 = .ok (.aload_n 0, 1) := by decide +kernel
theorem d_Mod_act_687 : decode b_Mod_act 687 = .ok (.getfield 35, 3) := by decide +kernel
theorem d_Mod_act_690 : decode b_Mod_act 690 = .ok (.iconst 0, 1) := by decide +kernel
theorem d_Mod_act_691 : decode b_Mod_act 691 = .ok (.invokevirtual 62, 3) := by decide +kernel
theorem d_Mod_act_694 : decode b_Mod_act 694 = .ok (.aload_n 0, 1) := by decide +kernel
theorem d_Mod_act_695 : decode b_Mod_act 695 = .ok (.dup, 1) := by decide +kernel
theorem d_Mod_act_696 : decode b_Mod_act 696 = .ok (.getfield 66, 3) := by decide +kernel
theorem d_Mod_act_699 : decode b_Mod_act 699 = .ok (.iconst 1, 1) := by decide +kernel
theorem d_Mod_act_700 : decode b_Mod_act 700 = .ok (.isub, 1) := by decide +kernel
theorem d_Mod_act_701 : decode b_Mod_act 701 = .ok (.putfield 66, 3) := by decide +kernel
theorem d_Mod_act_704 : decode b_Mod_act 704 = .ok (.aload_n 0, 1) := by decide +kernel
theorem d_Mod_act_705 : decode b_Mod_act 705 = .ok (.aload_n 0, 1) := by decide +kernel
theorem d_Mod_act_706 : decode b_Mod_act 706 = .ok (.getfield 35, 3) := by decide +kernel
theorem d_Mod_act_709 : decode b_Mod_act 709 = .ok (.iconst 0, 1) := by decide +kernel
theorem d_Mod_act_710 : decode b_Mod_act 710 = .ok (.bipush 32, 2) := by decide +kernel
theorem d_Mod_act_712 : decode b_Mod_act 712 = .ok (.invokevirtual 70, 3) := by decide +kernel
theorem d_Mod_act_715 : decode b_Mod_act 715 = .ok (.ireturn, 1) := by decide +kernel
theorem d_Mod_act_716 : decode b_Mod_act 716 = .ok (.aload_n 0, 1) := by decide +kernel
theorem d_Mod_act_717 : decode b_Mod_act 717 = .ok (.aload_n 0, 1) := by decide +kernel
theorem d_Mod_act_718 : decode b_Mod_act 718 = .ok (.getfield 41, 3) := by decide +kernel
theorem d_Mod_act_721 : decode b_Mod_act 721 = .ok (.bipush 80, 2) := by decide +kernel
theorem d_Mod_act_723 : decode b_Mod_act 723 = .ok (.iload 4, 2) := by decide +kernel
theorem d_Mod_act_725 : decode b_Mod_act 725 = .ok (.imul, 1) := by decide +kernel
theorem d_Mod_act_726 : decode b_Mod_act 726 = .ok (.aload_n 0, 1) := by decide +kernel
theorem d_Mod_act_727 : decode b_Mod_act 727 = .ok (.getfield 44, 3) := by decide +kernel
theorem d_Mod_act_730 : decode b_Mod_act 730 = .ok (.iload 4, 2) := by decide +kernel
theorem d_Mod_act_732 : decode b_Mod_act 732 = .ok (.iaload, 1) := by decide +kernel
theorem d_Mod_act_733 : decode b_Mod_act 733 = .ok (.aload_n 0, 1) := by decide +kernel
theorem d_Mod_act_734 : decode b_Mod_act 734 = .ok (.getfield 35, 3) := by decide +kernel
theorem d_Mod_act_737 : decode b_Mod_act 737 = .ok (.iconst 0, 1) := by decide +kernel
theorem d_Mod_act_738 : decode b_Mod_act 738 = .ok (.invokevirtual 74, 3) := by decide +kernel
theorem d_Mod_act_741 : decode b_Mod_act 741 = .ok (.aload_n 0, 1) := by decide +kernel
theorem d_Mod_act_742 : decode b_Mod_act 742 = .ok (.dup, 1) := by decide +kernel
theorem d_Mod_act_743 : decode b_Mod_act 743 = .ok (.getfield 66, 3) := by decide +kernel
theorem d_Mod_act_746 : decode b_Mod_act 746 = .ok (.iconst 1, 1) := by decide +kernel
theorem d_Mod_act_747 : decode b_Mod_act 747 = .ok (.isub, 1) := by decide +kernel
theorem d_Mod_act_748 : decode b_Mod_act 748 = .ok (.putfield 66, 3) := by decide +kernel
theorem d_Mod_act_751 : decode b_Mod_act 751 = .ok (.aload_n 0, 1) := by decide +kernel
theorem d_Mod_act_752 : decode b_Mod_act 752 = .ok (.aload_n 0, 1) := by decide +kernel
theorem d_Mod_act_753 : decode b_Mod_act 753 = .ok (.getfield 35, 3) := by decide +kernel
theorem d_Mod_act_756 : decode b_Mod_act 756 = .ok (.iconst 0, 1) := by decide +kernel
theorem d_Mod_act_757 : decode b_Mod_act 757 = .ok (.bipush 32, 2) := by decide +kernel
theorem d_Mod_act_759 : decode b_Mod_act 759 = .ok (.invokevirtual 70, 3) := by decide +kernel
theorem d_Mod_act_762 : decode b_Mod_act 762 = .ok (.ireturn, 1) := by decide +kernel
theorem d_Mod_act_763 : decode b_Mod_act 763 = .ok (.aload_n 0, 1) := by decide +kernel
theorem d_Mod_act_764 : decode b_Mod_act 764 = .ok (.iload_n 3, 1) := by decide +kernel
theorem d_Mod_act_765 : decode b_Mod_act 765 = .ok (.iload 4, 2) := by decide +kernel
theorem d_Mod_act_767 : decode b_Mod_act 767 = .ok (.invokevirtual 85, 3) := by decide +kernel
theorem d_Mod_act_770 : decode b_Mod_act 770 = .ok (.istore 10, 2) := by decide +kernel
theorem d_Mod_act_772 : decode b_Mod_act 772 = .ok (.aload_n 0, 1) := by decide +kernel
theorem d_Mod_act_773 : decode b_Mod_act 773 = .ok (.dup, 1) := by decide +kernel
theorem d_Mod_act_774 : decode b_Mod_act 774 = .ok (.getfield 66, 3) := by decide +kernel
theorem d_Mod_act_777 : decode b_Mod_act 777 = .ok (.iconst 2, 1) := by decide +kernel
theorem d_Mod_act_778 : decode b_Mod_act 778 = .ok (.isub, 1) := by decide +kernel
theorem d_Mod_act_779 : decode b_Mod_act 779 = .ok (.putfield 66, 3) := by decide +kernel
theorem d_Mod_act_782 : decode b_Mod_act 782 = .ok (.aload_n 0, 1) := by decide +kernel
theorem d_Mod_act_783 : decode b_Mod_act 783 = .ok (.iload 10, 2) := by decide +kernel
theorem d_Mod_act_785 : decode b_Mod_act 785 = .ok (.ifCond .eq 7, 3) := by decide +kernel
theorem d_Mod_act_788 : decode b_Mod_act 788 = .ok (.iconst 1, 1) := by decide +kernel
theorem d_Mod_act_789 : decode b_Mod_act 789 = .ok (.goto 4, 3) := by decide +kernel
theorem d_Mod_act_792 : decode b_Mod_act 792 = .ok (.iconst 0, 1) := by decide +kernel
theorem d_Mod_act_793 : decode b_Mod_act 793 = .ok (.invokevirtual 89, 3) := by decide +kernel
theorem d_Mod_act_796 : decode b_Mod_act 796 = .ok (.ireturn, 1) := by decide +kernel
theorem d_Mod_act_797 : decode b_Mod_act 797 = .ok (.aload_n 0, 1) := by decide +kernel
theorem d_Mod_act_798 : decode b_Mod_act 798 = .ok (.dup, 1) := by decide +kernel
theorem d_Mod_act_799 : decode b_Mod_act 799 = .ok (.getfield 66, 3) := by decide +kernel
theorem d_Mod_act_802 : decode b_Mod_act 802 = .ok (.iconst 1, 1) := by decide +kernel
theorem d_Mod_act_803 : decode b_Mod_act 803 = .ok (.isub, 1) := by decide +kernel
theorem d_Mod_act_804 : decode b_Mod_act 804 = .ok (.putfield 66, 3) := by decide +kernel
theorem d_Mod_act_807 : decode b_Mod_act 807 = .ok (.iload_n 2, 1) := by decide +kernel
theorem d_Mod_act_808 : decode b_Mod_act 808 = .ok (.iload 8, 2) := by decide +kernel
theorem d_Mod_act_810 : decode b_Mod_act 810 = .ok (.if_icmp .lt 7, 3) := by decide +kernel
theorem d_Mod_act_813 : decode b_Mod_act 813 = .ok (.iconst 1, 1) := by decide +kernel
theorem d_Mod_act_814 : decode b_Mod_act 814 = .ok (.goto 4, 3) := by decide +kernel
theorem d_Mod_act_817 : decode b_Mod_act 817 = .ok (.iconst 0, 1) := by decide +kernel
theorem d_Mod_act_818 : decode b_Mod_act 818 = .ok (.ireturn, 1) := by decide +kernel
theorem d_Mod_act_819 : decode b_Mod_act 819 = .ok (.aload_n 0, 1) := by decide +kernel
theorem d_Mod_act_820 : decode b_Mod_act 820 = .ok (.iconst 1, 1) := by decide +kernel
theorem d_Mod_act_821 : decode b_Mod_act 821 = .ok (.invokevirtual 89, 3) := by decide +kernel
theorem d_Mod_act_824 : decode b_Mod_act 824 = .ok (.ireturn, 1) := by decide +kernel
theorem d_Mod_act_825 : decode b_Mod_act 825 = .ok (.iconst 0, 1) := by decide +kernel
theorem d_Mod_act_826 : decode b_Mod_act 826 = .ok (.ireturn, 1) := by decide +kernel
end
section
theorem d_Mod_script3_0 : decode b_Mod_script3 0 = .ok (.iconst 0, 1) := by decide +kernel
theorem d_Mod_script3_1 : decode b_Mod_script3 1 = .ok (.istore 4, 2) := by decide +kernel
theorem d_Mod_script3_3 : decode b_Mod_script3 3 = .ok (.iconst 0, 1) := by decide +kernel
theorem d_Mod_script3_4 : decode b_Mod_script3 4 = .ok (.istore 5, 2) := by decide +kernel
theorem d_Mod_script3_6 : decode b_Mod_script3 6 = .ok (.iload_n 1, 1) := by decide +kernel
theorem d_Mod_script3_7 : decode b_Mod_script3 7 = .ok (.istore 6, 2) := by decide +kernel
theorem d_Mod_script3_9 : decode b_Mod_script3 9 = .ok (.iload 6, 2) := by decide +kernel
theorem d_Mod_script3_11 : decode b_Mod_script3 11 = .ok (.iload_n 1, 1) := by decide +kernel
theorem d_Mod_script3_12 : decode b_Mod_script3 12 = .ok (.iload_n 2, 1) := by decide +kernel
theorem d_Mod_script3_13 : decode b_Mod_script3 13 = .ok (.iadd, 1) := by decide +kernel
theorem d_Mod_script3_14 : decode b_Mod_script3 14 = .ok (.if_icmp .ge 300, 3) := by decide +kernel
theorem d_Mod_script3_17 : decode b_Mod_script3 17 = .ok (.aload_n 0, 1) := by decide +kernel
theorem d_Mod_script3_18 : decode b_Mod_script3 18 = .ok (.getfield 16, 3) := by decide +kernel
theorem d_Mod_script3_21 : decode b_Mod_script3 21 = .ok (.iload 6, 2) := by decide +kernel
theorem d_Mod_script3_23 : decode b_Mod_script3 23 = .ok (.baload, 1) := by decide +kernel
theorem d_Mod_script3_24 : decode b_Mod_script3 24 = .ok (.sipush 255, 3) := by decide +kernel
theorem d_Mod_script3_27 : decode b_Mod_script3 27 = .ok (.iand, 1) := by decide +kernel
theorem d_Mod_script3_28 : decode b_Mod_script3 28 = .ok (.istore 7, 2) := by decide +kernel
theorem d_Mod_script3_30 : decode b_Mod_script3 30 = .ok (.iinc 6 1, 3) := by decide +kernel
theorem d_Mod_script3_33 : decode b_Mod_script3 33 = .ok (.iload 7, 2) := by decide +kernel
theorem d_Mod_script3_35 : decode b_Mod_script3 35 = .ok (.bipush 75, 2) := by decide +kernel
theorem d_Mod_script3_37 : decode b_Mod_script3 37 = .ok (.if_icmp .gt 48, 3) := by decide +kernel
theorem d_Mod_script3_40 : decode b_Mod_script3 40 = .ok (.iload 6, 2) := by decide +kernel
theorem d_Mod_script3_42 : decode b_Mod_script3 42 = .ok (.iload 7, 2) := by decide +kernel
theorem d_Mod_script3_44 : decode b_Mod_script3 44 = .ok (.iadd, 1) := by decide +kernel
theorem d_Mod_script3_45 : decode b_Mod_script3 45 = .ok (.iload_n 1, 1) := by decide +kernel
theorem d_Mod_script3_46 : decode b_Mod_script3 46 = .ok (.iload_n 2, 1) := by decide +kernel
theorem d_Mod_script3_47 : decode b_Mod_script3 47 = .ok (.iadd, 1) := by decide +kernel
theorem d_Mod_script3_48 : decode b_Mod_script3 48 = .ok (.if_icmp .le 5, 3) := by decide +kernel
theorem d_Mod_script3_51 : decode b_Mod_script3 51 = .ok (.iconst 0, 1) := by decide +kernel
theorem d_Mod_script3_52 : decode b_Mod_script3 52 = .ok (.ireturn, 1) := by decide +kernel
theorem d_Mod_script3_53 : decode b_Mod_script3 53 = .ok (.iload 5, 2) := by decide +kernel
theorem d_Mod_script3_55 : decode b_Mod_script3 55 = .ok (.ifCond .ne 20, 3) := by decide +kernel
theorem d_Mod_script3_58 : decode b_Mod_script3 58 = .ok (.aload_n 0, 1) := by decide +kernel
theorem d_Mod_script3_59 : decode b_Mod_script3 59 = .ok (.aload_n 0, 1) := by decide +kernel
theorem d_Mod_script3_60 : decode b_Mod_script3 60 = .ok (.getfield 16, 3) := by decide +kernel
theorem d_Mod_script3_63 : decode b_Mod_script3 63 = .ok (.iload 6, 2) := by decide +kernel
theorem d_Mod_script3_65 : decode b_Mod_script3 65 = .ok (.iload 7, 2) := by decide +kernel
theorem d_Mod_script3_67 : decode b_Mod_script3 67 = .ok (.invokevirtual 70, 3) := by decide +kernel
theorem d_Mod_script3_70 : decode b_Mod_script3 70 = .ok (.ifCond .ne 5, 3) := by decide +kernel
theorem d_Mod_script3_73 : decode b_Mod_script3 73 = .ok (.iconst 0, 1) := by decide +kernel
theorem d_Mod_script3_74 : decode b_Mod_script3 74 = .ok (.ireturn, 1) := by decide +kernel
theorem d_Mod_script3_75 : decode b_Mod_script3 75 = .ok (.iload 6, 2) := by decide +kernel
theorem d_Mod_script3_77 : decode b_Mod_script3 77 = .ok (.iload 7, 2) := by decide +kernel
theorem d_Mod_script3_79 : decode b_Mod_script3 79 = .ok (.iadd, 1) := by decide +kernel
theorem d_Mod_script3_80 : decode b_Mod_script3 80 = .ok (.istore 6, 2) := by decide +kernel
theorem d_Mod_script3_82 : decode b_Mod_script3 82 = .ok (.goto 229, 3) := by decide +kernel
theorem d_Mod_script3_85 : decode b_Mod_script3 85 = .ok (.iload 7, 2) := by decide +kernel
theorem d_Mod_script3_87 : decode b_Mod_script3 87 = .ok (.bipush 97, 2) := by decide +kernel
theorem d_Mod_script3_89 : decode b_Mod_script3 89 = .ok (.if_icmp .eq 10, 3) := by decide +kernel
theorem d_Mod_script3_92 : decode b_Mod_script3 92 = .ok (.iload 7, 2) := by decide +kernel
theorem d_Mod_script3_94 : decode b_Mod_script3 94 = .ok (.bipush 98, 2) := by decide +kernel
theorem d_Mod_script3_96 : decode b_Mod_script3 96 = .ok (.if_icmp .ne 83, 3) := by decide +kernel
theorem d_Mod_script3_99 : decode b_Mod_script3 99 = .ok (.iconst 0, 1) := by decide +kernel
theorem d_Mod_script3_100 : decode b_Mod_script3 100 = .ok (.istore 8, 2) := by decide +kernel
theorem d_Mod_script3_102 : decode b_Mod_script3 102 = .ok (.iload 5, 2) := by decide +kernel
theorem d_Mod_script3_104 : decode b_Mod_script3 104 = .ok (.ifCond .ne 52, 3) := by decide +kernel
theorem d_Mod_script3_107 : decode b_Mod_script3 107 = .ok (.aload_n 0, 1) := by decide +kernel
theorem d_Mod_script3_108 : decode b_Mod_script3 108 = .ok (.getfield 66, 3) := by decide +kernel
theorem d_Mod_script3_111 : decode b_Mod_script3 111 = .ok (.ifCond .ne 5, 3) := by decide +kernel
theorem d_Mod_script3_114 : decode b_Mod_script3 114 = .ok (.iconst 0, 1) := by decide +kernel
theorem d_Mod_script3_115 : decode b_Mod_script3 115 = .ok (.ireturn, 1) := by decide +kernel
theorem d_Mod_script3_116 : decode b_Mod_script3 116 = .ok (.aload_n 0, 1) := by decide +kernel
theorem d_Mod_script3_117 : decode b_Mod_script3 117 = .ok (.dup, 1) := by decide +kernel
theorem d_Mod_script3_118 : decode b_Mod_script3 118 = .ok (.getfield 66, 3) := by decide +kernel
theorem d_Mod_script3_121 : decode b_Mod_script3 121 = .ok (.iconst 1, 1) := by decide +kernel
theorem d_Mod_script3_122 : decode b_Mod_script3 122 = .ok (.isub, 1) := by decide +kernel
theorem d_Mod_script3_123 : decode b_Mod_script3 123 = .ok (.putfield 66, 3) := by decide +kernel
theorem d_Mod_script3_126 : decode b_Mod_script3 126 = .ok (.aload_n 0, 1) := by decide +kernel
theorem d_Mod_script3_127 : decode b_Mod_script3 127 = .ok (.aload_n 0, 1) := by decide +kernel
theorem d_Mod_script3_128 : decode b_Mod_script3 128 = .ok (.getfield 66, 3) := by decide +kernel
theorem d_Mod_script3_131 : decode b_Mod_script3 131 = .ok (.invokevirtual 93, 3) := by decide +kernel
theorem d_Mod_script3_134 : decode b_Mod_script3 134 = .ok (.iload 7, 2) := by decide +kernel
theorem d_Mod_script3_136 : decode b_Mod_script3 136 = .ok (.bipush 97, 2) := by decide +kernel
theorem d_Mod_script3_138 : decode b_Mod_script3 138 = .ok (.if_icmp .ne 7, 3) := by decide +kernel
theorem d_Mod_script3_141 : decode b_Mod_script3 141 = .ok (.iconst 1, 1) := by decide +kernel
theorem d_Mod_script3_142 : decode b_Mod_script3 142 = .ok (.goto 4, 3) := by decide +kernel
theorem d_Mod_script3_145 : decode b_Mod_script3 145 = .ok (.iconst 0, 1) := by decide +kernel
theorem d_Mod_script3_146 : decode b_Mod_script3 146 = .ok (.if_icmp .ne 7, 3) := by decide +kernel
theorem d_Mod_script3_149 : decode b_Mod_script3 149 = .ok (.iconst 1, 1) := by decide +kernel
theorem d_Mod_script3_150 : decode b_Mod_script3 150 = .ok (.goto 4, 3) := by decide +kernel
theorem d_Mod_script3_153 : decode b_Mod_script3 153 = .ok (.iconst 0, 1) := by decide +kernel
theorem d_Mod_script3_154 : decode b_Mod_script3 154 = .ok (.istore 8, 2) := by decide +kernel
theorem d_Mod_script3_156 : decode b_Mod_script3 156 = .ok (.aload_n 0, 1) := by decide +kernel
theorem d_Mod_script3_157 : decode b_Mod_script3 157 = .ok (.getfield 47, 3) := by decide +kernel
theorem d_Mod_script3_160 : decode b_Mod_script3 160 = .ok (.iload 4, 2) := by decide +kernel
theorem d_Mod_script3_162 : decode b_Mod_script3 162 = .ok (.iload 8, 2) := by decide +kernel
theorem d_Mod_script3_164 : decode b_Mod_script3 164 = .ok (.bastore, 1) := by decide +kernel
theorem d_Mod_script3_165 : decode b_Mod_script3 165 = .ok (.iinc 4 1, 3) := by decide +kernel
theorem d_Mod_script3_168 : decode b_Mod_script3 168 = .ok (.iload 8, 2) := by decide +kernel
theorem d_Mod_script3_170 : decode b_Mod_script3 170 = .ok (.ifCond .ne 6, 3) := by decide +kernel
theorem d_Mod_script3_173 : decode b_Mod_script3 173 = .ok (.iinc 5 1, 3) := by decide +kernel
theorem d_Mod_script3_176 : decode b_Mod_script3 176 = .ok (.goto 135, 3) := by decide +kernel
theorem d_Mod_script3_179 : decode b_Mod_script3 179 = .ok (.iload 7, 2) := by decide +kernel
theorem d_Mod_script3_181 : decode b_Mod_script3 181 = .ok (.bipush 99, 2) := by decide +kernel
theorem d_Mod_script3_183 : decode b_Mod_script3 183 = .ok (.if_icmp .ne 61, 3) := by decide +kernel
theorem d_Mod_script3_186 : decode b_Mod_script3 186 = .ok (.iload 4, 2) := by decide +kernel
theorem d_Mod_script3_188 : decode b_Mod_script3 188 = .ok (.ifCond .ne 5, 3) := by decide +kernel
theorem d_Mod_script3_191 : decode b_Mod_script3 191 = .ok (.iconst 0, 1) := by decide +kernel
theorem d_Mod_script3_192 : decode b_Mod_script3 192 = .ok (.ireturn, 1) := by decide +kernel
theorem d_Mod_script3_193 : decode b_Mod_script3 193 = .ok (.iload 5, 2) := by decide +kernel
theorem d_Mod_script3_195 : decode b_Mod_script3 195 = .ok (.aload_n 0, 1) := by decide +kernel
theorem d_Mod_script3_196 : decode b_Mod_script3 196 = .ok (.getfield 47, 3) := by decide +kernel
theorem d_Mod_script3_199 : decode b_Mod_script3 199 = .ok (.iload 4, 2) := by decide +kernel
theorem d_Mod_script3_201 : decode b_Mod_script3 201 = .ok (.iconst 1, 1) := by decide +kernel
theorem d_Mod_script3_202 : decode b_Mod_script3 202 = .ok (.isub, 1) := by decide +kernel
theorem d_Mod_script3_203 : decode b_Mod_script3 203 = .ok (.baload, 1) := by decide +kernel
theorem d_Mod_script3_204 : decode b_Mod_script3 204 = .ok (.ifCond .eq 7, 3) := by decide +kernel
theorem d_Mod_script3_207 : decode b_Mod_script3 207 = .ok (.iconst 1, 1) := by decide +kernel
theorem d_Mod_script3_208 : decode b_Mod_script3 208 = .ok (.goto 4, 3) := by decide +kernel
theorem d_Mod_script3_211 : decode b_Mod_script3 211 = .ok (.iconst (-1), 1) := by decide +kernel
theorem d_Mod_script3_212 : decode b_Mod_script3 212 = .ok (.iadd, 1) := by decide +kernel
theorem d_Mod_script3_213 : decode b_Mod_script3 213 = .ok (.istore 5, 2) := by decide +kernel
theorem d_Mod_script3_215 : decode b_Mod_script3 215 = .ok (.aload_n 0, 1) := by decide +kernel
theorem d_Mod_script3_216 : decode b_Mod_script3 216 = .ok (.getfield 47, 3) := by decide +kernel
theorem d_Mod_script3_219 : decode b_Mod_script3 219 = .ok (.iload 4, 2) := by decide +kernel
theorem d_Mod_script3_221 : decode b_Mod_script3 221 = .ok (.iconst 1, 1) := by decide +kernel
theorem d_Mod_script3_222 : decode b_Mod_script3 222 = .ok (.isub, 1) := by decide +kernel
theorem d_Mod_script3_223 : decode b_Mod_script3 223 = .ok (.aload_n 0, 1) := by decide +kernel
theorem d_Mod_script3_224 : decode b_Mod_script3 224 = .ok (.getfield 47, 3) := by decide +kernel
theorem d_Mod_script3_227 : decode b_Mod_script3 227 = .ok (.iload 4, 2) := by decide +kernel
theorem d_Mod_script3_229 : decode b_Mod_script3 229 = .ok (.iconst 1, 1) := by decide +kernel
theorem d_Mod_script3_230 : decode b_Mod_script3 230 = .ok (.isub, 1) := by decide +kernel
theorem d_Mod_script3_231 : decode b_Mod_script3 231 = .ok (.baload, 1) := by decide +kernel
theorem d_Mod_script3_232 : decode b_Mod_script3 232 = .ok (.ifCond .ne 7, 3) := by decide +kernel
theorem d_Mod_script3_235 : decode b_Mod_script3 235 = .ok (.iconst 1, 1) := by decide +kernel
theorem d_Mod_script3_236 : decode b_Mod_script3 236 = .ok (.goto 4, 3) := by decide +kernel
theorem d_Mod_script3_239 : decode b_Mod_script3 239 = .ok (.iconst 0, 1) := by decide +kernel
theorem d_Mod_script3_240 : decode b_Mod_script3 240 = .ok (.bastore, 1) := by decide +kernel
theorem d_Mod_script3_241 : decode b_Mod_script3 241 = .ok (.goto 70, 3) := by decide +kernel
theorem d_Mod_script3_244 : decode b_Mod_script3 244 = .ok (.iload 7, 2) := by decide +kernel
theorem d_Mod_script3_246 : decode b_Mod_script3 246 = .ok (.bipush 100, 2) := by decide +kernel
theorem d_Mod_script3_248 : decode b_Mod_script3 248 = .ok (.if_icmp .ne 29, 3) := by decide +kernel
theorem d_Mod_script3_251 : decode b_Mod_script3 251 = .ok (.iload 4, 2) := by decide +kernel
theorem d_Mod_script3_253 : decode b_Mod_script3 253 = .ok (.ifCond .ne 5, 3) := by decide +kernel
theorem d_Mod_script3_256 : decode b_Mod_script3 256 = .ok (.iconst 0, 1) := by decide +kernel
theorem d_Mod_script3_257 : decode b_Mod_script3 257 = .ok (.ireturn, 1) := by decide +kernel
theorem d_Mod_script3_258 : decode b_Mod_script3 258 = .ok (.iinc 4 (-1), 3) := by decide +kernel
theorem d_Mod_script3_261 : decode b_Mod_script3 261 = .ok (.aload_n 0, 1) := by decide +kernel
theorem d_Mod_script3_262 : decode b_Mod_script3 262 = .ok (.getfield 47, 3) := by decide +kernel
theorem d_Mod_script3_265 : decode b_Mod_script3 265 = .ok (.iload 4, 2) := by decide +kernel
theorem d_Mod_script3_267 : decode b_Mod_script3 267 = .ok (.baload, 1) := by decide +kernel
theorem d_Mod_script3_268 : decode b_Mod_script3 268 = .ok (.ifCond .ne 43, 3) := by decide +kernel
theorem d_Mod_script3_271 : decode b_Mod_script3 271 = .ok (.iinc 5 (-1), 3) := by decide +kernel
theorem d_Mod_script3_274 : decode b_Mod_script3 274 = .ok (.goto 37, 3) := by decide +kernel
theorem d_Mod_script3_277 : decode b_Mod_script3 277 = .ok (.iload 5, 2) := by decide +kernel
theorem d_Mod_script3_279 : decode b_Mod_script3 279 = .ok (.ifCond .ne 32, 3) := by decide +kernel
theorem d_Mod_script3_282 : decode b_Mod_script3 282 = .ok (.iload 7, 2) := by decide +kernel
theorem d_Mod_script3_284 : decode b_Mod_script3 284 = .ok (.bipush 103, 2) := by decide +kernel
theorem d_Mod_script3_286 : decode b_Mod_script3 286 = .ok (.if_icmp .ne 13, 3) := by decide +kernel
theorem d_Mod_script3_289 : decode b_Mod_script3 289 = .ok (.aload_n 0, 1) := by decide +kernel
theorem d_Mod_script3_290 : decode b_Mod_script3 290 = .ok (.invokevirtual 96, 3) := by decide +kernel
theorem d_Mod_script3_293 : decode b_Mod_script3 293 = .ok (.ifCond .eq 16, 3) := by decide +kernel
theorem d_Mod_script3_296 : decode b_Mod_script3 296 = .ok (.goto 15, 3) := by decide +kernel
theorem d_Mod_script3_299 : decode b_Mod_script3 299 = .ok (.aload_n 0, 1) := by decide +kernel
theorem d_Mod_script3_300 : decode b_Mod_script3 300 = .ok (.iload 7, 2) := by decide +kernel
theorem d_Mod_script3_302 : decode b_Mod_script3 302 = .ok (.iload_n 3, 1) := by decide +kernel
theorem d_Mod_script3_303 : decode b_Mod_script3 303 = .ok (.invokevirtual 100, 3) := by decide +kernel
theorem d_Mod_script3_306 : decode b_Mod_script3 306 = .ok (.ifCond .ne 5, 3) := by decide +kernel
theorem d_Mod_script3_309 : decode b_Mod_script3 309 = .ok (.iconst 0, 1) := by decide +kernel
theorem d_Mod_script3_310 : decode b_Mod_script3 310 = .ok (.ireturn, 1) := by decide +kernel
theorem d_Mod_script3_311 : decode b_Mod_script3 311 = .ok (.goto (-302), 3) := by decide +kernel
theorem d_Mod_script3_314 : decode b_Mod_script3 314 = .ok (.iload 4, 2) := by decide +kernel
theorem d_Mod_script3_316 : decode b_Mod_script3 316 = .ok (.ifCond .ne 7, 3) := by decide +kernel
theorem d_Mod_script3_319 : decode b_Mod_script3 319 = .ok (.iconst 1, 1) := by decide +kernel
theorem d_Mod_script3_320 : decode b_Mod_script3 320 = .ok (.goto 4, 3) := by decide +kernel
theorem d_Mod_script3_323 : decode b_Mod_script3 323 = .ok (.iconst 0, 1) := by decide +kernel
theorem d_Mod_script3_324 : decode b_Mod_script3 324 = .ok (.ireturn, 1) := by decide +kernel
theorem d_Mod_put_0 : decode b_Mod_put 0 = .ok (.bipush 24, 2) := by decide +kernel
theorem d_Mod_put_2 : decode b_Mod_put 2 = .ok (.istore_n 2, 1) := by decide +kernel
theorem d_Mod_put_3 : decode b_Mod_put 3 = .ok (.iload_n 2, 1) := by decide +kernel
theorem d_Mod_put_4 : decode b_Mod_put 4 = .ok (.ifCond .lt 32, 3) := by decide +kernel
theorem d_Mod_put_7 : decode b_Mod_put 7 = .ok (.aload_n 0, 1) := by decide +kernel
theorem d_Mod_put_8 : decode b_Mod_put 8 = .ok (.getfield 7, 3) := by decide +kernel
theorem d_Mod_put_11 : decode b_Mod_put 11 = .ok (.aload_n 0, 1) := by decide +kernel
theorem d_Mod_put_12 : decode b_Mod_put 12 = .ok (.getfield 103, 3) := by decide +kernel
theorem d_Mod_put_15 : decode b_Mod_put 15 = .ok (.iload_n 1, 1) := by decide +kernel
theorem d_Mod_put_16 : decode b_Mod_put 16 = .ok (.iload_n 2, 1) := by decide +kernel
theorem d_Mod_put_17 : decode b_Mod_put 17 = .ok (.ishr, 1) := by decide +kernel
theorem d_Mod_put_18 : decode b_Mod_put 18 = .ok (.i2b, 1) := by decide +kernel
theorem d_Mod_put_19 : decode b_Mod_put 19 = .ok (.bastore, 1) := by decide +kernel
theorem d_Mod_put_20 : decode b_Mod_put 20 = .ok (.aload_n 0, 1) := by decide +kernel
theorem d_Mod_put_21 : decode b_Mod_put 21 = .ok (.dup, 1) := by decide +kernel
theorem d_Mod_put_22 : decode b_Mod_put 22 = .ok (.getfield 103, 3) := by decide +kernel
theorem d_Mod_put_25 : decode b_Mod_put 25 = .ok (.iconst 1, 1) := by decide +kernel
theorem d_Mod_put_26 : decode b_Mod_put 26 = .ok (.iadd, 1) := by decide +kernel
theorem d_Mod_put_27 : decode b_Mod_put 27 = .ok (.putfield 103, 3) := by decide +kernel
theorem d_Mod_put_30 : decode b_Mod_put 30 = .ok (.iinc 2 (-8), 3) := by decide +kernel
theorem d_Mod_put_33 : decode b_Mod_put 33 = .ok (.goto (-30), 3) := by decide +kernel
theorem d_Mod_put_36 : decode b_Mod_put 36 = .ok (.return_, 1) := by decide +kernel
theorem d_Mod_feed_0 : decode b_Mod_feed 0 = .ok (.aload_n 0, 1) := by decide +kernel
theorem d_Mod_feed_1 : decode b_Mod_feed 1 = .ok (.getfield 103, 3) := by decide +kernel
theorem d_Mod_feed_4 : decode b_Mod_feed 4 = .ok (.bipush 20, 2) := by decide +kernel
theorem d_Mod_feed_6 : decode b_Mod_feed 6 = .ok (.iadd, 1) := by decide +kernel
theorem d_Mod_feed_7 : decode b_Mod_feed 7 = .ok (.sipush 400, 3) := by decide +kernel
theorem d_Mod_feed_10 : decode b_Mod_feed 10 = .ok (.if_icmp .le 6, 3) := by decide +kernel
theorem d_Mod_feed_13 : decode b_Mod_feed 13 = .ok (.bipush (-3), 2) := by decide +kernel
theorem d_Mod_feed_15 : decode b_Mod_feed 15 = .ok (.ireturn, 1) := by decide +kernel
theorem d_Mod_feed_16 : decode b_Mod_feed 16 = .ok (.aload_n 0, 1) := by decide +kernel
theorem d_Mod_feed_17 : decode b_Mod_feed 17 = .ok (.iload_n 1, 1) := by decide +kernel
theorem d_Mod_feed_18 : decode b_Mod_feed 18 = .ok (.invokevirtual 106, 3) := by decide +kernel
theorem d_Mod_feed_21 : decode b_Mod_feed 21 = .ok (.aload_n 0, 1) := by decide +kernel
theorem d_Mod_feed_22 : decode b_Mod_feed 22 = .ok (.iload_n 2, 1) := by decide +kernel
theorem d_Mod_feed_23 : decode b_Mod_feed 23 = .ok (.invokevirtual 106, 3) := by decide +kernel
theorem d_Mod_feed_26 : decode b_Mod_feed 26 = .ok (.aload_n 0, 1) := by decide +kernel
theorem d_Mod_feed_27 : decode b_Mod_feed 27 = .ok (.iload_n 3, 1) := by decide +kernel
theorem d_Mod_feed_28 : decode b_Mod_feed 28 = .ok (.invokevirtual 106, 3) := by decide +kernel
theorem d_Mod_feed_31 : decode b_Mod_feed 31 = .ok (.aload_n 0, 1) := by decide +kernel
theorem d_Mod_feed_32 : decode b_Mod_feed 32 = .ok (.iload 4, 2) := by decide +kernel
theorem d_Mod_feed_34 : decode b_Mod_feed 34 = .ok (.invokevirtual 106, 3) := by decide +kernel
theorem d_Mod_feed_37 : decode b_Mod_feed 37 = .ok (.aload_n 0, 1) := by decide +kernel
theorem d_Mod_feed_38 : decode b_Mod_feed 38 = .ok (.iload 5, 2) := by decide +kernel
theorem d_Mod_feed_40 : decode b_Mod_feed 40 = .ok (.invokevirtual 106, 3) := by decide +kernel
theorem d_Mod_feed_43 : decode b_Mod_feed 43 = .ok (.aload_n 0, 1) := by decide +kernel
theorem d_Mod_feed_44 : decode b_Mod_feed 44 = .ok (.getfield 103, 3) := by decide +kernel
theorem d_Mod_feed_47 : decode b_Mod_feed 47 = .ok (.ireturn, 1) := by decide +kernel
theorem d_Mod_end_0 : decode b_Mod_end 0 = .ok (.iload_n 1, 1) := by decide +kernel
theorem d_Mod_end_1 : decode b_Mod_end 1 = .ok (.ifCond .lt 11, 3) := by decide +kernel
theorem d_Mod_end_4 : decode b_Mod_end 4 = .ok (.iload_n 1, 1) := by decide +kernel
theorem d_Mod_end_5 : decode b_Mod_end 5 = .ok (.aload_n 0, 1) := by decide +kernel
theorem d_Mod_end_6 : decode b_Mod_end 6 = .ok (.getfield 103, 3) := by decide +kernel
theorem d_Mod_end_9 : decode b_Mod_end 9 = .ok (.if_icmp .le 5, 3) := by decide +kernel
theorem d_Mod_end_12 : decode b_Mod_end 12 = .ok (.iconst (-1), 1) := by decide +kernel
theorem d_Mod_end_13 : decode b_Mod_end 13 = .ok (.ireturn, 1) := by decide +kernel
theorem d_Mod_end_14 : decode b_Mod_end 14 = .ok (.aload_n 0, 1) := by decide +kernel
theorem d_Mod_end_15 : decode b_Mod_end 15 = .ok (.iload_n 1, 1) := by decide +kernel
theorem d_Mod_end_16 : decode b_Mod_end 16 = .ok (.putfield 103, 3) := by decide +kernel
theorem d_Mod_end_19 : decode b_Mod_end 19 = .ok (.iload_n 1, 1) := by decide +kernel
theorem d_Mod_end_20 : decode b_Mod_end 20 = .ok (.ireturn, 1) := by decide +kernel
theorem d_Mod_script1_0 : decode b_Mod_script1 0 = .ok (.iload_n 1, 1) := by decide +kernel
theorem d_Mod_script1_1 : decode b_Mod_script1 1 = .ok (.ifCond .lt 17, 3) := by decide +kernel
theorem d_Mod_script1_4 : decode b_Mod_script1 4 = .ok (.iload_n 1, 1) := by decide +kernel
theorem d_Mod_script1_5 : decode b_Mod_script1 5 = .ok (.iconst 1, 1) := by decide +kernel
theorem d_Mod_script1_6 : decode b_Mod_script1 6 = .ok (.if_icmp .gt 12, 3) := by decide +kernel
theorem d_Mod_script1_9 : decode b_Mod_script1 9 = .ok (.aload_n 0, 1) := by decide +kernel
theorem d_Mod_script1_10 : decode b_Mod_script1 10 = .ok (.getfield 103, 3) := by decide +kernel
theorem d_Mod_script1_13 : decode b_Mod_script1 13 = .ok (.bipush 80, 2) := by decide +kernel
theorem d_Mod_script1_15 : decode b_Mod_script1 15 = .ok (.if_icmp .le 5, 3) := by decide +kernel
theorem d_Mod_script1_18 : decode b_Mod_script1 18 = .ok (.iconst (-1), 1) := by decide +kernel
theorem d_Mod_script1_19 : decode b_Mod_script1 19 = .ok (.ireturn, 1) := by decide +kernel
theorem d_Mod_script1_20 : decode b_Mod_script1 20 = .ok (.iconst 0, 1) := by decide +kernel
theorem d_Mod_script1_21 : decode b_Mod_script1 21 = .ok (.istore_n 2, 1) := by decide +kernel
theorem d_Mod_script1_22 : decode b_Mod_script1 22 = .ok (.iload_n 2, 1) := by decide +kernel
theorem d_Mod_script1_23 : decode b_Mod_script1 23 = .ok (.aload_n 0, 1) := by decide +kernel
theorem d_Mod_script1_24 : decode b_Mod_script1 24 = .ok (.getfield 103, 3) := by decide +kernel
theorem d_Mod_script1_27 : decode b_Mod_script1 27 = .ok (.if_icmp .ge 26, 3) := by decide +kernel
theorem d_Mod_script1_30 : decode b_Mod_script1 30 = .ok (.aload_n 0, 1) := by decide +kernel
theorem d_Mod_script1_31 : decode b_Mod_script1 31 = .ok (.getfield 16, 3) := by decide +kernel
theorem d_Mod_script1_34 : decode b_Mod_script1 34 = .ok (.bipush 80, 2) := by decide +kernel
theorem d_Mod_script1_36 : decode b_Mod_script1 36 = .ok (.iload_n 1, 1) := by decide +kernel
theorem d_Mod_script1_37 : decode b_Mod_script1 37 = .ok (.imul, 1) := by decide +kernel
theorem d_Mod_script1_38 : decode b_Mod_script1 38 = .ok (.iload_n 2, 1) := by decide +kernel
theorem d_Mod_script1_39 : decode b_Mod_script1 39 = .ok (.iadd, 1) := by decide +kernel
theorem d_Mod_script1_40 : decode b_Mod_script1 40 = .ok (.aload_n 0, 1) := by decide +kernel
theorem d_Mod_script1_41 : decode b_Mod_script1 41 = .ok (.getfield 7, 3) := by decide +kernel
theorem d_Mod_script1_44 : decode b_Mod_script1 44 = .ok (.iload_n 2, 1) := by decide +kernel
theorem d_Mod_script1_45 : decode b_Mod_script1 45 = .ok (.baload, 1) := by decide +kernel
theorem d_Mod_script1_46 : decode b_Mod_script1 46 = .ok (.bastore, 1) := by decide +kernel
theorem d_Mod_script1_47 : decode b_Mod_script1 47 = .ok (.iinc 2 1, 3) := by decide +kernel
theorem d_Mod_script1_50 : decode b_Mod_script1 50 = .ok (.goto (-28), 3) := by decide +kernel
theorem d_Mod_script1_53 : decode b_Mod_script1 53 = .ok (.aload_n 0, 1) := by decide +kernel
theorem d_Mod_script1_54 : decode b_Mod_script1 54 = .ok (.getfield 19, 3) := by decide +kernel
theorem d_Mod_script1_57 : decode b_Mod_script1 57 = .ok (.iload_n 1, 1) := by decide +kernel
theorem d_Mod_script1_58 : decode b_Mod_script1 58 = .ok (.aload_n 0, 1) := by decide +kernel
theorem d_Mod_script1_59 : decode b_Mod_script1 59 = .ok (.getfield 103, 3) := by decide +kernel
theorem d_Mod_script1_62 : decode b_Mod_script1 62 = .ok (.iastore, 1) := by decide +kernel
theorem d_Mod_script1_63 : decode b_Mod_script1 63 = .ok (.aload_n 0, 1) := by decide +kernel
theorem d_Mod_script1_64 : decode b_Mod_script1 64 = .ok (.iconst 0, 1) := by decide +kernel
theorem d_Mod_script1_65 : decode b_Mod_script1 65 = .ok (.putfield 103, 3) := by decide +kernel
theorem d_Mod_script1_68 : decode b_Mod_script1 68 = .ok (.aload_n 0, 1) := by decide +kernel
theorem d_Mod_script1_69 : decode b_Mod_script1 69 = .ok (.getfield 19, 3) := by decide +kernel
theorem d_Mod_script1_72 : decode b_Mod_script1 72 = .ok (.iload_n 1, 1) := by decide +kernel
theorem d_Mod_script1_73 : decode b_Mod_script1 73 = .ok (.iaload, 1) := by decide +kernel
theorem d_Mod_script1_74 : decode b_Mod_script1 74 = .ok (.ireturn, 1) := by decide +kernel
theorem d_Mod_message_0 : decode b_Mod_message 0 = .ok (.aload_n 0, 1) := by decide +kernel
theorem d_Mod_message_1 : decode b_Mod_message 1 = .ok (.getfield 103, 3) := by decide +kernel
theorem d_Mod_message_4 : decode b_Mod_message 4 = .ok (.istore_n 1, 1) := by decide +kernel
theorem d_Mod_message_5 : decode b_Mod_message 5 = .ok (.aload_n 0, 1) := by decide +kernel
theorem d_Mod_message_6 : decode b_Mod_message 6 = .ok (.aload_n 0, 1) := by decide +kernel
theorem d_Mod_message_7 : decode b_Mod_message 7 = .ok (.getfield 7, 3) := by decide +kernel
theorem d_Mod_message_10 : decode b_Mod_message 10 = .ok (.iconst 0, 1) := by decide +kernel
theorem d_Mod_message_11 : decode b_Mod_message 11 = .ok (.iload_n 1, 1) := by decide +kernel
theorem d_Mod_message_12 : decode b_Mod_message 12 = .ok (.aload_n 0, 1) := by decide +kernel
theorem d_Mod_message_13 : decode b_Mod_message 13 = .ok (.getfield 23, 3) := by decide +kernel
theorem d_Mod_message_16 : decode b_Mod_message 16 = .ok (.iconst 0, 1) := by decide +kernel
theorem d_Mod_message_17 : decode b_Mod_message 17 = .ok (.invokevirtual 74, 3) := by decide +kernel
theorem d_Mod_message_20 : decode b_Mod_message 20 = .ok (.aload_n 0, 1) := by decide +kernel
theorem d_Mod_message_21 : decode b_Mod_message 21 = .ok (.iconst 0, 1) := by decide +kernel
theorem d_Mod_message_22 : decode b_Mod_message 22 = .ok (.putfield 103, 3) := by decide +kernel
theorem d_Mod_message_25 : decode b_Mod_message 25 = .ok (.iload_n 1, 1) := by decide +kernel
theorem d_Mod_message_26 : decode b_Mod_message 26 = .ok (.ireturn, 1) := by decide +kernel
theorem d_Mod_run_0 : decode b_Mod_run 0 = .ok (.aload_n 0, 1) := by decide +kernel
theorem d_Mod_run_1 : decode b_Mod_run 1 = .ok (.iconst 0, 1) := by decide +kernel
theorem d_Mod_run_2 : decode b_Mod_run 2 = .ok (.putfield 66, 3) := by decide +kernel
theorem d_Mod_run_5 : decode b_Mod_run 5 = .ok (.aload_n 0, 1) := by decide +kernel
theorem d_Mod_run_6 : decode b_Mod_run 6 = .ok (.aload_n 0, 1) := by decide +kernel
theorem d_Mod_run_7 : decode b_Mod_run 7 = .ok (.iconst 0, 1) := by decide +kernel
theorem d_Mod_run_8 : decode b_Mod_run 8 = .ok (.aload_n 0, 1) := by decide +kernel
theorem d_Mod_run_9 : decode b_Mod_run 9 = .ok (.getfield 19, 3) := by decide +kernel
theorem d_Mod_run_12 : decode b_Mod_run 12 = .ok (.iconst 0, 1) := by decide +kernel
theorem d_Mod_run_13 : decode b_Mod_run 13 = .ok (.iaload, 1) := by decide +kernel
theorem d_Mod_run_14 : decode b_Mod_run 14 = .ok (.iload_n 1, 1) := by decide +kernel
theorem d_Mod_run_15 : decode b_Mod_run 15 = .ok (.invokevirtual 110, 3) := by decide +kernel
theorem d_Mod_run_18 : decode b_Mod_run 18 = .ok (.ifCond .eq 23, 3) := by decide +kernel
theorem d_Mod_run_21 : decode b_Mod_run 21 = .ok (.aload_n 0, 1) := by decide +kernel
theorem d_Mod_run_22 : decode b_Mod_run 22 = .ok (.bipush 80, 2) := by decide +kernel
theorem d_Mod_run_24 : decode b_Mod_run 24 = .ok (.aload_n 0, 1) := by decide +kernel
theorem d_Mod_run_25 : decode b_Mod_run 25 = .ok (.getfield 19, 3) := by decide +kernel
theorem d_Mod_run_28 : decode b_Mod_run 28 = .ok (.iconst 1, 1) := by decide +kernel
theorem d_Mod_run_29 : decode b_Mod_run 29 = .ok (.iaload, 1) := by decide +kernel
theorem d_Mod_run_30 : decode b_Mod_run 30 = .ok (.iload_n 1, 1) := by decide +kernel
theorem d_Mod_run_31 : decode b_Mod_run 31 = .ok (.invokevirtual 110, 3) := by decide +kernel
theorem d_Mod_run_34 : decode b_Mod_run 34 = .ok (.ifCond .eq 7, 3) := by decide +kernel
theorem d_Mod_run_37 : decode b_Mod_run 37 = .ok (.iconst 1, 1) := by decide +kernel
theorem d_Mod_run_38 : decode b_Mod_run 38 = .ok (.goto 4, 3) := by decide +kernel
theorem d_Mod_run_41 : decode b_Mod_run 41 = .ok (.iconst 0, 1) := by decide +kernel
theorem d_Mod_run_42 : decode b_Mod_run 42 = .ok (.putfield 114, 3) := by decide +kernel
theorem d_Mod_run_45 : decode b_Mod_run 45 = .ok (.aload_n 0, 1) := by decide +kernel
theorem d_Mod_run_46 : decode b_Mod_run 46 = .ok (.getfield 114, 3) := by decide +kernel
theorem d_Mod_run_49 : decode b_Mod_run 49 = .ok (.ifCond .eq 27, 3) := by decide +kernel
theorem d_Mod_run_52 : decode b_Mod_run 52 = .ok (.aload_n 0, 1) := by decide +kernel
theorem d_Mod_run_53 : decode b_Mod_run 53 = .ok (.getfield 66, 3) := by decide +kernel
theorem d_Mod_run_56 : decode b_Mod_run 56 = .ok (.ifCond .le 20, 3) := by decide +kernel
theorem d_Mod_run_59 : decode b_Mod_run 59 = .ok (.aload_n 0, 1) := by decide +kernel
theorem d_Mod_run_60 : decode b_Mod_run 60 = .ok (.aload_n 0, 1) := by decide +kernel
theorem d_Mod_run_61 : decode b_Mod_run 61 = .ok (.getfield 66, 3) := by decide +kernel
theorem d_Mod_run_64 : decode b_Mod_run 64 = .ok (.iconst 1, 1) := by decide +kernel
theorem d_Mod_run_65 : decode b_Mod_run 65 = .ok (.isub, 1) := by decide +kernel
theorem d_Mod_run_66 : decode b_Mod_run 66 = .ok (.invokevirtual 93, 3) := by decide +kernel
theorem d_Mod_run_69 : decode b_Mod_run 69 = .ok (.ifCond .eq 7, 3) := by decide +kernel
theorem d_Mod_run_72 : decode b_Mod_run 72 = .ok (.iconst 1, 1) := by decide +kernel
theorem d_Mod_run_73 : decode b_Mod_run 73 = .ok (.goto 4, 3) := by decide +kernel
theorem d_Mod_run_76 : decode b_Mod_run 76 = .ok (.iconst 0, 1) := by decide +kernel
theorem d_Mod_run_77 : decode b_Mod_run 77 = .ok (.ireturn, 1) := by decide +kernel
theorem d_Mod_depth_0 : decode b_Mod_depth 0 = .ok (.aload_n 0, 1) := by decide +kernel
theorem d_Mod_depth_1 : decode b_Mod_depth 1 = .ok (.getfield 114, 3) := by decide +kernel
theorem d_Mod_depth_4 : decode b_Mod_depth 4 = .ok (.ifCond .eq 10, 3) := by decide +kernel
theorem d_Mod_depth_7 : decode b_Mod_depth 7 = .ok (.aload_n 0, 1) := by decide +kernel
theorem d_Mod_depth_8 : decode b_Mod_depth 8 = .ok (.getfield 66, 3) := by decide +kernel
theorem d_Mod_depth_11 : decode b_Mod_depth 11 = .ok (.goto 5, 3) := by decide +kernel
theorem d_Mod_depth_14 : decode b_Mod_depth 14 = .ok (.bipush (-2), 2) := by decide +kernel
theorem d_Mod_depth_16 : decode b_Mod_depth 16 = .ok (.ireturn, 1) := by decide +kernel
theorem d_Mod_element_0 : decode b_Mod_element 0 = .ok (.aload_n 0, 1) := by decide +kernel
theorem d_Mod_element_1 : decode b_Mod_element 1 = .ok (.getfield 114, 3) := by decide +kernel
theorem d_Mod_element_4 : decode b_Mod_element 4 = .ok (.ifCond .eq 20, 3) := by decide +kernel
theorem d_Mod_element_7 : decode b_Mod_element 7 = .ok (.iload_n 1, 1) := by decide +kernel
theorem d_Mod_element_8 : decode b_Mod_element 8 = .ok (.ifCond .lt 16, 3) := by decide +kernel
theorem d_Mod_element_11 : decode b_Mod_element 11 = .ok (.iload_n 1, 1) := by decide +kernel
theorem d_Mod_element_12 : decode b_Mod_element 12 = .ok (.aload_n 0, 1) := by decide +kernel
theorem d_Mod_element_13 : decode b_Mod_element 13 = .ok (.getfield 66, 3) := by decide +kernel
theorem d_Mod_element_16 : decode b_Mod_element 16 = .ok (.if_icmp .ge 8, 3) := by decide +kernel
theorem d_Mod_element_19 : decode b_Mod_element 19 = .ok (.iload_n 2, 1) := by decide +kernel
theorem d_Mod_element_20 : decode b_Mod_element 20 = .ok (.iconst (-1), 1) := by decide +kernel
theorem d_Mod_element_21 : decode b_Mod_element 21 = .ok (.if_icmp .ge 6, 3) := by decide +kernel
theorem d_Mod_element_24 : decode b_Mod_element 24 = .ok (.bipush (-2), 2) := by decide +kernel
theorem d_Mod_element_26 : decode b_Mod_element 26 = .ok (.ireturn, 1) := by decide +kernel
theorem d_Mod_element_27 : decode b_Mod_element 27 = .ok (.iload_n 2, 1) := by decide +kernel
theorem d_Mod_element_28 : decode b_Mod_element 28 = .ok (.iconst (-1), 1) := by decide +kernel
theorem d_Mod_element_29 : decode b_Mod_element 29 = .ok (.if_icmp .ne 10, 3) := by decide +kernel
theorem d_Mod_element_32 : decode b_Mod_element 32 = .ok (.aload_n 0, 1) := by decide +kernel
theorem d_Mod_element_33 : decode b_Mod_element 33 = .ok (.getfield 44, 3) := by decide +kernel
theorem d_Mod_element_36 : decode b_Mod_element 36 = .ok (.iload_n 1, 1) := by decide +kernel
theorem d_Mod_element_37 : decode b_Mod_element 37 = .ok (.iaload, 1) := by decide +kernel
theorem d_Mod_element_38 : decode b_Mod_element 38 = .ok (.ireturn, 1) := by decide +kernel
theorem d_Mod_element_39 : decode b_Mod_element 39 = .ok (.iload_n 2, 1) := by decide +kernel
theorem d_Mod_element_40 : decode b_Mod_element 40 = .ok (.aload_n 0, 1) := by decide +kernel
theorem d_Mod_element_41 : decode b_Mod_element 41 = .ok (.getfield 44, 3) := by decide +kernel
theorem d_Mod_element_44 : decode b_Mod_element 44 = .ok (.iload_n 1, 1) := by decide +kernel
theorem d_Mod_element_45 : decode b_Mod_element 45 = .ok (.iaload, 1) := by decide +kernel
theorem d_Mod_element_46 : decode b_Mod_element 46 = .ok (.if_icmp .lt 8, 3) := by decide +kernel
theorem d_Mod_element_49 : decode b_Mod_element 49 = .ok (.bipush (-2), 2) := by decide +kernel
theorem d_Mod_element_51 : decode b_Mod_element 51 = .ok (.goto 18, 3) := by decide +kernel
theorem d_Mod_element_54 : decode b_Mod_element 54 = .ok (.aload_n 0, 1) := by decide +kernel
theorem d_Mod_element_55 : decode b_Mod_element 55 = .ok (.getfield 41, 3) := by decide +kernel
theorem d_Mod_element_58 : decode b_Mod_element 58 = .ok (.bipush 80, 2) := by decide +kernel
theorem d_Mod_element_60 : decode b_Mod_element 60 = .ok (.iload_n 1, 1) := by decide +kernel
theorem d_Mod_element_61 : decode b_Mod_element 61 = .ok (.imul, 1) := by decide +kernel
theorem d_Mod_element_62 : decode b_Mod_element 62 = .ok (.iload_n 2, 1) := by decide +kernel
theorem d_Mod_element_63 : decode b_Mod_element 63 = .ok (.iadd, 1) := by decide +kernel
theorem d_Mod_element_64 : decode b_Mod_element 64 = .ok (.baload, 1) := by decide +kernel
theorem d_Mod_element_65 : decode b_Mod_element 65 = .ok (.sipush 255, 3) := by decide +kernel
theorem d_Mod_element_68 : decode b_Mod_element 68 = .ok (.iand, 1) := by decide +kernel
theorem d_Mod_element_69 : decode b_Mod_element 69 = .ok (.ireturn, 1) := by decide +kernel
theorem d_Mod_sha0_0 : decode b_Mod_sha0 0 = .ok (.aload_n 0, 1) := by decide +kernel
theorem d_Mod_sha0_1 : decode b_Mod_sha0 1 = .ok (.aload_n 0, 1) := by decide +kernel
theorem d_Mod_sha0_2 : decode b_Mod_sha0 2 = .ok (.getfield 7, 3) := by decide +kernel
theorem d_Mod_sha0_5 : decode b_Mod_sha0 5 = .ok (.iconst 0, 1) := by decide +kernel
theorem d_Mod_sha0_6 : decode b_Mod_sha0 6 = .ok (.aload_n 0, 1) := by decide +kernel
theorem d_Mod_sha0_7 : decode b_Mod_sha0 7 = .ok (.getfield 103, 3) := by decide +kernel
theorem d_Mod_sha0_10 : decode b_Mod_sha0 10 = .ok (.aload_n 0, 1) := by decide +kernel
theorem d_Mod_sha0_11 : decode b_Mod_sha0 11 = .ok (.getfield 13, 3) := by decide +kernel
theorem d_Mod_sha0_14 : decode b_Mod_sha0 14 = .ok (.iconst 0, 1) := by decide +kernel
theorem d_Mod_sha0_15 : decode b_Mod_sha0 15 = .ok (.invokevirtual 62, 3) := by decide +kernel
theorem d_Mod_sha0_18 : decode b_Mod_sha0 18 = .ok (.aload_n 0, 1) := by decide +kernel
theorem d_Mod_sha0_19 : decode b_Mod_sha0 19 = .ok (.iconst 0, 1) := by decide +kernel
theorem d_Mod_sha0_20 : decode b_Mod_sha0 20 = .ok (.putfield 103, 3) := by decide +kernel
theorem d_Mod_sha0_23 : decode b_Mod_sha0 23 = .ok (.aload_n 0, 1) := by decide +kernel
theorem d_Mod_sha0_24 : decode b_Mod_sha0 24 = .ok (.bipush 32, 2) := by decide +kernel
theorem d_Mod_sha0_26 : decode b_Mod_sha0 26 = .ok (.putfield 118, 3) := by decide +kernel
theorem d_Mod_sha0_29 : decode b_Mod_sha0 29 = .ok (.bipush 32, 2) := by decide +kernel
theorem d_Mod_sha0_31 : decode b_Mod_sha0 31 = .ok (.ireturn, 1) := by decide +kernel
theorem d_Mod_sign_0 : decode b_Mod_sign 0 = .ok (.aload_n 0, 1) := by decide +kernel
theorem d_Mod_sign_1 : decode b_Mod_sign 1 = .ok (.getfield 103, 3) := by decide +kernel
theorem d_Mod_sign_4 : decode b_Mod_sign 4 = .ok (.bipush 80, 2) := by decide +kernel
theorem d_Mod_sign_6 : decode b_Mod_sign 6 = .ok (.if_icmp .le 5, 3) := by decide +kernel
theorem d_Mod_sign_9 : decode b_Mod_sign 9 = .ok (.iconst (-1), 1) := by decide +kernel
theorem d_Mod_sign_10 : decode b_Mod_sign 10 = .ok (.ireturn, 1) := by decide +kernel
theorem d_Mod_sign_11 : decode b_Mod_sign 11 = .ok (.iconst 0, 1) := by decide +kernel
theorem d_Mod_sign_12 : decode b_Mod_sign 12 = .ok (.istore_n 1, 1) := by decide +kernel
theorem d_Mod_sign_13 : decode b_Mod_sign 13 = .ok (.iload_n 1, 1) := by decide +kernel
theorem d_Mod_sign_14 : decode b_Mod_sign 14 = .ok (.aload_n 0, 1) := by decide +kernel
theorem d_Mod_sign_15 : decode b_Mod_sign 15 = .ok (.getfield 103, 3) := by decide +kernel
theorem d_Mod_sign_18 : decode b_Mod_sign 18 = .ok (.if_icmp .ge 21, 3) := by decide +kernel
theorem d_Mod_sign_21 : decode b_Mod_sign 21 = .ok (.aload_n 0, 1) := by decide +kernel
theorem d_Mod_sign_22 : decode b_Mod_sign 22 = .ok (.getfield 38, 3) := by decide +kernel
theorem d_Mod_sign_25 : decode b_Mod_sign 25 = .ok (.iload_n 1, 1) := by decide +kernel
theorem d_Mod_sign_26 : decode b_Mod_sign 26 = .ok (.aload_n 0, 1) := by decide +kernel
theorem d_Mod_sign_27 : decode b_Mod_sign 27 = .ok (.getfield 7, 3) := by decide +kernel
theorem d_Mod_sign_30 : decode b_Mod_sign 30 = .ok (.iload_n 1, 1) := by decide +kernel
theorem d_Mod_sign_31 : decode b_Mod_sign 31 = .ok (.baload, 1) := by decide +kernel
theorem d_Mod_sign_32 : decode b_Mod_sign 32 = .ok (.bastore, 1) := by decide +kernel
theorem d_Mod_sign_33 : decode b_Mod_sign 33 = .ok (.iinc 1 1, 3) := by decide +kernel
theorem d_Mod_sign_36 : decode b_Mod_sign 36 = .ok (.goto (-23), 3) := by decide +kernel
theorem d_Mod_sign_39 : decode b_Mod_sign 39 = .ok (.iconst 0, 1) := by decide +kernel
theorem d_Mod_sign_40 : decode b_Mod_sign 40 = .ok (.istore_n 1, 1) := by decide +kernel
theorem d_Mod_sign_41 : decode b_Mod_sign 41 = .ok (.iload_n 1, 1) := by decide +kernel
theorem d_Mod_sign_42 : decode b_Mod_sign 42 = .ok (.bipush 32, 2) := by decide +kernel
theorem d_Mod_sign_44 : decode b_Mod_sign 44 = .ok (.if_icmp .ge 26, 3) := by decide +kernel
theorem d_Mod_sign_47 : decode b_Mod_sign 47 = .ok (.aload_n 0, 1) := by decide +kernel
theorem d_Mod_sign_48 : decode b_Mod_sign 48 = .ok (.getfield 38, 3) := by decide +kernel
theorem d_Mod_sign_51 : decode b_Mod_sign 51 = .ok (.aload_n 0, 1) := by decide +kernel
theorem d_Mod_sign_52 : decode b_Mod_sign 52 = .ok (.getfield 103, 3) := by decide +kernel
theorem d_Mod_sign_55 : decode b_Mod_sign 55 = .ok (.iload_n 1, 1) := by decide +kernel
theorem d_Mod_sign_56 : decode b_Mod_sign 56 = .ok (.iadd, 1) := by decide +kernel
theorem d_Mod_sign_57 : decode b_Mod_sign 57 = .ok (.aload_n 0, 1) := by decide +kernel
theorem d_Mod_sign_58 : decode b_Mod_sign 58 = .ok (.getfield 23, 3) := by decide +kernel
theorem d_Mod_sign_61 : decode b_Mod_sign 61 = .ok (.iload_n 1, 1) := by decide +kernel
theorem d_Mod_sign_62 : decode b_Mod_sign 62 = .ok (.baload, 1) := by decide +kernel
theorem d_Mod_sign_63 : decode b_Mod_sign 63 = .ok (.bastore, 1) := by decide +kernel
theorem d_Mod_sign_64 : decode b_Mod_sign 64 = .ok (.iinc 1 1, 3) := by decide +kernel
theorem d_Mod_sign_67 : decode b_Mod_sign 67 = .ok (.goto (-26), 3) := by decide +kernel
theorem d_Mod_sign_70 : decode b_Mod_sign 70 = .ok (.aload_n 0, 1) := by decide +kernel
theorem d_Mod_sign_71 : decode b_Mod_sign 71 = .ok (.aload_n 0, 1) := by decide +kernel
theorem d_Mod_sign_72 : decode b_Mod_sign 72 = .ok (.getfield 38, 3) := by decide +kernel
theorem d_Mod_sign_75 : decode b_Mod_sign 75 = .ok (.iconst 0, 1) := by decide +kernel
theorem d_Mod_sign_76 : decode b_Mod_sign 76 = .ok (.aload_n 0, 1) := by decide +kernel
theorem d_Mod_sign_77 : decode b_Mod_sign 77 = .ok (.getfield 103, 3) := by decide +kernel
theorem d_Mod_sign_80 : decode b_Mod_sign 80 = .ok (.bipush 32, 2) := by decide +kernel
theorem d_Mod_sign_82 : decode b_Mod_sign 82 = .ok (.iadd, 1) := by decide +kernel
theorem d_Mod_sign_83 : decode b_Mod_sign 83 = .ok (.aload_n 0, 1) := by decide +kernel
theorem d_Mod_sign_84 : decode b_Mod_sign 84 = .ok (.getfield 13, 3) := by decide +kernel
theorem d_Mod_sign_87 : decode b_Mod_sign 87 = .ok (.iconst 0, 1) := by decide +kernel
theorem d_Mod_sign_88 : decode b_Mod_sign 88 = .ok (.invokevirtual 74, 3) := by decide +kernel
theorem d_Mod_sign_91 : decode b_Mod_sign 91 = .ok (.aload_n 0, 1) := by decide +kernel
theorem d_Mod_sign_92 : decode b_Mod_sign 92 = .ok (.iconst 0, 1) := by decide +kernel
theorem d_Mod_sign_93 : decode b_Mod_sign 93 = .ok (.putfield 103, 3) := by decide +kernel
theorem d_Mod_sign_96 : decode b_Mod_sign 96 = .ok (.aload_n 0, 1) := by decide +kernel
theorem d_Mod_sign_97 : decode b_Mod_sign 97 = .ok (.bipush 8, 2) := by decide +kernel
theorem d_Mod_sign_99 : decode b_Mod_sign 99 = .ok (.putfield 118, 3) := by decide +kernel
theorem d_Mod_sign_102 : decode b_Mod_sign 102 = .ok (.bipush 8, 2) := by decide +kernel
theorem d_Mod_sign_104 : decode b_Mod_sign 104 = .ok (.ireturn, 1) := by decide +kernel
theorem d_Mod_back_0 : decode b_Mod_back 0 = .ok (.aload_n 0, 1) := by decide +kernel
theorem d_Mod_back_1 : decode b_Mod_back 1 = .ok (.getfield 103, 3) := by decide +kernel
theorem d_Mod_back_4 : decode b_Mod_back 4 = .ok (.iconst 1, 1) := by decide +kernel
theorem d_Mod_back_5 : decode b_Mod_back 5 = .ok (.iadd, 1) := by decide +kernel
theorem d_Mod_back_6 : decode b_Mod_back 6 = .ok (.aload_n 0, 1) := by decide +kernel
theorem d_Mod_back_7 : decode b_Mod_back 7 = .ok (.getfield 118, 3) := by decide +kernel
theorem d_Mod_back_10 : decode b_Mod_back 10 = .ok (.iadd, 1) := by decide +kernel
theorem d_Mod_back_11 : decode b_Mod_back 11 = .ok (.sipush 400, 3) := by decide +kernel
theorem d_Mod_back_14 : decode b_Mod_back 14 = .ok (.if_icmp .le 6, 3) := by decide +kernel
theorem d_Mod_back_17 : decode b_Mod_back 17 = .ok (.bipush (-3), 2) := by decide +kernel
theorem d_Mod_back_19 : decode b_Mod_back 19 = .ok (.ireturn, 1) := by decide +kernel
theorem d_Mod_back_20 : decode b_Mod_back 20 = .ok (.aload_n 0, 1) := by decide +kernel
theorem d_Mod_back_21 : decode b_Mod_back 21 = .ok (.getfield 7, 3) := by decide +kernel
theorem d_Mod_back_24 : decode b_Mod_back 24 = .ok (.aload_n 0, 1) := by decide +kernel
theorem d_Mod_back_25 : decode b_Mod_back 25 = .ok (.getfield 103, 3) := by decide +kernel
theorem d_Mod_back_28 : decode b_Mod_back 28 = .ok (.aload_n 0, 1) := by decide +kernel
theorem d_Mod_back_29 : decode b_Mod_back 29 = .ok (.getfield 118, 3) := by decide +kernel
theorem d_Mod_back_32 : decode b_Mod_back 32 = .ok (.i2b, 1) := by decide +kernel
theorem d_Mod_back_33 : decode b_Mod_back 33 = .ok (.bastore, 1) := by decide +kernel
theorem d_Mod_back_34 : decode b_Mod_back 34 = .ok (.iconst 0, 1) := by decide +kernel
theorem d_Mod_back_35 : decode b_Mod_back 35 = .ok (.istore_n 1, 1) := by decide +kernel
theorem d_Mod_back_36 : decode b_Mod_back 36 = .ok (.iload_n 1, 1) := by decide +kernel
theorem d_Mod_back_37 : decode b_Mod_back 37 = .ok (.aload_n 0, 1) := by decide +kernel
theorem d_Mod_back_38 : decode b_Mod_back 38 = .ok (.getfield 118, 3) := by decide +kernel
theorem d_Mod_back_41 : decode b_Mod_back 41 = .ok (.if_icmp .ge 28, 3) := by decide +kernel
theorem d_Mod_back_44 : decode b_Mod_back 44 = .ok (.aload_n 0, 1) := by decide +kernel
theorem d_Mod_back_45 : decode b_Mod_back 45 = .ok (.getfield 7, 3) := by decide +kernel
theorem d_Mod_back_48 : decode b_Mod_back 48 = .ok (.aload_n 0, 1) := by decide +kernel
theorem d_Mod_back_49 : decode b_Mod_back 49 = .ok (.getfield 103, 3) := by decide +kernel
theorem d_Mod_back_52 : decode b_Mod_back 52 = .ok (.iconst 1, 1) := by decide +kernel
theorem d_Mod_back_53 : decode b_Mod_back 53 = .ok (.iadd, 1) := by decide +kernel
theorem d_Mod_back_54 : decode b_Mod_back 54 = .ok (.iload_n 1, 1) := by decide +kernel
theorem d_Mod_back_55 : decode b_Mod_back 55 = .ok (.iadd, 1) := by decide +kernel
theorem d_Mod_back_56 : decode b_Mod_back 56 = .ok (.aload_n 0, 1) := by decide +kernel
theorem d_Mod_back_57 : decode b_Mod_back 57 = .ok (.getfield 13, 3) := by decide +kernel
theorem d_Mod_back_60 : decode b_Mod_back 60 = .ok (.iload_n 1, 1) := by decide +kernel
theorem d_Mod_back_61 : decode b_Mod_back 61 = .ok (.baload, 1) := by decide +kernel
theorem d_Mod_back_62 : decode b_Mod_back 62 = .ok (.bastore, 1) := by decide +kernel
theorem d_Mod_back_63 : decode b_Mod_back 63 = .ok (.iinc 1 1, 3) := by decide +kernel
theorem d_Mod_back_66 : decode b_Mod_back 66 = .ok (.goto (-30), 3) := by decide +kernel
theorem d_Mod_back_69 : decode b_Mod_back 69 = .ok (.aload_n 0, 1) := by decide +kernel
theorem d_Mod_back_70 : decode b_Mod_back 70 = .ok (.dup, 1) := by decide +kernel
theorem d_Mod_back_71 : decode b_Mod_back 71 = .ok (.getfield 103, 3) := by decide +kernel
theorem d_Mod_back_74 : decode b_Mod_back 74 = .ok (.iconst 1, 1) := by decide +kernel
theorem d_Mod_back_75 : decode b_Mod_back 75 = .ok (.aload_n 0, 1) := by decide +kernel
theorem d_Mod_back_76 : decode b_Mod_back 76 = .ok (.getfield 118, 3) := by decide +kernel
theorem d_Mod_back_79 : decode b_Mod_back 79 = .ok (.iadd, 1) := by decide +kernel
theorem d_Mod_back_80 : decode b_Mod_back 80 = .ok (.iadd, 1) := by decide +kernel
theorem d_Mod_back_81 : decode b_Mod_back 81 = .ok (.putfield 103, 3) := by decide +kernel
theorem d_Mod_back_84 : decode b_Mod_back 84 = .ok (.aload_n 0, 1) := by decide +kernel
theorem d_Mod_back_85 : decode b_Mod_back 85 = .ok (.getfield 103, 3) := by decide +kernel
theorem d_Mod_back_88 : decode b_Mod_back 88 = .ok (.ireturn, 1) := by decide +kernel
theorem d_Mod_octet_0 : decode b_Mod_octet 0 = .ok (.iload_n 1, 1) := by decide +kernel
theorem d_Mod_octet_1 : decode b_Mod_octet 1 = .ok (.ifCond .lt 11, 3) := by decide +kernel
theorem d_Mod_octet_4 : decode b_Mod_octet 4 = .ok (.iload_n 1, 1) := by decide +kernel
theorem d_Mod_octet_5 : decode b_Mod_octet 5 = .ok (.aload_n 0, 1) := by decide +kernel
theorem d_Mod_octet_6 : decode b_Mod_octet 6 = .ok (.getfield 118, 3) := by decide +kernel
theorem d_Mod_octet_9 : decode b_Mod_octet 9 = .ok (.if_icmp .lt 8, 3) := by decide +kernel
theorem d_Mod_octet_12 : decode b_Mod_octet 12 = .ok (.bipush (-2), 2) := by decide +kernel
theorem d_Mod_octet_14 : decode b_Mod_octet 14 = .ok (.goto 13, 3) := by decide +kernel
theorem d_Mod_octet_17 : decode b_Mod_octet 17 = .ok (.aload_n 0, 1) := by decide +kernel
theorem d_Mod_octet_18 : decode b_Mod_octet 18 = .ok (.getfield 13, 3) := by decide +kernel
theorem d_Mod_octet_21 : decode b_Mod_octet 21 = .ok (.iload_n 1, 1) := by decide +kernel
theorem d_Mod_octet_22 : decode b_Mod_octet 22 = .ok (.baload, 1) := by decide +kernel
theorem d_Mod_octet_23 : decode b_Mod_octet 23 = .ok (.sipush 255, 3) := by decide +kernel
theorem d_Mod_octet_26 : decode b_Mod_octet 26 = .ok (.iand, 1) := by decide +kernel
theorem d_Mod_octet_27 : decode b_Mod_octet 27 = .ok (.ireturn, 1) := by decide +kernel
end
section
theorem d_Law_law_0 : decode code 0 = .ok (.new 7, 3) := by decide +kernel
theorem d_Law_law_3 : decode code 3 = .ok (.dup, 1) := by decide +kernel
theorem d_Law_law_4 : decode code 4 = .ok (.invokespecial 9, 3) := by decide +kernel
theorem d_Law_law_7 : decode code 7 = .ok (.astore_n 1, 1) := by decide +kernel
theorem d_Law_law_8 : decode code 8 = .ok (.new 10, 3) := by decide +kernel
theorem d_Law_law_11 : decode code 11 = .ok (.dup, 1) := by decide +kernel
theorem d_Law_law_12 : decode code 12 = .ok (.invokespecial 12, 3) := by decide +kernel
theorem d_Law_law_15 : decode code 15 = .ok (.astore_n 2, 1) := by decide +kernel
theorem d_Law_law_16 : decode code 16 = .ok (.iconst 0, 1) := by decide +kernel
theorem d_Law_law_17 : decode code 17 = .ok (.istore_n 3, 1) := by decide +kernel
theorem d_Law_law_18 : decode code 18 = .ok (.iload_n 3, 1) := by decide +kernel
theorem d_Law_law_19 : decode code 19 = .ok (.aload_n 0, 1) := by decide +kernel
theorem d_Law_law_20 : decode code 20 = .ok (.arraylength, 1) := by decide +kernel
theorem d_Law_law_21 : decode code 21 = .ok (.bipush 6, 2) := by decide +kernel
theorem d_Law_law_23 : decode code 23 = .ok (.isub, 1) := by decide +kernel
theorem d_Law_law_24 : decode code 24 = .ok (.if_icmp .gt 327, 3) := by decide +kernel
theorem d_Law_law_27 : decode code 27 = .ok (.aload_n 0, 1) := by decide +kernel
theorem d_Law_law_28 : decode code 28 = .ok (.iload_n 3, 1) := by decide +kernel
theorem d_Law_law_29 : decode code 29 = .ok (.iaload, 1) := by decide +kernel
theorem d_Law_law_30 : decode code 30 = .ok (.bipush 15, 2) := by decide +kernel
theorem d_Law_law_32 : decode code 32 = .ok (.iand, 1) := by decide +kernel
theorem d_Law_law_33 : decode code 33 = .ok (.tableswitch 312 0 10 #[59, 122, 145, 168, 181, 204, 217, 250, 263, 276, 289], 59) := by decide +kernel
theorem d_Law_law_92 : decode code 92 = .ok (.aload_n 1, 1) := by decide +kernel
theorem d_Law_law_93 : decode code 93 = .ok (.aload_n 0, 1) := by decide +kernel
theorem d_Law_law_94 : decode code 94 = .ok (.iload_n 3, 1) := by decide +kernel
theorem d_Law_law_95 : decode code 95 = .ok (.iconst 1, 1) := by decide +kernel
theorem d_Law_law_96 : decode code 96 = .ok (.iadd, 1) := by decide +kernel
theorem d_Law_law_97 : decode code 97 = .ok (.iaload, 1) := by decide +kernel
theorem d_Law_law_98 : decode code 98 = .ok (.aload_n 0, 1) := by decide +kernel
theorem d_Law_law_99 : decode code 99 = .ok (.iload_n 3, 1) := by decide +kernel
theorem d_Law_law_100 : decode code 100 = .ok (.iconst 2, 1) := by decide +kernel
theorem d_Law_law_101 : decode code 101 = .ok (.iadd, 1) := by decide +kernel
theorem d_Law_law_102 : decode code 102 = .ok (.iaload, 1) := by decide +kernel
theorem d_Law_law_103 : decode code 103 = .ok (.aload_n 0, 1) := by decide +kernel
theorem d_Law_law_104 : decode code 104 = .ok (.iload_n 3, 1) := by decide +kernel
theorem d_Law_law_105 : decode code 105 = .ok (.iconst 3, 1) := by decide +kernel
theorem d_Law_law_106 : decode code 106 = .ok (.iadd, 1) := by decide +kernel
theorem d_Law_law_107 : decode code 107 = .ok (.iaload, 1) := by decide +kernel
theorem d_Law_law_108 : decode code 108 = .ok (.aload_n 0, 1) := by decide +kernel
theorem d_Law_law_109 : decode code 109 = .ok (.iload_n 3, 1) := by decide +kernel
theorem d_Law_law_110 : decode code 110 = .ok (.iconst 4, 1) := by decide +kernel
theorem d_Law_law_111 : decode code 111 = .ok (.iadd, 1) := by decide +kernel
theorem d_Law_law_112 : decode code 112 = .ok (.iaload, 1) := by decide +kernel
theorem d_Law_law_113 : decode code 113 = .ok (.aload_n 0, 1) := by decide +kernel
theorem d_Law_law_114 : decode code 114 = .ok (.iload_n 3, 1) := by decide +kernel
theorem d_Law_law_115 : decode code 115 = .ok (.iconst 5, 1) := by decide +kernel
theorem d_Law_law_116 : decode code 116 = .ok (.iadd, 1) := by decide +kernel
theorem d_Law_law_117 : decode code 117 = .ok (.iaload, 1) := by decide +kernel
theorem d_Law_law_118 : decode code 118 = .ok (.invokevirtual 13, 3) := by decide +kernel
theorem d_Law_law_121 : decode code 121 = .ok (.aload_n 2, 1) := by decide +kernel
theorem d_Law_law_122 : decode code 122 = .ok (.aload_n 0, 1) := by decide +kernel
theorem d_Law_law_123 : decode code 123 = .ok (.iload_n 3, 1) := by decide +kernel
theorem d_Law_law_124 : decode code 124 = .ok (.iconst 1, 1) := by decide +kernel
theorem d_Law_law_125 : decode code 125 = .ok (.iadd, 1) := by decide +kernel
theorem d_Law_law_126 : decode code 126 = .ok (.iaload, 1) := by decide +kernel
theorem d_Law_law_127 : decode code 127 = .ok (.aload_n 0, 1) := by decide +kernel
theorem d_Law_law_128 : decode code 128 = .ok (.iload_n 3, 1) := by decide +kernel
theorem d_Law_law_129 : decode code 129 = .ok (.iconst 2, 1) := by decide +kernel
theorem d_Law_law_130 : decode code 130 = .ok (.iadd, 1) := by decide +kernel
theorem d_Law_law_131 : decode code 131 = .ok (.iaload, 1) := by decide +kernel
theorem d_Law_law_132 : decode code 132 = .ok (.aload_n 0, 1) := by decide +kernel
theorem d_Law_law_133 : decode code 133 = .ok (.iload_n 3, 1) := by decide +kernel
theorem d_Law_law_134 : decode code 134 = .ok (.iconst 3, 1) := by decide +kernel
theorem d_Law_law_135 : decode code 135 = .ok (.iadd, 1) := by decide +kernel
theorem d_Law_law_136 : decode code 136 = .ok (.iaload, 1) := by decide +kernel
theorem d_Law_law_137 : decode code 137 = .ok (.aload_n 0, 1) := by decide +kernel
theorem d_Law_law_138 : decode code 138 = .ok (.iload_n 3, 1) := by decide +kernel
theorem d_Law_law_139 : decode code 139 = .ok (.iconst 4, 1) := by decide +kernel
theorem d_Law_law_140 : decode code 140 = .ok (.iadd, 1) := by decide +kernel
theorem d_Law_law_141 : decode code 141 = .ok (.iaload, 1) := by decide +kernel
theorem d_Law_law_142 : decode code 142 = .ok (.aload_n 0, 1) := by decide +kernel
theorem d_Law_law_143 : decode code 143 = .ok (.iload_n 3, 1) := by decide +kernel
theorem d_Law_law_144 : decode code 144 = .ok (.iconst 5, 1) := by decide +kernel
theorem d_Law_law_145 : decode code 145 = .ok (.iadd, 1) := by decide +kernel
theorem d_Law_law_146 : decode code 146 = .ok (.iaload, 1) := by decide +kernel
theorem d_Law_law_147 : decode code 147 = .ok (.invokevirtual 17, 3) := by decide +kernel
theorem d_Law_law_150 : decode code 150 = .ok (.if_icmp .eq 195, 3) := by decide +kernel
theorem d_Law_law_153 : decode code 153 = .ok (.iconst 0, 1) := by decide +kernel
theorem d_Law_law_154 : decode code 154 = .ok (.ireturn, 1) := by decide +kernel
theorem d_Law_law_155 : decode code 155 = .ok (.aload_n 1, 1) := by decide +kernel
theorem d_Law_law_156 : decode code 156 = .ok (.aload_n 0, 1) := by decide +kernel
theorem d_Law_law_157 : decode code 157 = .ok (.iload_n 3, 1) := by decide +kernel
theorem d_Law_law_158 : decode code 158 = .ok (.iconst 1, 1) := by decide +kernel
theorem d_Law_law_159 : decode code 159 = .ok (.iadd, 1) := by decide +kernel
theorem d_Law_law_160 : decode code 160 = .ok (.iaload, 1) := by decide +kernel
theorem d_Law_law_161 : decode code 161 = .ok (.invokevirtual 18, 3) := by decide +kernel
theorem d_Law_law_164 : decode code 164 = .ok (.aload_n 2, 1) := by decide +kernel
theorem d_Law_law_165 : decode code 165 = .ok (.aload_n 0, 1) := by decide +kernel
theorem d_Law_law_166 : decode code 166 = .ok (.iload_n 3, 1) := by decide +kernel
theorem d_Law_law_167 : decode code 167 = .ok (.iconst 1, 1) := by decide +kernel
theorem d_Law_law_168 : decode code 168 = .ok (.iadd, 1) := by decide +kernel
theorem d_Law_law_169 : decode code 169 = .ok (.iaload, 1) := by decide +kernel
theorem d_Law_law_170 : decode code 170 = .ok (.invokevirtual 22, 3) := by decide +kernel
theorem d_Law_law_173 : decode code 173 = .ok (.if_icmp .eq 172, 3) := by decide +kernel
theorem d_Law_law_176 : decode code 176 = .ok (.iconst 0, 1) := by decide +kernel
theorem d_Law_law_177 : decode code 177 = .ok (.ireturn, 1) := by decide +kernel
theorem d_Law_law_178 : decode code 178 = .ok (.aload_n 1, 1) := by decide +kernel
theorem d_Law_law_179 : decode code 179 = .ok (.aload_n 0, 1) := by decide +kernel
theorem d_Law_law_180 : decode code 180 = .ok (.iload_n 3, 1) := by decide +kernel
theorem d_Law_law_181 : decode code 181 = .ok (.iconst 1, 1) := by decide +kernel
theorem d_Law_law_182 : decode code 182 = .ok (.iadd, 1) := by decide +kernel
theorem d_Law_law_183 : decode code 183 = .ok (.iaload, 1) := by decide +kernel
theorem d_Law_law_184 : decode code 184 = .ok (.invokevirtual 23, 3) := by decide +kernel
theorem d_Law_law_187 : decode code 187 = .ok (.aload_n 2, 1) := by decide +kernel
theorem d_Law_law_188 : decode code 188 = .ok (.aload_n 0, 1) := by decide +kernel
theorem d_Law_law_189 : decode code 189 = .ok (.iload_n 3, 1) := by decide +kernel
theorem d_Law_law_190 : decode code 190 = .ok (.iconst 1, 1) := by decide +kernel
theorem d_Law_law_191 : decode code 191 = .ok (.iadd, 1) := by decide +kernel
theorem d_Law_law_192 : decode code 192 = .ok (.iaload, 1) := by decide +kernel
theorem d_Law_law_193 : decode code 193 = .ok (.invokevirtual 26, 3) := by decide +kernel
theorem d_Law_law_196 : decode code 196 = .ok (.if_icmp .eq 149, 3) := by decide +kernel
theorem d_Law_law_199 : decode code 199 = .ok (.iconst 0, 1) := by decide +kernel
theorem d_Law_law_200 : decode code 200 = .ok (.ireturn, 1) := by decide +kernel
theorem d_Law_law_201 : decode code 201 = .ok (.aload_n 1, 1) := by decide +kernel
theorem d_Law_law_202 : decode code 202 = .ok (.invokevirtual 27, 3) := by decide +kernel
theorem d_Law_law_205 : decode code 205 = .ok (.aload_n 2, 1) := by decide +kernel
theorem d_Law_law_206 : decode code 206 = .ok (.invokevirtual 31, 3) := by decide +kernel
theorem d_Law_law_209 : decode code 209 = .ok (.if_icmp .eq 136, 3) := by decide +kernel
theorem d_Law_law_212 : decode code 212 = .ok (.iconst 0, 1) := by decide +kernel
theorem d_Law_law_213 : decode code 213 = .ok (.ireturn, 1) := by decide +kernel
theorem d_Law_law_214 : decode code 214 = .ok (.aload_n 1, 1) := by decide +kernel
theorem d_Law_law_215 : decode code 215 = .ok (.aload_n 0, 1) := by decide +kernel
theorem d_Law_law_216 : decode code 216 = .ok (.iload_n 3, 1) := by decide +kernel
theorem d_Law_law_217 : decode code 217 = .ok (.iconst 1, 1) := by decide +kernel
theorem d_Law_law_218 : decode code 218 = .ok (.iadd, 1) := by decide +kernel
theorem d_Law_law_219 : decode code 219 = .ok (.iaload, 1) := by decide +kernel
theorem d_Law_law_220 : decode code 220 = .ok (.invokevirtual 32, 3) := by decide +kernel
theorem d_Law_law_223 : decode code 223 = .ok (.aload_n 2, 1) := by decide +kernel
theorem d_Law_law_224 : decode code 224 = .ok (.aload_n 0, 1) := by decide +kernel
theorem d_Law_law_225 : decode code 225 = .ok (.iload_n 3, 1) := by decide +kernel
theorem d_Law_law_226 : decode code 226 = .ok (.iconst 1, 1) := by decide +kernel
theorem d_Law_law_227 : decode code 227 = .ok (.iadd, 1) := by decide +kernel
theorem d_Law_law_228 : decode code 228 = .ok (.iaload, 1) := by decide +kernel
theorem d_Law_law_229 : decode code 229 = .ok (.invokevirtual 36, 3) := by decide +kernel
theorem d_Law_law_232 : decode code 232 = .ok (.if_icmp .eq 113, 3) := by decide +kernel
theorem d_Law_law_235 : decode code 235 = .ok (.iconst 0, 1) := by decide +kernel
theorem d_Law_law_236 : decode code 236 = .ok (.ireturn, 1) := by decide +kernel
theorem d_Law_law_237 : decode code 237 = .ok (.aload_n 1, 1) := by decide +kernel
theorem d_Law_law_238 : decode code 238 = .ok (.invokevirtual 37, 3) := by decide +kernel
theorem d_Law_law_241 : decode code 241 = .ok (.aload_n 2, 1) := by decide +kernel
theorem d_Law_law_242 : decode code 242 = .ok (.invokevirtual 40, 3) := by decide +kernel
theorem d_Law_law_245 : decode code 245 = .ok (.if_icmp .eq 100, 3) := by decide +kernel
theorem d_Law_law_248 : decode code 248 = .ok (.iconst 0, 1) := by decide +kernel
theorem d_Law_law_249 : decode code 249 = .ok (.ireturn, 1) := by decide +kernel
theorem d_Law_law_250 : decode code 250 = .ok (.aload_n 1, 1) := by decide +kernel
theorem d_Law_law_251 : decode code 251 = .ok (.aload_n 0, 1) := by decide +kernel
theorem d_Law_law_252 : decode code 252 = .ok (.iload_n 3, 1) := by decide +kernel
theorem d_Law_law_253 : decode code 253 = .ok (.iconst 1, 1) := by decide +kernel
theorem d_Law_law_254 : decode code 254 = .ok (.iadd, 1) := by decide +kernel
theorem d_Law_law_255 : decode code 255 = .ok (.iaload, 1) := by decide +kernel
theorem d_Law_law_256 : decode code 256 = .ok (.aload_n 0, 1) := by decide +kernel
theorem d_Law_law_257 : decode code 257 = .ok (.iload_n 3, 1) := by decide +kernel
theorem d_Law_law_258 : decode code 258 = .ok (.iconst 2, 1) := by decide +kernel
theorem d_Law_law_259 : decode code 259 = .ok (.iadd, 1) := by decide +kernel
theorem d_Law_law_260 : decode code 260 = .ok (.iaload, 1) := by decide +kernel
theorem d_Law_law_261 : decode code 261 = .ok (.invokevirtual 41, 3) := by decide +kernel
theorem d_Law_law_264 : decode code 264 = .ok (.aload_n 2, 1) := by decide +kernel
theorem d_Law_law_265 : decode code 265 = .ok (.aload_n 0, 1) := by decide +kernel
theorem d_Law_law_266 : decode code 266 = .ok (.iload_n 3, 1) := by decide +kernel
theorem d_Law_law_267 : decode code 267 = .ok (.iconst 1, 1) := by decide +kernel
theorem d_Law_law_268 : decode code 268 = .ok (.iadd, 1) := by decide +kernel
theorem d_Law_law_269 : decode code 269 = .ok (.iaload, 1) := by decide +kernel
theorem d_Law_law_270 : decode code 270 = .ok (.aload_n 0, 1) := by decide +kernel
theorem d_Law_law_271 : decode code 271 = .ok (.iload_n 3, 1) := by decide +kernel
theorem d_Law_law_272 : decode code 272 = .ok (.iconst 2, 1) := by decide +kernel
theorem d_Law_law_273 : decode code 273 = .ok (.iadd, 1) := by decide +kernel
theorem d_Law_law_274 : decode code 274 = .ok (.iaload, 1) := by decide +kernel
theorem d_Law_law_275 : decode code 275 = .ok (.invokevirtual 45, 3) := by decide +kernel
theorem d_Law_law_278 : decode code 278 = .ok (.if_icmp .eq 67, 3) := by decide +kernel
theorem d_Law_law_281 : decode code 281 = .ok (.iconst 0, 1) := by decide +kernel
theorem d_Law_law_282 : decode code 282 = .ok (.ireturn, 1) := by decide +kernel
theorem d_Law_law_283 : decode code 283 = .ok (.aload_n 1, 1) := by decide +kernel
theorem d_Law_law_284 : decode code 284 = .ok (.invokevirtual 46, 3) := by decide +kernel
theorem d_Law_law_287 : decode code 287 = .ok (.aload_n 2, 1) := by decide +kernel
theorem d_Law_law_288 : decode code 288 = .ok (.invokevirtual 49, 3) := by decide +kernel
theorem d_Law_law_291 : decode code 291 = .ok (.if_icmp .eq 54, 3) := by decide +kernel
theorem d_Law_law_294 : decode code 294 = .ok (.iconst 0, 1) := by decide +kernel
theorem d_Law_law_295 : decode code 295 = .ok (.ireturn, 1) := by decide +kernel
theorem d_Law_law_296 : decode code 296 = .ok (.aload_n 1, 1) := by decide +kernel
theorem d_Law_law_297 : decode code 297 = .ok (.invokevirtual 50, 3) := by decide +kernel
theorem d_Law_law_300 : decode code 300 = .ok (.aload_n 2, 1) := by decide +kernel
theorem d_Law_law_301 : decode code 301 = .ok (.invokevirtual 53, 3) := by decide +kernel
theorem d_Law_law_304 : decode code 304 = .ok (.if_icmp .eq 41, 3) := by decide +kernel
theorem d_Law_law_307 : decode code 307 = .ok (.iconst 0, 1) := by decide +kernel
theorem d_Law_law_308 : decode code 308 = .ok (.ireturn, 1) := by decide +kernel
theorem d_Law_law_309 : decode code 309 = .ok (.aload_n 1, 1) := by decide +kernel
theorem d_Law_law_310 : decode code 310 = .ok (.invokevirtual 54, 3) := by decide +kernel
theorem d_Law_law_313 : decode code 313 = .ok (.aload_n 2, 1) := by decide +kernel
theorem d_Law_law_314 : decode code 314 = .ok (.invokevirtual 57, 3) := by decide +kernel
theorem d_Law_law_317 : decode code 317 = .ok (.if_icmp .eq 28, 3) := by decide +kernel
theorem d_Law_law_320 : decode code 320 = .ok (.iconst 0, 1) := by decide +kernel
theorem d_Law_law_321 : decode code 321 = .ok (.ireturn, 1) := by decide +kernel
theorem d_Law_law_322 : decode code 322 = .ok (.aload_n 1, 1) := by decide +kernel
theorem d_Law_law_323 : decode code 323 = .ok (.aload_n 0, 1) := by decide +kernel
theorem d_Law_law_324 : decode code 324 = .ok (.iload_n 3, 1) := by decide +kernel
theorem d_Law_law_325 : decode code 325 = .ok (.iconst 1, 1) := by decide +kernel
theorem d_Law_law_326 : decode code 326 = .ok (.iadd, 1) := by decide +kernel
theorem d_Law_law_327 : decode code 327 = .ok (.iaload, 1) := by decide +kernel
theorem d_Law_law_328 : decode code 328 = .ok (.invokevirtual 58, 3) := by decide +kernel
theorem d_Law_law_331 : decode code 331 = .ok (.aload_n 2, 1) := by decide +kernel
theorem d_Law_law_332 : decode code 332 = .ok (.aload_n 0, 1) := by decide +kernel
theorem d_Law_law_333 : decode code 333 = .ok (.iload_n 3, 1) := by decide +kernel
theorem d_Law_law_334 : decode code 334 = .ok (.iconst 1, 1) := by decide +kernel
theorem d_Law_law_335 : decode code 335 = .ok (.iadd, 1) := by decide +kernel
theorem d_Law_law_336 : decode code 336 = .ok (.iaload, 1) := by decide +kernel
theorem d_Law_law_337 : decode code 337 = .ok (.invokevirtual 61, 3) := by decide +kernel
theorem d_Law_law_340 : decode code 340 = .ok (.if_icmp .eq 5, 3) := by decide +kernel
theorem d_Law_law_343 : decode code 343 = .ok (.iconst 0, 1) := by decide +kernel
theorem d_Law_law_344 : decode code 344 = .ok (.ireturn, 1) := by decide +kernel
theorem d_Law_law_345 : decode code 345 = .ok (.iinc 3 6, 3) := by decide +kernel
theorem d_Law_law_348 : decode code 348 = .ok (.goto (-330), 3) := by decide +kernel
theorem d_Law_law_351 : decode code 351 = .ok (.iconst 1, 1) := by decide +kernel
theorem d_Law_law_352 : decode code 352 = .ok (.ireturn, 1) := by decide +kernel
end
section
def kL : List Int32 := [1116352408, 1899447441, (-1245643825), (-373957723), 961987163, 1508970993, (-1841331548), (-1424204075), (-670586216), 310598401, 607225278, 1426881987, 1925078388, (-2132889090), (-1680079193), (-1046744716), (-459576895), (-272742522), 264347078, 604807628, 770255983, 1249150122, 1555081692, 1996064986, (-1740746414), (-1473132947), (-1341970488), (-1084653625), (-958395405), (-710438585), 113926993, 338241895, 666307205, 773529912, 1294757372, 1396182291, 1695183700, 1986661051, (-2117940946), (-1838011259), (-1564481375), (-1474664885), (-1035236496), (-949202525), (-778901479), (-694614492), (-200395387), 275423344, 430227734, 506948616, 659060556, 883997877, 958139571, 1322822218, 1537002063, 1747873779, 1955562222, 2024104815, (-2067236844), (-1933114872), (-1866530822), (-1538233109), (-1090935817), (-965641998)]
def sL : List Int32 := [1779033703, (-1150833019), 1013904242, (-1521486534), 1359893119, (-1694144372), 528734635, 1541459225]
def shK (j : Nat) : Int32 := kL.getD j 0
def shS (j : Nat) : Int32 := sL.getD j 0
/-- the room of a method that makes nothing: so many frames deep -/
abbrev rmd (d : Nat) : Room := { frames := d, cells := 0, slots := 0, locals := 48 * d }
/-! What a method's world and contract are here: the whole list of cells that a method can reach, given and given back in the same order -/
abbrev En : Type := va_G × ClassId × ClassId × ClassId × Nat × Nat × Nat × Nat
abbrev tyE (E : En) : List (ClassId × FieldType) := [(E.2.1, .byte), (E.2.2.1, .int), (E.2.2.2.1, .boolean)]
/-- the four tables of constants: the class's START and ROUND, the reference's K and START -/
def Sx (E : En) (A : Nat → Prop) (U : State) (H : Heap) : Prop :=
  (va_Z RSha "START" "[I" (.ref E.2.2.2.2.1) A U H ∧ va_T .int E.2.2.2.2.1 8 (fun j => .int (shS j)) A U H) ∧
  (va_Z RSha "ROUND" "[I" (.ref E.2.2.2.2.2.1) A U H ∧ va_T .int E.2.2.2.2.2.1 64 (fun j => .int (shK j)) A U H) ∧
  (va_Z RMod "K" "[I" (.ref E.2.2.2.2.2.2.1) A U H ∧ va_T .int E.2.2.2.2.2.2.1 64 (fun j => .int (shK j)) A U H) ∧
  (va_Z RMod "START" "[I" (.ref E.2.2.2.2.2.2.2) A U H ∧ va_T .int E.2.2.2.2.2.2.2 8 (fun j => .int (shS j)) A U H)
theorem Sx.moved {E : En} {A : Nat → Prop} {u U : State} {H : Heap} (hvm : u.vm.Alike U.vm) (h : Sx E A u H) : Sx E A U H :=
  ⟨⟨va_Z.moved hvm h.1.1, va_T.moved hvm h.1.2⟩, ⟨va_Z.moved hvm h.2.1.1, va_T.moved hvm h.2.1.2⟩, ⟨va_Z.moved hvm h.2.2.1.1, va_T.moved hvm h.2.2.1.2⟩, ⟨va_Z.moved hvm h.2.2.2.1, va_T.moved hvm h.2.2.2.2⟩⟩
theorem Sx.kept {E : En} {A : Nat → Prop} {U : State} {H H1 : Heap} (h : Sx E A U H) (hq : ∀ a : Nat, a < H.size → ¬ A a → H1[a]? = H[a]?) : Sx E A U H1 :=
  ⟨⟨va_Z.kept h.1.1 hq, va_T.kept h.1.2 hq⟩, ⟨va_Z.kept h.2.1.1 hq, va_T.kept h.2.1.2 hq⟩, ⟨va_Z.kept h.2.2.1.1 hq, va_T.kept h.2.2.1.2 hq⟩, ⟨va_Z.kept h.2.2.2.1 hq, va_T.kept h.2.2.2.2 hq⟩⟩
theorem Sx.narrow {E : En} {A B : Nat → Prop} {U : State} {H : Heap} (h : Sx E A U H) (hAB : ∀ q, B q → A q) : Sx E B U H :=
  ⟨⟨va_Z.narrow h.1.1 hAB, va_T.narrow h.1.2 hAB⟩, ⟨va_Z.narrow h.2.1.1 hAB, va_T.narrow h.2.1.2 hAB⟩, ⟨va_Z.narrow h.2.2.1.1 hAB, va_T.narrow h.2.2.1.2 hAB⟩, ⟨va_Z.narrow h.2.2.2.1 hAB, va_T.narrow h.2.2.2.2 hAB⟩⟩
def Wi (E : En) (wc : va_W) (sz : Nat) (U : State) : Prop := U.heap.size = sz ∧ va_P E.1 clz wc U.heap ∧ va_K E.1 clz (tyE E) U ∧ va_D (fun _ => True) wc ∧ Sx E (va_A wc sz) U U.heap
def Wo (E : En) (wc w : va_W) (t : State) : Prop := va_P E.1 clz w t.heap ∧ va_K E.1 clz (tyE E) t ∧ w.map Prod.fst = wc.map Prod.fst
def CtI (l : Launch) (y : MethodName) (cc : ByteArray) (maxL : Nat) (ret : FieldType) (rm : Room) (E : En) (As : List Value) (wc : va_W) (post : Int32 → va_W → Prop) : Prop :=
  ∀ sz : Nat, Met l y (.code y cc maxL (some ret) :: ALLW) rm (va_Pc As (Wi E wc sz)) (va_Qi post (Wo E wc) (va_A wc sz)) 0 0 (va_A wc sz)
def CtV (l : Launch) (y : MethodName) (cc : ByteArray) (maxL : Nat) (rm : Room) (E : En) (As : List Value) (wc : va_W) (post : va_W → Prop) : Prop :=
  ∀ sz : Nat, Met l y (.code y cc maxL none :: ALLW) rm (va_Pc As (Wi E wc sz)) (va_Qv post (Wo E wc) (va_A wc sz)) 0 0 (va_A wc sz)
/-- what stays the same all through a walk -/
def Cx (p : Program) (c : Code) (cc : ByteArray) (nL : Nat) (s : State) (m : MethodId) (args : Array Value) (own : String) (E : En) (A : Nat → Prop) : Prop :=
  p.tables.exec = Jvm.exec ∧ c.code = cc ∧ c.maxLocals = nL ∧ s.vm.findClass own = some m.cls ∧ (∀ w ∈ ALLW, w.before args s = true) ∧ va_K E.1 clz (tyE E) s ∧ Sx E A s s.heap ∧ (∀ q : Nat, s.heap.size ≤ q → A q)
theorem Wi.blind {E : En} {wc : va_W} {sz : Nat} {As : List Value} : FrameBlind (va_Pc As (Wi E wc sz)) := fun a U g mk q => by
  obtain ⟨q0, q1, qP, qK, qD, qX⟩ := q
  exact ⟨q0, q1, qP, va_K.moved (u := U) (U := U.calling g mk a) (Vm.Alike.refl U.vm) qK, qD, Sx.moved (u := U) (U := U.calling g mk a) (Vm.Alike.refl U.vm) qX⟩
theorem CtI.of {l : Launch} {y : MethodName} {cc : ByteArray} {maxL : Nat} {ret : FieldType} {rm : Room} {E : En} {As : List Value} {wc : va_W} {post : Int32 → va_W → Prop} (hy : plainName y.cls = true) (hlen : (lg_sl As).length ≤ maxL)
    (hnar : ∀ r w, post r w → narrow ret (.int r) = .int r)
    (body : ∀ (p : Program) (e : Env) (s : State) (m : MethodId) (args : Array Value) (below : List Frame) (meth : Method) (c : Code) (A : Nat → Prop) (Q : State → Prop) (H : Heap) (locs : List Loc) (ls : Array Slot), Cx p c cc maxL s m args y.cls E A → va_P E.1 clz wc H → va_D A wc → va_S A s.heap H locs → lv_has ls maxL (lv_args 0 As) →
      (∀ (r : Int32) (w : va_W) (H : Heap) (locs : List Loc) (ls : Array Slot) (pc : Nat), decode cc pc = .ok (.ireturn, 1) → post r w → w.map Prod.fst = wc.map Prod.fst → va_P E.1 clz w H → va_S A s.heap H locs → W p l e rm s m args below meth c H locs 0 0 Q (F0 m pc ls [.int r])) →
      W p l e rm s m args below meth c H locs 0 0 Q (F0 m 0 ls [])) : CtI l y cc maxL ret rm E As wc post := by
  intro sz
  refine Met.ofW (cc := cc) (maxL := maxL) (ret := some ret) hy rfl ?_
  intro p e s m args below meth c s₁ B hml hv
  obtain ⟨rfl, hsz, hP, hK, hD0, hX⟩ := hv
  subst hsz
  have hlk := B.notSynchronized
  rw [lg_entry_eq]
  refine body p e s m _ below meth c (va_A wc s.heap.size) _ _ _ _ ⟨B.exec, B.bytes, hml, findClass_of_methodNamed B.named, fun w hw => atoms_spec B.pre w (List.mem_cons_of_mem _ hw), hK, hX, fun q h => Or.inr h⟩ hP hD0.self va_S.rf (lv_entry As hlen) ?_
  intro r w H locs ls pc hd hpost hw hP1 hS1
  exact W.zret (v := r) (ty := ret) B.exec B.bytes B.returns (hnar r w hpost) (fun t ht hW => ⟨⟨r, w, rfl, hpost, by rw [ht]; exact hP1, va_K.moved hW.alike hK, hw⟩, hS1.F ht⟩) hS1.2.2 hd
theorem CtV.of {l : Launch} {y : MethodName} {cc : ByteArray} {maxL : Nat} {rm : Room} {E : En} {As : List Value} {wc : va_W} {post : va_W → Prop} (hy : plainName y.cls = true) (hlen : (lg_sl As).length ≤ maxL)
    (body : ∀ (p : Program) (e : Env) (s : State) (m : MethodId) (args : Array Value) (below : List Frame) (meth : Method) (c : Code) (A : Nat → Prop) (Q : State → Prop) (H : Heap) (locs : List Loc) (ls : Array Slot), Cx p c cc maxL s m args y.cls E A → va_P E.1 clz wc H → va_D A wc → va_S A s.heap H locs → lv_has ls maxL (lv_args 0 As) →
      (∀ (w : va_W) (H : Heap) (locs : List Loc) (ls : Array Slot) (pc : Nat), decode cc pc = .ok (.return_, 1) → post w → w.map Prod.fst = wc.map Prod.fst → va_P E.1 clz w H → va_S A s.heap H locs → W p l e rm s m args below meth c H locs 0 0 Q (F0 m pc ls [])) →
      W p l e rm s m args below meth c H locs 0 0 Q (F0 m 0 ls [])) : CtV l y cc maxL rm E As wc post := by
  intro sz
  refine Met.ofW (cc := cc) (maxL := maxL) (ret := none) hy rfl ?_
  intro p e s m args below meth c s₁ B hml hv
  obtain ⟨rfl, hsz, hP, hK, hD0, hX⟩ := hv
  subst hsz
  have hlk := B.notSynchronized
  rw [lg_entry_eq]
  refine body p e s m _ below meth c (va_A wc s.heap.size) _ _ _ _ ⟨B.exec, B.bytes, hml, findClass_of_methodNamed B.named, fun w hw => atoms_spec B.pre w (List.mem_cons_of_mem _ hw), hK, hX, fun q h => Or.inr h⟩ hP hD0.self va_S.rf (lv_entry As hlen) ?_
  intro w H locs ls pc hd hpost hw hP1 hS1
  exact W.vret B.exec B.bytes B.returns (fun t ht hW => ⟨⟨w, rfl, hpost, by rw [ht]; exact hP1, va_K.moved hW.alike hK, hw⟩, hS1.F ht⟩) hS1.2.2 hd
/-- cells put back in their places -/
def sm : va_W → List Nat → va_W → va_W
  | ws, i :: is, x :: xs => sm (ws.set i x) is xs
  | ws, _, _ => ws
theorem fm_of {α β : Type} (f : α → Option β) : ∀ (l : List α) (w : List β), l.map f = w.map some → l.filterMap f = w := by
  intro l
  induction l with
  | nil =>
    intro w h
    cases w with
    | nil => rfl
    | cons b w => simp at h
  | cons a l ih =>
    intro w h
    cases w with
    | nil => simp at h
    | cons b w =>
      simp only [List.map_cons, List.cons.injEq] at h
      rw [List.filterMap_cons, h.1, ih w h.2]
theorem sm_cases : ∀ (is : List Nat) (xs ws : va_W) (k : Nat) (q : Nat × va_E), is.length = xs.length → (sm ws is xs)[k]? = some q → (∃ j : Nat, xs[j]? = some q) ∨ (k ∉ is ∧ ws[k]? = some q) := by
  intro is
  induction is with
  | nil =>
    intro xs ws k q hl h
    exact Or.inr ⟨by simp, by simpa [sm] using h⟩
  | cons i is ih =>
    intro xs ws k q hl h
    cases xs with
    | nil => simp at hl
    | cons x xs =>
      rcases ih xs (ws.set i x) k q (by simpa using hl) (by simpa [sm] using h) with ⟨j, hj⟩ | ⟨h1, h2⟩
      · exact Or.inl ⟨j + 1, by simpa using hj⟩
      · by_cases hk : i = k
        · subst hk
          rw [List.getElem?_set] at h2
          simp only [if_true] at h2
          split at h2
          · exact Or.inl ⟨0, by simpa using h2⟩
          · cases h2
        · rw [List.getElem?_set_ne hk] at h2
          exact Or.inr ⟨by simp [h1, Ne.symm hk], h2⟩
theorem sm_fst : ∀ (is : List Nat) (xs wc ws : va_W), is.map (fun i => ws[i]?) = wc.map some → xs.map Prod.fst = wc.map Prod.fst → va_nd is = true → (sm ws is xs).map Prod.fst = ws.map Prod.fst := by
  intro is
  induction is with
  | nil => intro xs wc ws _ _ _; simp [sm]
  | cons i is ih =>
    intro xs wc ws hC hx hnd
    cases wc with
    | nil => simp at hC
    | cons b wc =>
      cases xs with
      | nil => simp at hx
      | cons x xs =>
        simp only [List.map_cons, List.cons.injEq] at hC hx
        have hi : i ∉ is := by
          intro hm
          simp [va_nd, hm] at hnd
        have hnd2 : va_nd is = true := by
          simp [va_nd] at hnd
          exact hnd.2
        have h1 : (ws.set i x).map Prod.fst = ws.map Prod.fst := by
          apply List.ext_getElem?
          intro n
          simp only [List.getElem?_map, List.getElem?_set]
          by_cases hn : i = n
          · subst hn
            rw [hC.1]
            split <;> rename_i hh
            · split
              · simp [hx.1]
              · rename_i h9
                have := (List.getElem?_eq_some_iff.mp hC.1).1
                exact absurd this h9
            · exact absurd rfl hh
          · simp [hn]
        show (sm (ws.set i x) is xs).map Prod.fst = _
        rw [ih xs wc (ws.set i x) ?_ hx.2 hnd2, h1]
        rw [← hC.2]
        apply List.map_congr_left
        intro j hj
        apply List.getElem?_set_ne
        intro e9
        subst e9
        exact hi hj
theorem va_D_fst {A : Nat → Prop} {w w' : va_W} (h : va_D A w) (he : w'.map Prod.fst = w.map Prod.fst) : va_D A w' := by
  have key : ∀ (k : Nat) (q : Nat × va_E), w'[k]? = some q → ∃ q' : Nat × va_E, w[k]? = some q' ∧ q'.1 = q.1 := by
    intro k q hk
    have h1 : (w'.map Prod.fst)[k]? = some q.1 := by rw [List.getElem?_map, hk]; rfl
    rw [he, List.getElem?_map] at h1
    cases hw : w[k]? with
    | none => rw [hw] at h1; cases h1
    | some q' => rw [hw] at h1; exact ⟨q', rfl, Option.some.inj h1⟩
  refine ⟨fun i j p q hi hj hpq => ?_, fun k q hk => ?_⟩
  · obtain ⟨p', h1, h2⟩ := key i p hi
    obtain ⟨q', h3, h4⟩ := key j q hj
    exact h.1 i j p' q' h1 h3 (by rw [h2, h4, hpq])
  · obtain ⟨q', h1, h2⟩ := key k q hk
    rw [← h2]; exact h.2 k q' h1
theorem sm_P {A0 : Nat → Prop} {D : va_G} {cl : List vw_C} {ws wc w1 : va_W} {H H1 : Heap} (hP : va_P D cl ws H) (hD : va_D A0 ws) (isC : List Nat) (hC : isC.map (fun i => ws[i]?) = wc.map some)
    (hk : ∀ q : Nat, q < H.size → ¬ va_A wc H.size q → H1[q]? = H[q]?) (hP1 : va_P D cl w1 H1) (hf : w1.map Prod.fst = wc.map Prod.fst) : va_P D cl (sm ws isC w1) H1 := by
  have hlen : isC.length = w1.length := by
    have h1 := congrArg List.length hC
    have h2 := congrArg List.length hf
    simp at h1 h2
    omega
  intro k q hq
  rcases sm_cases isC w1 ws k q hlen hq with ⟨j, hj⟩ | ⟨h1, h2⟩
  · exact hP1 j q hj
  · refine (hP k q h2).kept (hk q.1 ((hP k q h2).lt) ?_)
    intro h
    rcases h with ⟨j, e, h⟩ | h
    · have h3 : (isC.map (fun i => ws[i]?))[j]? = some (some (q.1, e)) := by rw [hC, List.getElem?_map, h]; rfl
      rw [List.getElem?_map] at h3
      cases hi : isC[j]? with
      | none => rw [hi] at h3; cases h3
      | some i =>
        rw [hi] at h3
        have h4 : ws[i]? = some (q.1, e) := Option.some.inj h3
        have := hD.1 k i q (q.1, e) h2 h4 rfl
        subst this
        exact h1 (List.mem_of_getElem? hi)
    · have := (hP k q h2).lt
      omega
/-! calls -/
def VCall (own : String) (index : Nat) (y : MethodName) (bytes : ByteArray) (maxL : Nat) (ret : Option FieldType) (n : Nat) : Prop :=
  Cond.methodLink own index y ∈ ALLW ∧ Cond.instanceMethod y ∈ ALLW ∧ Cond.selects y.cls y y ∈ ALLW ∧ Cond.initialized y.cls ∈ ALLW ∧ Cond.code y bytes maxL ret ∈ ALLW ∧ (y.cls ≠ "java/lang/invoke/MethodHandle" ∧ y.cls ≠ "java/lang/invoke/VarHandle" ∧ (parseMethodDescriptor y.desc).map (fun d => d.parameters.length) = some n)
theorem good_code {y : MethodName} {bytes : ByteArray} {maxL : Nat} {ret : Option FieldType} (h : Cond.code y bytes maxL ret ∈ ALLW) : GoodIn ALLW (.code y bytes maxL ret :: ALLW) := by
  intro w hw
  rcases List.mem_cons.mp hw with rfl | hw
  · exact ⟨h, good_of_word (ALLW_good _ h)⟩
  · exact ⟨hw, good_of_word (ALLW_good _ hw)⟩
theorem VCall.good {own : String} {index : Nat} {y : MethodName} {bytes : ByteArray} {maxL n : Nat} {ret : Option FieldType} (V : VCall own index y bytes maxL ret n) : GoodIn ALLW (wsV own index y.cls y (.code y bytes maxL ret :: ALLW)) := by
  obtain ⟨v1, v2, v3, v4, v5, v6⟩ := V
  intro w hw
  have hw : w ∈ ([.methodLink own index y, .instanceMethod y, .selects y.cls y y, .initialized y.cls] : List Cond) ++ (.code y bytes maxL ret :: ALLW) := hw
  rcases List.mem_append.mp hw with hw | hw
  · simp only [List.mem_cons, List.mem_nil_iff, or_false] at hw
    rcases hw with rfl | rfl | rfl | rfl
    · exact ⟨v1, good_of_word (ALLW_good _ v1)⟩
    · exact ⟨v2, good_of_word (ALLW_good _ v2)⟩
    · exact ⟨v3, good_of_word (ALLW_good _ v3)⟩
    · exact ⟨v4, good_of_word (ALLW_good _ v4)⟩
  · exact good_code v5 w hw
section XC
variable {p : Program} {l : Launch} {e : Env} {R : Room} {s : State} {m : MethodId} {args : Array Value} {below : List Frame} {meth : Method} {c : Code} {H : Heap} {locs : List Loc} {Q : State → Prop}
variable {cc bytes : ByteArray} {pc nL maxL index n : Nat} {ls : Array Slot} {rest As : List Value} {E : En} {A : Nat → Prop} {own : String} {y : MethodName} {ret : FieldType} {rm : Room} {ws wc : va_W} {b : Nat} {fs : List Value} {T : u_T} {N : Nat}
theorem Wi.here {v : List Value} (hK : va_K E.1 clz (tyE E) s) (hX : Sx E A s s.heap) (hA : ∀ q : Nat, s.heap.size ≤ q → A q) (hP : va_P E.1 clz ws H) (hD : va_D A ws) (hS : va_S A s.heap H locs) (isC : List Nat) (hC : isC.map (fun i => ws[i]?) = wc.map some) (hnd : va_nd isC = true) :
    ∀ U : State, U.heap = H → s.WarmedH U.vm → va_Pc v (Wi E wc H.size) v.toArray U := by
  intro U hU hW
  have hF := va_free (wc := wc) hD hS hA isC hC
  refine ⟨rfl, by rw [hU], by rw [hU]; exact hP.sub isC (fm_of _ _ _ hC), va_K.moved hW.alike hK, (hD.sub isC hnd hC).weaken (fun _ _ _ _ => trivial), ?_⟩
  rw [hU]
  exact Sx.moved hW.alike ((hX.kept (fun a h1 h2 => hS.2.1 a h1 h2)).narrow hF)
theorem cal_I {post : Int32 → va_W → Prop} (C : Cx p c cc nL s m args own E A) (V : VCall own index y bytes maxL (some ret) n) (hM : CtI l y bytes maxL ret rm E (.ref b :: As) wc post) (hR : rm.cells = 0 ∧ rm.slots = 0 ∧ rm.frames + 1 ≤ R.frames ∧ 8 + (maxL + 11) + rm.locals ≤ R.locals)
    (hP : va_P E.1 clz ws H) (hD : va_D A ws) (hS : va_S A s.heap H locs) (q0 ci : Nat) (he : ws[q0]? = some (b, .inr (ci, fs))) (hc : clz[ci]? = some (y.cls, T, N)) (isC : List Nat) (hC : isC.map (fun i => ws[i]?) = wc.map some) (hnd : va_nd isC = true)
    (hls : ls.size = nL) (hn : As.length = n) (hst : (rest.map fun v => v.category).sum ≤ 8) (hdg : decode cc pc = .ok (.invokevirtual index, 3))
    (kk : ∀ (r : Int32) (w1 : va_W) (H1 : Heap) (locs1 : List Loc), post r w1 → va_P E.1 clz (sm ws isC w1) H1 → va_D A (sm ws isC w1) → va_S A s.heap H1 locs1 → W p l e R s m args below meth c H1 locs1 0 0 Q (F0 m (pc + 3) ls (.int r :: rest))) :
    W p l e R s m args below meth c H locs 0 0 Q (F0 m pc ls (As.reverse ++ .ref b :: rest)) := by
  obtain ⟨hx, hb, hml, hown, hts, hK, hX, hA⟩ := C
  have hF := va_free (wc := wc) hD hS hA isC hC
  refine va_calli (va_runV (C := y.cls) (As := As) (rest := rest) ⟨hx, hb, hml, hown, hts⟩ (hM H.size) (cwV n hts V.good rfl hR.1 hR.2.1 ⟨rfl, V.2.2.2.2.2⟩ hR.2.2) ⟨Wi.blind, va_recv hK hP hc he, Wi.here hK hX hA hP hD hS isC hC hnd⟩ rfl hn hls rfl (lv_room hst) hdg ⟨Nat.zero_le _, Nat.zero_le _⟩) hS (fun q _ h => hF q h) hF (fun r w1 t H1 locs1 ht hvm hpost hB hz1 hk1 hS1 => ?_)
  obtain ⟨hP1, -, hf⟩ := hB
  rw [ht] at hP1
  exact kk r w1 H1 locs1 hpost (sm_P hP hD isC hC hk1 hP1 hf) (va_D_fst hD (sm_fst isC w1 wc ws hC hf hnd)) hS1
theorem cal_V {post : va_W → Prop} (C : Cx p c cc nL s m args own E A) (V : VCall own index y bytes maxL none n) (hM : CtV l y bytes maxL rm E (.ref b :: As) wc post) (hR : rm.cells = 0 ∧ rm.slots = 0 ∧ rm.frames + 1 ≤ R.frames ∧ 8 + (maxL + 11) + rm.locals ≤ R.locals)
    (hP : va_P E.1 clz ws H) (hD : va_D A ws) (hS : va_S A s.heap H locs) (q0 ci : Nat) (he : ws[q0]? = some (b, .inr (ci, fs))) (hc : clz[ci]? = some (y.cls, T, N)) (isC : List Nat) (hC : isC.map (fun i => ws[i]?) = wc.map some) (hnd : va_nd isC = true)
    (hls : ls.size = nL) (hn : As.length = n) (hst : (rest.map fun v => v.category).sum ≤ 8) (hdg : decode cc pc = .ok (.invokevirtual index, 3))
    (kk : ∀ (w1 : va_W) (H1 : Heap) (locs1 : List Loc), post w1 → va_P E.1 clz (sm ws isC w1) H1 → va_D A (sm ws isC w1) → va_S A s.heap H1 locs1 → W p l e R s m args below meth c H1 locs1 0 0 Q (F0 m (pc + 3) ls rest)) :
    W p l e R s m args below meth c H locs 0 0 Q (F0 m pc ls (As.reverse ++ .ref b :: rest)) := by
  obtain ⟨hx, hb, hml, hown, hts, hK, hX, hA⟩ := C
  have hF := va_free (wc := wc) hD hS hA isC hC
  refine va_callv (va_runV (C := y.cls) (As := As) (rest := rest) ⟨hx, hb, hml, hown, hts⟩ (hM H.size) (cwV n hts V.good rfl hR.1 hR.2.1 ⟨rfl, V.2.2.2.2.2⟩ hR.2.2) ⟨Wi.blind, va_recv hK hP hc he, Wi.here hK hX hA hP hD hS isC hC hnd⟩ rfl hn hls rfl (lv_room hst) hdg ⟨Nat.zero_le _, Nat.zero_le _⟩) hS (fun q _ h => hF q h) hF (fun w1 t H1 locs1 ht hvm hpost hB hz1 hk1 hS1 => ?_)
  obtain ⟨hP1, -, hf⟩ := hB
  rw [ht] at hP1
  exact kk w1 H1 locs1 hpost (sm_P hP hD isC hC hk1 hP1 hf) (va_D_fst hD (sm_fst isC w1 wc ws hC hf hnd)) hS1
def SCall (own : String) (index : Nat) (y : MethodName) (bytes : ByteArray) (maxL : Nat) (ret : Option FieldType) (n : Nat) : Prop :=
  Cond.methodLink own index y ∈ ALLW ∧ Cond.static y ∈ ALLW ∧ Cond.initialized y.cls ∈ ALLW ∧ Cond.code y bytes maxL ret ∈ ALLW ∧ (y.cls ≠ "java/lang/invoke/MethodHandle" ∧ y.cls ≠ "java/lang/invoke/VarHandle" ∧ (parseMethodDescriptor y.desc).map (fun d => d.parameters.length) = some n)
theorem SCall.good {ret : Option FieldType} (V : SCall own index y bytes maxL ret n) : GoodIn ALLW (va_wsS own index y (.code y bytes maxL ret :: ALLW)) := by
  obtain ⟨v1, v2, v4, v5, v6⟩ := V
  intro w hw
  have hw : w ∈ ([.methodLink own index y, .static y, .initialized y.cls] : List Cond) ++ (.code y bytes maxL ret :: ALLW) := hw
  rcases List.mem_append.mp hw with hw | hw
  · simp only [List.mem_cons, List.mem_nil_iff, or_false] at hw
    rcases hw with rfl | rfl | rfl
    · exact ⟨v1, good_of_word (ALLW_good _ v1)⟩
    · exact ⟨v2, good_of_word (ALLW_good _ v2)⟩
    · exact ⟨v4, good_of_word (ALLW_good _ v4)⟩
  · exact good_code v5 w hw
theorem cal_S {post : Int32 → va_W → Prop} (C : Cx p c cc nL s m args own E A) (V : SCall own index y bytes maxL (some ret) n) (hM : CtI l y bytes maxL ret rm E As wc post) (hR : rm.cells = 0 ∧ rm.slots = 0 ∧ rm.frames + 1 ≤ R.frames ∧ 8 + (maxL + 11) + rm.locals ≤ R.locals)
    (hP : va_P E.1 clz ws H) (hD : va_D A ws) (hS : va_S A s.heap H locs) (isC : List Nat) (hC : isC.map (fun i => ws[i]?) = wc.map some) (hnd : va_nd isC = true)
    (hls : ls.size = nL) (hn : As.length = n) (hst : (rest.map fun v => v.category).sum ≤ 8) (hdg : decode cc pc = .ok (.invokestatic index, 3))
    (kk : ∀ (r : Int32) (w1 : va_W) (H1 : Heap) (locs1 : List Loc), post r w1 → va_P E.1 clz (sm ws isC w1) H1 → va_D A (sm ws isC w1) → va_S A s.heap H1 locs1 → W p l e R s m args below meth c H1 locs1 0 0 Q (F0 m (pc + 3) ls (.int r :: rest))) :
    W p l e R s m args below meth c H locs 0 0 Q (F0 m pc ls (As.reverse ++ rest)) := by
  obtain ⟨hx, hb, hml, hown, hts, hK, hX, hA⟩ := C
  have hF := va_free (wc := wc) hD hS hA isC hC
  refine va_calli (va_runS (As := As) (rest := rest) ⟨hx, hb, hml, hown, hts⟩ (hM H.size) (va_cwS n hts V.good rfl hR.1 hR.2.1 V.2.2.2.2 hR.2.2) ⟨Wi.blind, Wi.here hK hX hA hP hD hS isC hC hnd⟩ rfl hn hls rfl (lv_room hst) hdg ⟨Nat.zero_le _, Nat.zero_le _⟩) hS (fun q _ h => hF q h) hF (fun r w1 t H1 locs1 ht hvm hpost hB hz1 hk1 hS1 => ?_)
  obtain ⟨hP1, -, hf⟩ := hB
  rw [ht] at hP1
  exact kk r w1 H1 locs1 hpost (sm_P hP hD isC hC hk1 hP1 hf) (va_D_fst hD (sm_fst isC w1 wc ws hC hf hnd)) hS1
/-! rows with numbers that are places -/
theorem tope {x z : Int32} (h : x = z) (k : W p l e R s m args below meth c H locs 0 0 Q (F0 m pc ls (.int z :: rest))) : W p l e R s m args below meth c H locs 0 0 Q (F0 m pc ls (.int x :: rest)) := h ▸ k
theorem n_bald (C : Cx p c cc nL s m args own E A) (hP : va_P E.1 clz ws H) (q0 : Nat) {a M : Nat} {f : Nat → Int32} (ha : ws[q0]? = some (a, .inl (E.2.1, M, .inl f))) {i : Int32} (k : Nat) (hi : i = nI k) (hk : k < M) (hM : M < 2 ^ 31) (hdg : decode cc pc = .ok (.baload, 1))
    (kk : W p l e R s m args below meth c H locs 0 0 Q (F0 m (pc + 1) ls (.int (f k) :: rest))) : W p l e R s m args below meth c H locs 0 0 Q (F0 m pc ls (.int i :: .ref a :: rest)) := by
  subst hi
  refine va_bald C.1 C.2.1 C.2.2.2.2.2.1 hP q0 0 ha rfl (vp_in_nI hk hM) hdg ?_
  rw [nI_clamp (by omega)]
  exact kk
theorem n_zald (C : Cx p c cc nL s m args own E A) (hP : va_P E.1 clz ws H) (q0 : Nat) {a M : Nat} {f : Nat → Int32} (ha : ws[q0]? = some (a, .inl (E.2.2.2.1, M, .inl f))) {i : Int32} (k : Nat) (hi : i = nI k) (hk : k < M) (hM : M < 2 ^ 31) (hdg : decode cc pc = .ok (.baload, 1))
    (kk : W p l e R s m args below meth c H locs 0 0 Q (F0 m (pc + 1) ls (.int (f k) :: rest))) : W p l e R s m args below meth c H locs 0 0 Q (F0 m pc ls (.int i :: .ref a :: rest)) := by
  subst hi
  refine va_zald C.1 C.2.1 C.2.2.2.2.2.1 hP q0 2 ha rfl (vp_in_nI hk hM) hdg ?_
  rw [nI_clamp (by omega)]
  exact kk
theorem n_iald (C : Cx p c cc nL s m args own E A) (hP : va_P E.1 clz ws H) (q0 : Nat) {a M : Nat} {f : Nat → Int32} (ha : ws[q0]? = some (a, .inl (E.2.2.1, M, .inl f))) {i : Int32} (k : Nat) (hi : i = nI k) (hk : k < M) (hM : M < 2 ^ 31) (hdg : decode cc pc = .ok (.iaload, 1))
    (kk : W p l e R s m args below meth c H locs 0 0 Q (F0 m (pc + 1) ls (.int (f k) :: rest))) : W p l e R s m args below meth c H locs 0 0 Q (F0 m pc ls (.int i :: .ref a :: rest)) := by
  subst hi
  refine va_iald C.1 C.2.1 C.2.2.2.2.2.1 hP q0 1 ha rfl (vp_in_nI hk hM) hdg ?_
  rw [nI_clamp (by omega)]
  exact kk
theorem n_bast (C : Cx p c cc nL s m args own E A) (hP : va_P E.1 clz ws H) (hD : va_D A ws) (hS : va_S A s.heap H locs) (q0 : Nat) {a M : Nat} {f : Nat → Int32} (ha : ws[q0]? = some (a, .inl (E.2.1, M, .inl f))) {i x z : Int32} (k : Nat) (hi : i = nI k) (hz : x.toInt8.toInt32 = z) (hk : k < M) (hM : M < 2 ^ 31) (hdg : decode cc pc = .ok (.bastore, 1))
    (kk : ∀ (H1 : Heap) (locs1 : List Loc), va_P E.1 clz (ws.set q0 (a, .inl (E.2.1, M, .inl (upd f k z)))) H1 → va_D A (ws.set q0 (a, .inl (E.2.1, M, .inl (upd f k z)))) → va_S A s.heap H1 locs1 → W p l e R s m args below meth c H1 locs1 0 0 Q (F0 m (pc + 1) ls rest)) : W p l e R s m args below meth c H locs 0 0 Q (F0 m pc ls (.int x :: .int i :: .ref a :: rest)) := by
  subst hi
  refine va_bast C.1 C.2.1 C.2.2.2.2.2.1 hP hD hS q0 0 ha rfl (vp_in_nI hk hM) hdg ?_
  rw [nI_clamp (by omega), vp_nar_byte, hz]
  exact kk
theorem n_iast (C : Cx p c cc nL s m args own E A) (hP : va_P E.1 clz ws H) (hD : va_D A ws) (hS : va_S A s.heap H locs) (q0 : Nat) {a M : Nat} {f : Nat → Int32} (ha : ws[q0]? = some (a, .inl (E.2.2.1, M, .inl f))) {i x : Int32} (k : Nat) (hi : i = nI k) (hk : k < M) (hM : M < 2 ^ 31) (hdg : decode cc pc = .ok (.iastore, 1))
    (kk : ∀ (H1 : Heap) (locs1 : List Loc), va_P E.1 clz (ws.set q0 (a, .inl (E.2.2.1, M, .inl (upd f k x)))) H1 → va_D A (ws.set q0 (a, .inl (E.2.2.1, M, .inl (upd f k x)))) → va_S A s.heap H1 locs1 → W p l e R s m args below meth c H1 locs1 0 0 Q (F0 m (pc + 1) ls rest)) : W p l e R s m args below meth c H locs 0 0 Q (F0 m pc ls (.int x :: .int i :: .ref a :: rest)) := by
  subst hi
  refine va_iast C.1 C.2.1 C.2.2.2.2.2.1 hP hD hS q0 1 ha rfl (vp_in_nI hk hM) hdg ?_
  rw [nI_clamp (by omega)]
  exact kk
end XC
end
section
/-! the mathematics: SHA-256 as both sides compute it, over 32-bit numbers; bytes are kept with their sign -/
def us (x y : Int32) : Int32 := (x.toUInt32 >>> (y.toUInt32 &&& Int32.toUInt32 31)).toInt32
def sl (x y : Int32) : Int32 := x <<< (y &&& 31)
def sr (x y : Int32) : Int32 := x >>> (y &&& 31)
def nb (x : Int32) : Int32 := x.toInt8.toInt32
def isB (x : Int32) : Prop := nb x = x
def fB (f : Nat → Int32) : Prop := ∀ j, isB (f j)
def sg0 (x : Int32) : Int32 := ((us x (nI 7) ||| sl x (nI 25)) ^^^ (us x (nI 18) ||| sl x (nI 14))) ^^^ us x (nI 3)
def sg1 (y : Int32) : Int32 := ((us y (nI 17) ||| sl y (nI 15)) ^^^ (us y (nI 19) ||| sl y (nI 13))) ^^^ us y (nI 10)
def bg1 (e : Int32) : Int32 := ((us e (nI 6) ||| sl e (nI 26)) ^^^ (us e (nI 11) ||| sl e (nI 21))) ^^^ (us e (nI 25) ||| sl e (nI 7))
def bg0 (a : Int32) : Int32 := ((us a (nI 2) ||| sl a (nI 30)) ^^^ (us a (nI 13) ||| sl a (nI 19))) ^^^ (us a (nI 22) ||| sl a (nI 10))
def chs (e f g : Int32) : Int32 := (e &&& f) ^^^ ((e ^^^ (-1)) &&& g)
def mjs (a b c : Int32) : Int32 := ((a &&& b) ^^^ (a &&& c)) ^^^ (b &&& c)
/-- the words behind i steps of the extension -/
def exW (w : Nat → Int32) : Nat → Nat → Int32
  | 0 => w
  | i + 1 => upd (exW w i) (16 + i) (((exW w i i + sg0 (exW w i (i + 1))) + exW w i (i + 9)) + sg1 (exW w i (i + 14)))
abbrev S8 : Type := Int32 × Int32 × Int32 × Int32 × Int32 × Int32 × Int32 × Int32
def rd1 (k w : Int32) : S8 → S8
  | (a, b, c, d, e, f, g, h) => ((((((h + bg1 e) + chs e f g) + k) + w) + (bg0 a + mjs a b c)), a, b, c, d + ((((h + bg1 e) + chs e f g) + k) + w), e, f, g)
def mx (w : Nat → Int32) (t : S8) : Nat → S8
  | 0 => t
  | i + 1 => rd1 (shK i) (w i) (mx w t i)
def ad8 (st : Nat → Int32) : S8 → Nat → Int32
  | (a, b, c, d, e, f, g, h) => upd (upd (upd (upd (upd (upd (upd (upd st 0 (st 0 + a)) 1 (st 1 + b)) 2 (st 2 + c)) 3 (st 3 + d)) 4 (st 4 + e)) 5 (st 5 + f)) 6 (st 6 + g)) 7 (st 7 + h)
def blkF (w st : Nat → Int32) : Nat → Int32 := ad8 st (mx w (st 0, st 1, st 2, st 3, st 4, st 5, st 6, st 7) 64)
def pv (b : Nat → Int32) (n p : Nat) : Int32 := if p < n then b p &&& nI 255 else if p = n then nI 128 else nI 0
def cm1 (w v : Int32) : Int32 := sl w (nI 8) ||| v
def wd (b : Nat → Int32) (n j k : Nat) : Int32 := cm1 (cm1 (cm1 (cm1 (nI 0) (pv b n (j * 64 + 4 * k))) (pv b n (j * 64 + 4 * k + 1))) (pv b n (j * 64 + 4 * k + 2))) (pv b n (j * 64 + 4 * k + 3))
def lstB (n : Nat) : Nat := (n + 8) / 64
def wds (b : Nat → Int32) (n j : Nat) : Nat → Int32 := fun k => if j = lstB n ∧ k = 15 then nI (n * 8) else wd b n j k
def stN (b : Nat → Int32) (n : Nat) : Nat → Nat → Int32
  | 0 => shS
  | j + 1 => blkF (exW (wds b n j) 48) (stN b n j)
def shaF (b : Nat → Int32) (n : Nat) : Nat → Int32 := fun i => nb (us (stN b n (lstB n + 1) (i / 4)) (nI (24 - i % 4 * 8)))
/-! rows on them -/
theorem exW_congr {w w' : Nat → Int32} (h : ∀ k, k < 16 → w k = w' k) : ∀ i k, k < 16 + i → exW w i k = exW w' i k := by
  intro i
  induction i with
  | zero => intro k hk; exact h k (by omega)
  | succ i ih =>
    intro k hk
    show upd _ _ _ k = upd _ _ _ k
    unfold upd
    by_cases e : k = 16 + i
    · rw [if_pos e, if_pos e, ih i (by omega), ih (i + 1) (by omega), ih (i + 9) (by omega), ih (i + 14) (by omega)]
    · rw [if_neg e, if_neg e]
      exact ih k (by omega)
theorem mx_congr {w w' : Nat → Int32} {t : S8} : ∀ i, (∀ k, k < i → w k = w' k) → mx w t i = mx w' t i := by
  intro i
  induction i with
  | zero => intro _; rfl
  | succ i ih =>
    intro h
    show rd1 _ _ _ = rd1 _ _ _
    rw [ih (fun k hk => h k (by omega)), h i (by omega)]
theorem ad8_congr {st st' : Nat → Int32} {t : S8} (h : ∀ k, k < 8 → st k = st' k) : ∀ k, k < 8 → ad8 st t k = ad8 st' t k := by
  intro k hk
  obtain ⟨a, b, c, d, e, f, g, i⟩ := t
  simp only [ad8, upd]
  rw [h 0 (by omega), h 1 (by omega), h 2 (by omega), h 3 (by omega), h 4 (by omega), h 5 (by omega), h 6 (by omega), h 7 (by omega), h k hk]
theorem blkF_congr {w w' st st' : Nat → Int32} (hw : ∀ k, k < 64 → w k = w' k) (h : ∀ k, k < 8 → st k = st' k) : ∀ k, k < 8 → blkF w st k = blkF w' st' k := by
  intro k hk
  unfold blkF
  rw [mx_congr 64 hw, h 0 (by omega), h 1 (by omega), h 2 (by omega), h 3 (by omega), h 4 (by omega), h 5 (by omega), h 6 (by omega), h 7 (by omega)]
  exact ad8_congr h k hk
theorem pv_congr {b b' : Nat → Int32} {n : Nat} (h : ∀ j, j < n → b j = b' j) (p : Nat) : pv b n p = pv b' n p := by
  unfold pv
  split
  · rename_i hp; rw [h p hp]
  · rfl
theorem wds_congr {b b' : Nat → Int32} {n : Nat} (h : ∀ j, j < n → b j = b' j) (j : Nat) : wds b n j = wds b' n j := by
  funext k
  simp only [wds, wd, pv_congr h]
theorem shaF_congr {b b' : Nat → Int32} {n : Nat} (h : ∀ j, j < n → b j = b' j) : shaF b n = shaF b' n := by
  have hs : ∀ j, stN b n j = stN b' n j := by
    intro j
    induction j with
    | zero => rfl
    | succ j ih => show blkF _ _ = blkF _ _; rw [wds_congr h, ih]
  funext i
  simp only [shaF, hs]
theorem nb_nb (x : Int32) : nb (nb x) = nb x := by
  have h := pk_vb x
  rw [vp_nar_byte] at h
  exact h
theorem shaF_B (b : Nat → Int32) (n : Nat) : fB (shaF b n) := fun j => nb_nb _
theorem fB_upd {f : Nat → Int32} {k : Nat} {x : Int32} (h : fB f) (hx : isB x) : fB (upd f k x) := by
  intro j
  unfold upd
  split
  · exact hx
  · exact h j
theorem fB_cpy {f g : Nat → Int32} {a b n : Nat} (hf : fB f) (hg : fB g) : fB (va_cpy f g a b n) := by
  intro j
  unfold va_cpy
  split
  · exact hf _
  · exact hg _
theorem cpy_succ (f g : Nat → Int32) (o d i : Nat) : upd (va_cpy f g o d i) (d + i) (f (o + i)) = va_cpy f g o d (i + 1) := by
  funext j
  unfold upd va_cpy
  by_cases h : j = d + i
  · subst h
    rw [if_pos rfl, if_pos (by omega)]
    congr 1
    omega
  · rw [if_neg h]
    by_cases h2 : d ≤ j ∧ j < d + i
    · rw [if_pos h2, if_pos (by omega)]
    · rw [if_neg h2, if_neg (by omega)]
theorem cpy_zero (f g : Nat → Int32) (o d : Nat) : va_cpy f g o d 0 = g := by
  funext j
  unfold va_cpy
  rw [if_neg (by omega)]
end
section
theorem iincK (a k : Nat) : nI a + Int32.ofInt (k : Int) = nI (a + k) := by
  rw [← nI_add]
  rfl
def FG (own : String) (index ci k : Nat) (Cn : String) (T : u_T) (N : Nat) : Prop := (∀ w ∈ u_ws Cn T N, w ∈ ALLW) ∧ clz[ci]? = some (Cn, T, N) ∧ k < N ∧ Cond.fieldLink own index Cn (T k).2.1 (T k).2.2.1 ∈ ALLW ∧ (T k).1 = Cn
def FP (own : String) (index ci k : Nat) (Cn : String) (T : u_T) (N : Nat) (ty : FieldType) : Prop := FG own index ci k Cn T N ∧ (T k).2.2.2 = false ∧ (∃ ty0 : Nat → FieldType, ∀ j, j < N → parseFieldDescriptor (T j).2.2.1 = some (ty0 j)) ∧ (∀ a, a < N → ∀ b, b < N → a ≠ b → (T a).2.1 ≠ (T b).2.1) ∧ parseFieldDescriptor (T k).2.2.1 = some ty
section XF
variable {p : Program} {l : Launch} {e : Env} {R : Room} {s : State} {m : MethodId} {args : Array Value} {below : List Frame} {meth : Method} {c : Code} {H : Heap} {locs : List Loc} {cells slots : Nat} {Q : State → Prop}
variable {cc : ByteArray} {pc nL index ci k Nn a : Nat} {ls : Array Slot} {rest fs : List Value} {E : En} {A : Nat → Prop} {own Cn : String} {T : u_T} {ws : va_W} {v : Value} {ty : FieldType}
theorem n_get (C : Cx p c cc nL s m args own E A) (G : FG own index ci k Cn T Nn) (hP : va_P E.1 clz ws H) (q0 : Nat) (he : ws[q0]? = some (a, .inr (ci, fs))) (hv : fs[k]? = some v) (hdg : decode cc pc = .ok (.getfield index, 3))
    (kk : W p l e R s m args below meth c H locs cells slots Q (F0 m (pc + 3) ls (v :: rest))) : W p l e R s m args below meth c H locs cells slots Q (F0 m pc ls (.ref a :: rest)) :=
  va_get C.1 C.2.1 C.2.2.2.2.1 G.1 C.2.2.2.1 C.2.2.2.2.2.1 hP q0 he G.2.1 k G.2.2.1 (C.2.2.2.2.1 _ G.2.2.2.1) (fun x h => by rw [G.2.2.2.2] at h; exact h) hv hdg kk
theorem n_put (C : Cx p c cc nL s m args own E A) (G : FP own index ci k Cn T Nn ty) (hP : va_P E.1 clz ws H) (hD : va_D A ws) (hS : va_S A s.heap H locs) (q0 : Nat) (he : ws[q0]? = some (a, .inr (ci, fs))) (hn : narrow ty v = v) (hfit : fits ty v = true) (hl : k < fs.length) (hdg : decode cc pc = .ok (.putfield index, 3))
    (kk : ∀ (H1 : Heap) (locs1 : List Loc), va_P E.1 clz (ws.set q0 (a, .inr (ci, fs.set k v))) H1 → va_D A (ws.set q0 (a, .inr (ci, fs.set k v))) → va_S A s.heap H1 locs1 → W p l e R s m args below meth c H1 locs1 cells slots Q (F0 m (pc + 3) ls rest)) : W p l e R s m args below meth c H locs cells slots Q (F0 m pc ls (v :: .ref a :: rest)) := by
  obtain ⟨⟨g1, g2, g3, g4, g5⟩, g6, ⟨ty0, g7⟩, g8, g9⟩ := G
  exact va_put C.1 C.2.1 C.2.2.2.2.1 g1 ty0 g7 g8 C.2.2.2.1 C.2.2.2.2.2.1 hP hD hS q0 he g2 k g3 (C.2.2.2.2.1 _ g4) (fun x h => by rw [g5] at h; exact h) g6 g9 hn hfit hl hdg kk
theorem n_alenB (C : Cx p c cc nL s m args own E A) (hP : va_P E.1 clz ws H) (q0 : Nat) {M : Nat} {f : Nat → Int32} (ha : ws[q0]? = some (a, .inl (E.2.1, M, .inl f))) (hdg : decode cc pc = .ok (.arraylength, 1))
    (kk : W p l e R s m args below meth c H locs cells slots Q (F0 m (pc + 1) ls (.int (nI M) :: rest))) : W p l e R s m args below meth c H locs cells slots Q (F0 m pc ls (.ref a :: rest)) :=
  va_alen C.1 C.2.1 C.2.2.2.2.2.1 hP q0 0 ha rfl rfl hdg kk
theorem n_alenI (C : Cx p c cc nL s m args own E A) (hP : va_P E.1 clz ws H) (q0 : Nat) {M : Nat} {f : Nat → Int32} (ha : ws[q0]? = some (a, .inl (E.2.2.1, M, .inl f))) (hdg : decode cc pc = .ok (.arraylength, 1))
    (kk : W p l e R s m args below meth c H locs cells slots Q (F0 m (pc + 1) ls (.int (nI M) :: rest))) : W p l e R s m args below meth c H locs cells slots Q (F0 m pc ls (.ref a :: rest)) :=
  va_alen C.1 C.2.1 C.2.2.2.2.2.1 hP q0 1 ha rfl rfl hdg kk
theorem n_gets (C : Cx p c cc nL s m args own E A) {n d : String} (hlk : Cond.fieldLink own index Cn n d ∈ ALLW) (hZ : va_Z Cn n d v A s s.heap) (hS : va_S A s.heap H locs) (hdg : decode cc pc = .ok (.getstatic index, 3))
    (kk : W p l e R s m args below meth c H locs cells slots Q (F0 m (pc + 3) ls (v :: rest))) : W p l e R s m args below meth c H locs cells slots Q (F0 m pc ls rest) :=
  va_gets C.1 C.2.1 hZ hS C.2.2.2.1 (C.2.2.2.2.1 _ hlk) (fun _ h => h) hdg kk
theorem n_tab (C : Cx p c cc nL s m args own E A) {t M : Nat} {F : Nat → Int32} (hT : va_T .int t M (fun j => .int (F j)) A s s.heap) {i : Int32} (j : Nat) (hi : i = nI j) (hj : j < M) (hM : M < 2 ^ 31) (hS : va_S A s.heap H locs) (hdg : decode cc pc = .ok (.iaload, 1))
    (kk : W p l e R s m args below meth c H locs cells slots Q (F0 m (pc + 1) ls (.int (F j) :: rest))) : W p l e R s m args below meth c H locs cells slots Q (F0 m pc ls (.int i :: .ref t :: rest)) := by
  subst hi
  exact va_ti C.1 C.2.1 hT hS (vp_in_nI hj hM) (by show Value.int (F _) = _; rw [nI_clamp (by omega)]) hdg kk
theorem n_zast (C : Cx p c cc nL s m args own E A) (hP : va_P E.1 clz ws H) (hD : va_D A ws) (hS : va_S A s.heap H locs) (q0 : Nat) {M : Nat} {f : Nat → Int32} (ha : ws[q0]? = some (a, .inl (E.2.2.2.1, M, .inl f))) {i x : Int32} (j : Nat) (hi : i = nI j) (hz : narrow .boolean (.int x) = .int x) (hk : j < M) (hM : M < 2 ^ 31) (hdg : decode cc pc = .ok (.bastore, 1))
    (kk : ∀ (H1 : Heap) (locs1 : List Loc), va_P E.1 clz (ws.set q0 (a, .inl (E.2.2.2.1, M, .inl (upd f j x)))) H1 → va_D A (ws.set q0 (a, .inl (E.2.2.2.1, M, .inl (upd f j x)))) → va_S A s.heap H1 locs1 → W p l e R s m args below meth c H1 locs1 cells slots Q (F0 m (pc + 1) ls rest)) : W p l e R s m args below meth c H locs cells slots Q (F0 m pc ls (.int x :: .int i :: .ref a :: rest)) := by
  subst hi
  have hv : vp_nar .boolean x = x := by unfold vp_nar; rw [hz]
  refine va_zast C.1 C.2.1 C.2.2.2.2.2.1 hP hD hS q0 2 ha rfl (vp_in_nI hk hM) hdg ?_
  rw [nI_clamp (by omega), hv]
  exact kk
/-- System.arraycopy between byte rows of ours -/
theorem n_cpy (C : Cx p c cc nL s m args own E A) (hlk : Cond.methodLink own index arraycopyName ∈ ALLW ∧ Cond.native arraycopyName ∈ ALLW ∧ Cond.static arraycopyName ∈ ALLW ∧ Cond.initialized "java/lang/System" ∈ ALLW) (hP : va_P E.1 clz ws H) (hD : va_D A ws) (hS : va_S A s.heap H locs) (q0 q1 : Nat) {a0 n0 n1 : Nat} {f g : Nat → Int32} (ha0 : ws[q0]? = some (a0, .inl (E.2.1, n0, .inl f))) (ha1 : ws[q1]? = some (a, .inl (E.2.1, n1, .inl g)))
    {sp dp n : Int32} (i j k : Nat) (h1 : sp = nI i) (h2 : dp = nI j) (h3 : n = nI k) (h4 : i + k ≤ n0) (h5 : j + k ≤ n1) (hN : n0 < 2 ^ 31 ∧ n1 < 2 ^ 31) (hf : fB f) (hls : ls.size = nL)
    (hframes : 1 ≤ R.frames) (hlocals : (rest.map fun v => v.category).sum + (nativeFrameWords "java/lang/System" "arraycopy" 5 + 11) ≤ R.locals) (hdg : decode cc pc = .ok (.invokestatic index, 3))
    (kk : ∀ (H1 : Heap) (locs1 : List Loc), va_P E.1 clz (ws.set q1 (a, .inl (E.2.1, n1, .inl (va_cpy f g i j k)))) H1 → va_D A (ws.set q1 (a, .inl (E.2.1, n1, .inl (va_cpy f g i j k)))) → va_S A s.heap H1 locs1 → W p l e R s m args below meth c H1 locs1 cells slots Q (F0 m (pc + 3) ls rest)) : W p l e R s m args below meth c H locs cells slots Q (F0 m pc ls (.int n :: .int dp :: .ref a :: .int sp :: .ref a0 :: rest)) := by
  subst h1 h2 h3
  have e1 : (nI i).toNatClampNeg = i := nI_clamp (by omega)
  have e2 : (nI j).toNatClampNeg = j := nI_clamp (by omega)
  have e3 : (nI k).toNatClampNeg = k := nI_clamp (by omega)
  refine va_copyi C.1 C.2.1 (by rw [C.2.2.1, hls]) C.2.2.2.1 (C.2.2.2.2.1 _ hlk.1) (C.2.2.2.2.1 _ hlk.2.1) (C.2.2.2.2.1 _ hlk.2.2.1) (C.2.2.2.2.1 _ hlk.2.2.2) C.2.2.2.2.2.1 hP hD hS q0 q1 0 0 (ty := .byte) ha0 ha1 rfl rfl rfl (nI_pos (by omega)) (nI_pos (by omega)) (nI_pos (by omega)) (by rw [e1, e3]; exact h4) (by rw [e2, e3]; exact h5) (fun q _ => ?_) hframes hlocals hdg ?_
  · have := pk_fb (f ((nI i).toNatClampNeg + q))
    rw [show (f ((nI i).toNatClampNeg + q)).toInt8.toInt32 = f ((nI i).toNatClampNeg + q) from hf _] at this
    exact this
  · rw [e1, e2, e3]
    exact kk
end XF
end
section
/-! what a script does, on lists: a stack is a list of elements, the top first; an element a list of bytes with their sign -/
abbrev Byl : Type := List Int32
abbrev Stk : Type := List (List Int32)
def isT (x : Byl) : Bool := x.any (fun b => decide (¬ b = 0))
def numL (x : Byl) : Int32 := match x with
  | [] => nI 0
  | b :: r => r.foldl (fun v c => cm1 v (c &&& nI 255)) b
def numB (v : Int32) : Byl := if v = nI 0 then [] else [nb (us v (nI 24)), nb (us v (nI 16)), nb (us v (nI 8)), nb (us v (nI 0))]
def pushE (x : Byl) (S : Stk) : Option Stk := if S.length < 24 then some (x :: S) else none
def b2 (b : Bool) : Int32 := if b = true then nI 1 else nI 0
def shaL (x : Byl) : Byl := (List.range 32).map (shaF (fun j => x.getD j 0) x.length)
def hashL (x : Byl) : Byl := shaL (shaL x)
def sigL (msg key : Byl) : Byl := (hashL (key ++ msg)).take 8
/-- an element by its place, counted from the bottom -/
def el (S : Stk) (k : Nat) : Byl := S.reverse.getD k []
/-- how many signatures have met their keys behind k keys -/
def mtK (ok : Nat → Nat → Bool) (m : Nat) : Nat → Nat
  | 0 => 0
  | k + 1 => if mtK ok m k < m ∧ ok (mtK ok m k) k = true then mtK ok m k + 1 else mtK ok m k
def manyS (msg : Byl) (S : Stk) : Option Stk :=
  if S.length = 0 ∨ 4 < (el S (S.length - 1)).length then none else
  if numL (el S (S.length - 1)) < 0 ∨ nI 8 < numL (el S (S.length - 1)) then none else
  let n := (numL (el S (S.length - 1))).toNatClampNeg
  if S.length < n + 2 ∨ 4 < (el S (S.length - 2 - n)).length then none else
  if numL (el S (S.length - 2 - n)) < 0 ∨ numL (el S (S.length - 1)) < numL (el S (S.length - 2 - n)) then none else
  let m := (numL (el S (S.length - 2 - n))).toNatClampNeg
  if S.length < n + 2 + m then none else
  let o := S.length - 2 - n - m
  some (numB (b2 (decide (mtK (fun i k => decide (el S (o + i) = sigL msg (el S (S.length - 1 - n + k)))) m n = m))) :: S.drop (S.length - o))
def actS (op : Nat) (ht : Int32) (msg : Byl) (S : Stk) : Option Stk :=
  if op = 80 then (match S with | x :: _ => pushE x S | _ => none)
  else if op = 81 then (match S with | _ :: r => some r | _ => none)
  else if op = 82 then (match S with | x :: y :: r => some (y :: x :: r) | _ => none)
  else if op = 83 then (match S with | _ :: y :: _ => pushE y S | _ => none)
  else if op = 85 then (match S with | x :: _ => pushE (numB (nI x.length)) S | _ => none)
  else if op = 86 then (match S with | x :: y :: r => some (numB (b2 (decide (y = x))) :: r) | _ => none)
  else if op = 87 then (match S with | x :: r => if isT x = true then some r else none | _ => none)
  else if op = 88 then (match S with | x :: r => if x.length ≤ 4 then some (numB (b2 (decide (numL x = nI 0))) :: r) else none | _ => none)
  else if op = 89 then (match S with | x :: y :: r => if y.length ≤ 4 ∧ x.length ≤ 4 then some (numB (numL y + numL x) :: r) else none | _ => none)
  else if op = 90 then (match S with | x :: y :: r => if y.length ≤ 4 ∧ x.length ≤ 4 then some (numB (numL y - numL x) :: r) else none | _ => none)
  else if op = 91 then (match S with | x :: y :: r => if y.length ≤ 4 ∧ x.length ≤ 4 then some (numB (b2 (decide (numL y < numL x))) :: r) else none | _ => none)
  else if op = 92 then (match S with | x :: y :: r => some (numB (b2 (isT y && isT x)) :: r) | _ => none)
  else if op = 93 then (match S with | x :: r => some (shaL x :: r) | _ => none)
  else if op = 94 then (match S with | x :: r => some (hashL x :: r) | _ => none)
  else if op = 95 then (match S with | x :: y :: r => some (numB (b2 (decide (y = sigL msg x))) :: r) | _ => none)
  else if op = 96 then (match S with | x :: r => if x.length ≤ 4 ∧ numL x ≤ ht then some r else none | _ => none)
  else if op = 102 then pushE (numB (nI 1)) S
  else if op = 103 then manyS msg S
  else none
/-- the level of the outermost branch that shuts, 0 if none does; the innermost branch stands first -/
def shutS : List Bool → Nat
  | [] => 0
  | b :: r => if shutS r = 0 then (if b = true then 0 else r.length + 1) else shutS r
def byN (b : Int32) : Nat := (b &&& nI 255).toNatClampNeg
def execS (x : Byl) (ht : Int32) (msg : Byl) : Nat → Nat → List Bool → Stk → Option Stk
  | 0, _, _, _ => none
  | d + 1, p, bs, S =>
    if p < x.length then
      let op := byN (x.getD p 0)
      if op ≤ 75 then
        if p + 1 + op ≤ x.length then
          if shutS bs = 0 then
            (match pushE ((x.drop (p + 1)).take op) S with | some S' => execS x ht msg d (p + 1 + op) bs S' | none => none)
          else execS x ht msg d (p + 1 + op) bs S
        else none
      else if op = 97 ∨ op = 98 then
        if shutS bs = 0 then
          (match S with | y :: r => execS x ht msg d (p + 1) ((isT y != decide (op = 98)) :: bs) r | [] => none)
        else execS x ht msg d (p + 1) (false :: bs) S
      else if op = 99 then
        (match bs with | b :: r => execS x ht msg d (p + 1) ((!b) :: r) S | [] => none)
      else if op = 100 then
        (match bs with | _ :: r => execS x ht msg d (p + 1) r S | [] => none)
      else if shutS bs = 0 then
        (match actS op ht msg S with | some S' => execS x ht msg d (p + 1) bs S' | none => none)
      else execS x ht msg d (p + 1) bs S
    else if bs = [] then some S else none
def runS (x : Byl) (ht : Int32) (msg : Byl) (S : Stk) : Option Stk := execS x ht msg (x.length + 1) 0 [] S
/-- bytes lie in a row from a place on -/
def lay (f : Nat → Int32) (o : Nat) (x : Byl) : Prop := ∀ j, j < x.length → f (o + j) = x.getD j 0
/-- a stack lies in its rows -/
def rep (f sz : Nat → Int32) (S : Stk) : Prop := ∀ k, k < S.length → sz k = nI (el S k).length ∧ (el S k).length ≤ 80 ∧ lay f (k * 80) (el S k)
theorem el_top (x : Byl) (S : Stk) : el (x :: S) S.length = x := by
  simp [el, List.getD_eq_getElem?_getD]
theorem el_under (x : Byl) (S : Stk) {k : Nat} (h : k < S.length) : el (x :: S) k = el S k := by
  unfold el
  rw [List.reverse_cons, List.getD_eq_getElem?_getD, List.getD_eq_getElem?_getD, List.getElem?_append_left (by simpa using h)]
theorem el_drop (S : Stk) (d : Nat) {k : Nat} (h : k < S.length - d) : el (S.drop d) k = el S k := by
  induction d generalizing S with
  | zero => rfl
  | succ d ih =>
    cases S with
    | nil => simp at h
    | cons x S =>
      simp only [List.length_cons] at h
      rw [List.drop_succ_cons, ih S (by omega), el_under x S (by omega)]
theorem rep_nil (f sz : Nat → Int32) : rep f sz [] := fun k h => absurd h (Nat.not_lt_zero k)
theorem rep_congr {f g sz tz : Nat → Int32} {S : Stk} (h : rep f sz S) (hz : ∀ k, k < S.length → tz k = sz k) (hf : ∀ j, j < S.length * 80 → g j = f j) : rep g tz S := by
  intro k hk
  obtain ⟨h1, h2, h3⟩ := h k hk
  refine ⟨by rw [hz k hk]; exact h1, h2, fun j hj => ?_⟩
  rw [hf (k * 80 + j) (by omega)]
  exact h3 j hj
theorem rep_push {f sz : Nat → Int32} {S : Stk} {x : Byl} (h : rep f sz S) (h1 : sz S.length = nI x.length) (h2 : x.length ≤ 80) (h3 : lay f (S.length * 80) x) : rep f sz (x :: S) := by
  intro k hk
  simp only [List.length_cons] at hk
  by_cases e : k = S.length
  · subst e
    rw [el_top]
    exact ⟨h1, h2, h3⟩
  · rw [el_under x S (by omega)]
    exact h k (by omega)
theorem rep_tail {f sz : Nat → Int32} {S : Stk} {x : Byl} (h : rep f sz (x :: S)) : rep f sz S := by
  intro k hk
  have := h k (by simp only [List.length_cons]; omega)
  rw [el_under x S hk] at this
  exact this
theorem rep_drop {f sz : Nat → Int32} {S : Stk} (d : Nat) (h : rep f sz S) : rep f sz (S.drop d) := by
  intro k hk
  simp only [List.length_drop] at hk
  rw [el_drop S d hk]
  exact h k (by omega)
theorem rep_top {f sz : Nat → Int32} {S : Stk} {x : Byl} (h : rep f sz (x :: S)) : sz S.length = nI x.length ∧ x.length ≤ 80 ∧ lay f (S.length * 80) x := by
  have := h S.length (by simp)
  rw [el_top] at this
  exact this
end
section
theorem b2_t {B : Bool} (h : B = true) : nI 1 = b2 B := by subst h; rfl
theorem b2_f {B : Bool} (h : B = false) : nI 0 = b2 B := by subst h; rfl
theorem b2_nar (B : Bool) : narrow .boolean (.int (b2 B)) = .int (b2 B) := by cases B <;> rfl
section XB
variable {p : Program} {l : Launch} {e : Env} {R : Room} {s : State} {m : MethodId} {args : Array Value} {below : List Frame} {meth : Method} {c : Code} {H : Heap} {locs : List Loc} {Q : State → Prop}
variable {cc : ByteArray} {pc nL : Nat} {ls : Array Slot} {rest : List Value} {E : En} {A : Nat → Prop} {own : String}
theorem j_eq (C : Cx p c cc nL s m args own E A) {x y : Int32} (a b : Nat) (hx : x = nI a) (hy : y = nI b) (ha : a < 2 ^ 31) (hb : b < 2 ^ 31) {off : Int} {tgt : Nat} (hdg : decode cc pc = .ok (.if_icmp .eq off, 3)) (ht : (pc : Int) + off = (tgt : Int)) (kt : a = b → W p l e R s m args below meth c H locs 0 0 Q (F0 m tgt ls rest)) (kf : ¬ a = b → W p l e R s m args below meth c H locs 0 0 Q (F0 m (pc + 3) ls rest)) : W p l e R s m args below meth c H locs 0 0 Q (F0 m pc ls (.int y :: .int x :: rest)) := by
  subst hx hy
  refine lv_icmp_eq C.1 C.2.1 hdg ht (fun h => kt ?_) (fun h => kf ?_)
  · simp only [nI_eq ha hb, nI_eq hb ha, nI_ltI ha hb, nI_ltI hb ha, nI_leI ha hb, nI_leI hb ha] at h; omega
  · simp only [nI_eq ha hb, nI_eq hb ha, nI_ltI ha hb, nI_ltI hb ha, nI_leI ha hb, nI_leI hb ha] at h; omega
theorem j_ne (C : Cx p c cc nL s m args own E A) {x y : Int32} (a b : Nat) (hx : x = nI a) (hy : y = nI b) (ha : a < 2 ^ 31) (hb : b < 2 ^ 31) {off : Int} {tgt : Nat} (hdg : decode cc pc = .ok (.if_icmp .ne off, 3)) (ht : (pc : Int) + off = (tgt : Int)) (kt : ¬ a = b → W p l e R s m args below meth c H locs 0 0 Q (F0 m tgt ls rest)) (kf : a = b → W p l e R s m args below meth c H locs 0 0 Q (F0 m (pc + 3) ls rest)) : W p l e R s m args below meth c H locs 0 0 Q (F0 m pc ls (.int y :: .int x :: rest)) := by
  subst hx hy
  refine lv_icmp_ne C.1 C.2.1 hdg ht (fun h => kt ?_) (fun h => kf ?_)
  · simp only [nI_eq ha hb, nI_eq hb ha, nI_ltI ha hb, nI_ltI hb ha, nI_leI ha hb, nI_leI hb ha] at h; omega
  · simp only [nI_eq ha hb, nI_eq hb ha, nI_ltI ha hb, nI_ltI hb ha, nI_leI ha hb, nI_leI hb ha] at h; omega
theorem j_lt (C : Cx p c cc nL s m args own E A) {x y : Int32} (a b : Nat) (hx : x = nI a) (hy : y = nI b) (ha : a < 2 ^ 31) (hb : b < 2 ^ 31) {off : Int} {tgt : Nat} (hdg : decode cc pc = .ok (.if_icmp .lt off, 3)) (ht : (pc : Int) + off = (tgt : Int)) (kt : a < b → W p l e R s m args below meth c H locs 0 0 Q (F0 m tgt ls rest)) (kf : b ≤ a → W p l e R s m args below meth c H locs 0 0 Q (F0 m (pc + 3) ls rest)) : W p l e R s m args below meth c H locs 0 0 Q (F0 m pc ls (.int y :: .int x :: rest)) := by
  subst hx hy
  refine lv_icmp_lt C.1 C.2.1 hdg ht (fun h => kt ?_) (fun h => kf ?_)
  · simp only [nI_eq ha hb, nI_eq hb ha, nI_ltI ha hb, nI_ltI hb ha, nI_leI ha hb, nI_leI hb ha] at h; omega
  · simp only [nI_eq ha hb, nI_eq hb ha, nI_ltI ha hb, nI_ltI hb ha, nI_leI ha hb, nI_leI hb ha] at h; omega
theorem j_ge (C : Cx p c cc nL s m args own E A) {x y : Int32} (a b : Nat) (hx : x = nI a) (hy : y = nI b) (ha : a < 2 ^ 31) (hb : b < 2 ^ 31) {off : Int} {tgt : Nat} (hdg : decode cc pc = .ok (.if_icmp .ge off, 3)) (ht : (pc : Int) + off = (tgt : Int)) (kt : b ≤ a → W p l e R s m args below meth c H locs 0 0 Q (F0 m tgt ls rest)) (kf : a < b → W p l e R s m args below meth c H locs 0 0 Q (F0 m (pc + 3) ls rest)) : W p l e R s m args below meth c H locs 0 0 Q (F0 m pc ls (.int y :: .int x :: rest)) := by
  subst hx hy
  refine lv_icmp_ge C.1 C.2.1 hdg ht (fun h => kt ?_) (fun h => kf ?_)
  · simp only [nI_eq ha hb, nI_eq hb ha, nI_ltI ha hb, nI_ltI hb ha, nI_leI ha hb, nI_leI hb ha] at h; omega
  · simp only [nI_eq ha hb, nI_eq hb ha, nI_ltI ha hb, nI_ltI hb ha, nI_leI ha hb, nI_leI hb ha] at h; omega
theorem j_gt (C : Cx p c cc nL s m args own E A) {x y : Int32} (a b : Nat) (hx : x = nI a) (hy : y = nI b) (ha : a < 2 ^ 31) (hb : b < 2 ^ 31) {off : Int} {tgt : Nat} (hdg : decode cc pc = .ok (.if_icmp .gt off, 3)) (ht : (pc : Int) + off = (tgt : Int)) (kt : b < a → W p l e R s m args below meth c H locs 0 0 Q (F0 m tgt ls rest)) (kf : a ≤ b → W p l e R s m args below meth c H locs 0 0 Q (F0 m (pc + 3) ls rest)) : W p l e R s m args below meth c H locs 0 0 Q (F0 m pc ls (.int y :: .int x :: rest)) := by
  subst hx hy
  refine lv_icmp_gt C.1 C.2.1 hdg ht (fun h => kt ?_) (fun h => kf ?_)
  · simp only [nI_eq ha hb, nI_eq hb ha, nI_ltI ha hb, nI_ltI hb ha, nI_leI ha hb, nI_leI hb ha] at h; omega
  · simp only [nI_eq ha hb, nI_eq hb ha, nI_ltI ha hb, nI_ltI hb ha, nI_leI ha hb, nI_leI hb ha] at h; omega
theorem j_le (C : Cx p c cc nL s m args own E A) {x y : Int32} (a b : Nat) (hx : x = nI a) (hy : y = nI b) (ha : a < 2 ^ 31) (hb : b < 2 ^ 31) {off : Int} {tgt : Nat} (hdg : decode cc pc = .ok (.if_icmp .le off, 3)) (ht : (pc : Int) + off = (tgt : Int)) (kt : a ≤ b → W p l e R s m args below meth c H locs 0 0 Q (F0 m tgt ls rest)) (kf : b < a → W p l e R s m args below meth c H locs 0 0 Q (F0 m (pc + 3) ls rest)) : W p l e R s m args below meth c H locs 0 0 Q (F0 m pc ls (.int y :: .int x :: rest)) := by
  subst hx hy
  refine lv_icmp_le C.1 C.2.1 hdg ht (fun h => kt ?_) (fun h => kf ?_)
  · simp only [nI_eq ha hb, nI_eq hb ha, nI_ltI ha hb, nI_ltI hb ha, nI_leI ha hb, nI_leI hb ha] at h; omega
  · simp only [nI_eq ha hb, nI_eq hb ha, nI_ltI ha hb, nI_ltI hb ha, nI_leI ha hb, nI_leI hb ha] at h; omega
theorem z_eq (C : Cx p c cc nL s m args own E A) {x : Int32} (a : Nat) (hx : x = nI a) (ha : a < 2 ^ 31) {off : Int} {tgt : Nat} (hdg : decode cc pc = .ok (.ifCond .eq off, 3)) (ht : (pc : Int) + off = (tgt : Int)) (kt : a = 0 → W p l e R s m args below meth c H locs 0 0 Q (F0 m tgt ls rest)) (kf : ¬ a = 0 → W p l e R s m args below meth c H locs 0 0 Q (F0 m (pc + 3) ls rest)) : W p l e R s m args below meth c H locs 0 0 Q (F0 m pc ls (.int x :: rest)) := by
  subst hx
  have h0 : (0 : Int32) = nI 0 := rfl
  refine lv_if_eq C.1 C.2.1 hdg ht (fun h => kt ?_) (fun h => kf ?_)
  · rw [h0, nI_eq ha (by omega)] at h; omega
  · rw [h0, nI_eq ha (by omega)] at h; omega
theorem z_ne (C : Cx p c cc nL s m args own E A) {x : Int32} (a : Nat) (hx : x = nI a) (ha : a < 2 ^ 31) {off : Int} {tgt : Nat} (hdg : decode cc pc = .ok (.ifCond .ne off, 3)) (ht : (pc : Int) + off = (tgt : Int)) (kt : ¬ a = 0 → W p l e R s m args below meth c H locs 0 0 Q (F0 m tgt ls rest)) (kf : a = 0 → W p l e R s m args below meth c H locs 0 0 Q (F0 m (pc + 3) ls rest)) : W p l e R s m args below meth c H locs 0 0 Q (F0 m pc ls (.int x :: rest)) := by
  subst hx
  have h0 : (0 : Int32) = nI 0 := rfl
  refine lv_if_ne C.1 C.2.1 hdg ht (fun h => kt ?_) (fun h => kf ?_)
  · rw [h0, nI_eq ha (by omega)] at h; omega
  · rw [h0, nI_eq ha (by omega)] at h; omega
theorem zb_eq (C : Cx p c cc nL s m args own E A) {x : Int32} (B : Bool) (hx : x = b2 B) {off : Int} {tgt : Nat} (hdg : decode cc pc = .ok (.ifCond .eq off, 3)) (ht : (pc : Int) + off = (tgt : Int)) (kt : B = false → W p l e R s m args below meth c H locs 0 0 Q (F0 m tgt ls rest)) (kf : B = true → W p l e R s m args below meth c H locs 0 0 Q (F0 m (pc + 3) ls rest)) : W p l e R s m args below meth c H locs 0 0 Q (F0 m pc ls (.int x :: rest)) := by
  subst hx
  refine lv_if_eq C.1 C.2.1 hdg ht (fun h => kt ?_) (fun h => kf ?_)
  · cases B <;> first | rfl | exact absurd h (by decide)
  · cases B <;> first | rfl | exact absurd h (by decide)
theorem zb_ne (C : Cx p c cc nL s m args own E A) {x : Int32} (B : Bool) (hx : x = b2 B) {off : Int} {tgt : Nat} (hdg : decode cc pc = .ok (.ifCond .ne off, 3)) (ht : (pc : Int) + off = (tgt : Int)) (kt : B = true → W p l e R s m args below meth c H locs 0 0 Q (F0 m tgt ls rest)) (kf : B = false → W p l e R s m args below meth c H locs 0 0 Q (F0 m (pc + 3) ls rest)) : W p l e R s m args below meth c H locs 0 0 Q (F0 m pc ls (.int x :: rest)) := by
  subst hx
  refine lv_if_ne C.1 C.2.1 hdg ht (fun h => kt ?_) (fun h => kf ?_)
  · cases B <;> first | rfl | exact absurd h (by decide)
  · cases B <;> first | rfl | exact absurd h (by decide)
end XB
end
section
def bt (x : Int32) (i : Nat) : Bool := x.toBitVec.getLsbD i
theorem b_ext {x y : Int32} (h : ∀ i, i < 32 → bt x i = bt y i) : x = y := Int32.toBitVec_inj.mp (BitVec.eq_of_getLsbD_eq (fun i hi => h i hi))
theorem b_or (x y : Int32) (i : Nat) : bt (x ||| y) i = (bt x i || bt y i) := by unfold bt; rw [Int32.toBitVec_or, BitVec.getLsbD_or]
theorem b_and (x y : Int32) (i : Nat) : bt (x &&& y) i = (bt x i && bt y i) := by unfold bt; rw [Int32.toBitVec_and, BitVec.getLsbD_and]
theorem b_xor (x y : Int32) (i : Nat) : bt (x ^^^ y) i = (bt x i ^^ bt y i) := by unfold bt; rw [Int32.toBitVec_xor, BitVec.getLsbD_xor]
theorem b_big {x : Int32} {i : Nat} (h : 32 ≤ i) : bt x i = false := BitVec.getLsbD_of_ge _ _ h
theorem b_255 (i : Nat) : bt 255 i = decide (i < 8) := by
  rcases Nat.lt_or_ge i 32 with h | h
  · exact (by decide +kernel : ∀ i, i < 32 → bt 255 i = decide (i < 8)) i h
  · rw [b_big h, decide_eq_false (by omega)]
theorem b_65535 (i : Nat) : bt 65535 i = decide (i < 16) := by
  rcases Nat.lt_or_ge i 32 with h | h
  · exact (by decide +kernel : ∀ i, i < 32 → bt 65535 i = decide (i < 16)) i h
  · rw [b_big h, decide_eq_false (by omega)]
theorem b_m1 : ∀ i, i < 32 → bt (-1) i = true := by decide +kernel
theorem b_0 (i : Nat) : bt 0 i = false := BitVec.getLsbD_zero
theorem s_l : ∀ n, n < 32 → ((nI n &&& 31).toBitVec.smod 32).toNat = n := by decide +kernel
theorem s_u : ∀ n, n < 32 → (((nI n).toUInt32 &&& Int32.toUInt32 31).toBitVec % 32).toNat = n := by decide +kernel
theorem b_shl (n : Nat) (hn : n < 32) (x : Int32) {i : Nat} (hi : i < 32) : bt (x <<< (nI n &&& 31)) i = (decide (n ≤ i) && bt x (i - n)) := by
  unfold bt
  rw [Int32.toBitVec_shiftLeft]
  show (x.toBitVec <<< ((nI n &&& 31).toBitVec.smod 32).toNat).getLsbD i = _
  rw [s_l n hn, BitVec.getLsbD_shiftLeft]
  rcases Nat.lt_or_ge i n with h | h
  · simp [h, Nat.not_le.mpr h]
  · simp [hi, h, Nat.not_lt.mpr h]
theorem b_ushr (n : Nat) (hn : n < 32) (x : Int32) (i : Nat) : bt ((x.toUInt32 >>> ((nI n).toUInt32 &&& Int32.toUInt32 31)).toInt32) i = bt x (n + i) := by
  show (x.toUInt32 >>> ((nI n).toUInt32 &&& Int32.toUInt32 31)).toBitVec.getLsbD i = x.toUInt32.toBitVec.getLsbD (n + i)
  rw [UInt32.toBitVec_shiftRight]
  show (x.toUInt32.toBitVec >>> (((nI n).toUInt32 &&& Int32.toUInt32 31).toBitVec % 32).toNat).getLsbD i = _
  rw [s_u n hn, BitVec.getLsbD_ushiftRight]
theorem b_sshr (n : Nat) (hn : n < 32) (x : Int32) {i : Nat} (hi : i < 32) : bt (x >>> (nI n &&& 31)) i = if n + i < 32 then bt x (n + i) else bt x 31 := by
  unfold bt
  rw [Int32.toBitVec_shiftRight]
  show (x.toBitVec.sshiftRight ((nI n &&& 31).toBitVec.smod 32).toNat).getLsbD i = _
  rw [s_l n hn, BitVec.getLsbD_sshiftRight, BitVec.msb_eq_getLsbD_last]
  simp [hi]
theorem bt_cm1 (w v : Int32) {i : Nat} (hi : i < 32) : bt (cm1 w v) i = ((decide (8 ≤ i) && bt w (i - 8)) || bt v i) := by
  unfold cm1 sl
  rw [b_or, b_shl 8 (by omega) w hi]
theorem cm1_kill (w w' v0 v1 v2 v3 : Int32) : cm1 (cm1 (cm1 (cm1 w v0) v1) v2) v3 = cm1 (cm1 (cm1 (cm1 w' v0) v1) v2) v3 := by
  apply b_ext
  intro i hi
  rw [bt_cm1 _ _ hi, bt_cm1 _ _ (by omega), bt_cm1 _ _ (by omega), bt_cm1 _ _ (by omega), bt_cm1 _ _ hi, bt_cm1 _ _ (by omega), bt_cm1 _ _ (by omega), bt_cm1 _ _ (by omega), decide_eq_false (show ¬ 8 ≤ i - 8 - 8 - 8 by omega)]
  simp
/-- the words behind i bytes of a block, loaded over old ones -/
def ldW (b : Nat → Int32) (n j : Nat) (w : Nat → Int32) : Nat → Nat → Int32
  | 0 => w
  | i + 1 => upd (ldW b n j w i) (i / 4) (cm1 (ldW b n j w i (i / 4)) (pv b n (j * 64 + i)))
theorem ldW_keep {b : Nat → Int32} {n j : Nat} {w : Nat → Int32} {k : Nat} (i : Nat) : ∀ d, (∀ q, i ≤ q → q < i + d → q / 4 ≠ k) → ldW b n j w (i + d) k = ldW b n j w i k := by
  intro d
  induction d with
  | zero => intro _; rfl
  | succ d ih =>
    intro h
    show upd (ldW b n j w (i + d)) ((i + d) / 4) _ k = _
    unfold upd
    rw [if_neg (Ne.symm (h (i + d) (by omega) (by omega)))]
    exact ih (fun q h1 h2 => h q h1 (by omega))
theorem ldW_one {b : Nat → Int32} {n j : Nat} {w : Nat → Int32} {k : Nat} (i : Nat) (h : i / 4 = k) : ldW b n j w (i + 1) k = cm1 (ldW b n j w i k) (pv b n (j * 64 + i)) := by
  show upd _ _ _ k = _
  unfold upd
  rw [if_pos h.symm, h]
theorem ldW_all {b : Nat → Int32} {n j : Nat} {w : Nat → Int32} {k : Nat} (hk : k < 16) : ldW b n j w 64 k = wd b n j k := by
  have h1 : ldW b n j w 64 k = ldW b n j w (4 * k + 4) k := by
    have := ldW_keep (b := b) (n := n) (j := j) (w := w) (k := k) (4 * k + 4) (64 - (4 * k + 4)) (fun q h1 h2 => by omega)
    rw [show 4 * k + 4 + (64 - (4 * k + 4)) = 64 by omega] at this
    exact this
  rw [h1, ldW_one (4 * k + 3) (by omega), ldW_one (4 * k + 2) (by omega), ldW_one (4 * k + 1) (by omega), ldW_one (4 * k) (by omega)]
  unfold wd
  rw [cm1_kill _ (nI 0)]
  simp only [Nat.add_assoc]
theorem bt_nI (n : Nat) {i : Nat} (hi : i < 32) : bt (nI n) i = n.testBit i := by
  unfold bt nI
  show (BitVec.ofNat 32 n).getLsbD i = _
  rw [BitVec.getLsbD_ofNat]
  simp [hi]
/-- a word out of its four bytes -/
theorem cm1_word {x : Nat} : cm1 (cm1 (cm1 (cm1 (nI 0) (nI (x / 16777216 % 256))) (nI (x / 65536 % 256))) (nI (x / 256 % 256))) (nI (x % 256)) = nI x := by
  apply b_ext
  intro i hi
  have hb : ∀ (s i : Nat), (x / 2 ^ s % 2 ^ 8).testBit i = (decide (i < 8) && x.testBit (s + i)) := by
    intro s i
    rw [Nat.testBit_mod_two_pow, Nat.testBit_div_two_pow, Nat.add_comm]
  have h24 := hb 24
  have h16 := hb 16
  have h8 := hb 8
  have h0 := hb 0
  simp only [Nat.reducePow, Nat.div_one, Nat.zero_add] at h24 h16 h8 h0
  rw [bt_cm1 _ _ hi, bt_cm1 _ _ (by omega), bt_cm1 _ _ (by omega), bt_cm1 _ _ (by omega), bt_nI _ hi, bt_nI _ hi, bt_nI _ (by omega), bt_nI _ (by omega), bt_nI _ (by omega), bt_nI _ (by omega), h24, h16, h8, h0, decide_eq_false (show ¬ 8 ≤ i - 8 - 8 - 8 by omega)]
  by_cases c1 : i < 8
  · simp [c1, Nat.not_le.mpr c1]
  · by_cases c2 : i < 16
    · rw [decide_eq_true (show 8 ≤ i by omega), decide_eq_false (show ¬ i < 8 by omega), decide_eq_false (show ¬ 8 ≤ i - 8 by omega), decide_eq_true (show i - 8 < 8 by omega), show 8 + (i - 8) = i by omega]
      simp
    · by_cases c3 : i < 24
      · rw [decide_eq_true (show 8 ≤ i by omega), decide_eq_false (show ¬ i < 8 by omega), decide_eq_true (show 8 ≤ i - 8 by omega), decide_eq_false (show ¬ i - 8 < 8 by omega), decide_eq_false (show ¬ 8 ≤ i - 8 - 8 by omega), decide_eq_true (show i - 8 - 8 < 8 by omega), show 16 + (i - 8 - 8) = i by omega]
        simp
      · rw [decide_eq_true (show 8 ≤ i by omega), decide_eq_false (show ¬ i < 8 by omega), decide_eq_true (show 8 ≤ i - 8 by omega), decide_eq_false (show ¬ i - 8 < 8 by omega), decide_eq_true (show 8 ≤ i - 8 - 8 by omega), decide_eq_false (show ¬ i - 8 - 8 < 8 by omega), decide_eq_true (show i - 8 - 8 - 8 < 8 by omega), show 24 + (i - 8 - 8 - 8) = i by omega]
        simp
end
section
theorem fg_SS_14 : FG RSS 14 6 0 RSS TSS 9 := ⟨in_SS, rfl, by decide, al1 131 rfl rfl, rfl⟩
theorem fg_SS_18 : FG RSS 18 6 1 RSS TSS 9 := ⟨in_SS, rfl, by decide, al1 132 rfl rfl, rfl⟩
theorem fg_SS_21 : FG RSS 21 6 2 RSS TSS 9 := ⟨in_SS, rfl, by decide, al1 133 rfl rfl, rfl⟩
theorem fg_SS_24 : FG RSS 24 6 3 RSS TSS 9 := ⟨in_SS, rfl, by decide, al1 134 rfl rfl, rfl⟩
theorem fg_SS_30 : FG RSS 30 6 4 RSS TSS 9 := ⟨in_SS, rfl, by decide, al1 135 rfl rfl, rfl⟩
theorem fg_SS_34 : FG RSS 34 3 0 RRun TRun 4 := ⟨in_Run, rfl, by decide, al1 117 rfl rfl, rfl⟩
theorem fg_SS_38 : FG RSS 38 6 5 RSS TSS 9 := ⟨in_SS, rfl, by decide, al1 136 rfl rfl, rfl⟩
theorem fg_SS_39 : FG RSS 39 3 1 RRun TRun 4 := ⟨in_Run, rfl, by decide, al1 119 rfl rfl, rfl⟩
theorem fg_SS_43 : FG RSS 43 6 6 RSS TSS 9 := ⟨in_SS, rfl, by decide, al1 137 rfl rfl, rfl⟩
theorem fg_SS_44 : FG RSS 44 5 2 RSig TSig 4 := ⟨in_Sig, rfl, by decide, al1 92 rfl rfl, rfl⟩
theorem fg_SS_50 : FG RSS 50 6 7 RSS TSS 9 := ⟨in_SS, rfl, by decide, al1 138 rfl rfl, rfl⟩
theorem fg_SS_51 : FG RSS 51 6 8 RSS TSS 9 := ⟨in_SS, rfl, by decide, al1 139 rfl rfl, rfl⟩
theorem fp_SS_51 : FP RSS 51 6 8 RSS TSS 9 .boolean := ⟨fg_SS_51, rfl, ⟨tySS, tyok_SS⟩, nm_SS, by decide +kernel⟩
theorem lk_SS_55 : VCall RSS 55 y_Row_hasRoomFor b_Row_hasRoomFor 2 (some .boolean) 1 := ⟨al1 163 rfl rfl, al1 164 rfl rfl, al1 165 rfl rfl, al1 2 rfl rfl, al1 166 rfl rfl, by decide, by decide, by decide +kernel⟩
theorem lk_SS_59 : VCall RSS 59 y_Row_addWord b_Row_addWord 2 none 1 := ⟨al1 167 rfl rfl, al1 168 rfl rfl, al1 169 rfl rfl, al1 2 rfl rfl, al1 170 rfl rfl, by decide, by decide, by decide +kernel⟩
theorem fg_SS_62 : FG RSS 62 2 1 RRow TRow 2 := ⟨in_Row, rfl, by decide, al1 30 rfl rfl, rfl⟩
theorem fp_SS_62 : FP RSS 62 2 1 RRow TRow 2 .int := ⟨fg_SS_62, rfl, ⟨tyRow, tyok_Row⟩, nm_Row, by decide +kernel⟩
theorem fg_SS_66 : FG RSS 66 2 0 RRow TRow 2 := ⟨in_Row, rfl, by decide, al1 27 rfl rfl, rfl⟩
theorem lk_SS_70 : VCall RSS 70 y_Row_become b_Row_become 3 none 2 := ⟨al1 183 rfl rfl, al1 184 rfl rfl, al1 185 rfl rfl, al1 2 rfl rfl, al1 186 rfl rfl, by decide, by decide, by decide +kernel⟩
theorem fg_SS_74 : FG RSS 74 5 0 RSig TSig 4 := ⟨in_Sig, rfl, by decide, al1 86 rfl rfl, rfl⟩
theorem lk_SS_77 : VCall RSS 77 y_Sha_hash b_Sha_hash 6 none 5 := ⟨al1 197 rfl rfl, al1 198 rfl rfl, al1 199 rfl rfl, al1 6 rfl rfl, al1 200 rfl rfl, by decide, by decide, by decide +kernel⟩
theorem fg_SS_83 : FG RSS 83 1 2 REl TEl 3 := ⟨in_El, rfl, by decide, al1 57 rfl rfl, rfl⟩
theorem fp_SS_83 : FP RSS 83 1 2 REl TEl 3 .int := ⟨fg_SS_83, rfl, ⟨tyEl, tyok_El⟩, nm_El, by decide +kernel⟩
theorem lk_SS_88 : VCall RSS 88 y_Run_runScript b_Run_runScript 6 (some .boolean) 2 := ⟨al1 226 rfl rfl, al1 227 rfl rfl, al1 228 rfl rfl, al1 3 rfl rfl, al1 229 rfl rfl, by decide, by decide, by decide +kernel⟩
theorem lk_SS_92 : VCall RSS 92 y_El_isTrue b_El_isTrue 4 (some .boolean) 1 := ⟨al2 111 rfl rfl, al2 25 rfl rfl, al2 26 rfl rfl, al1 4 rfl rfl, al2 27 rfl rfl, by decide, by decide, by decide +kernel⟩
theorem lk_SS_95 : VCall RSS 95 y_El_has b_El_has 2 (some .boolean) 1 := ⟨al2 120 rfl rfl, al2 29 rfl rfl, al2 30 rfl rfl, al1 4 rfl rfl, al2 31 rfl rfl, by decide, by decide, by decide +kernel⟩
theorem fg_SS_98 : FG RSS 98 1 1 REl TEl 3 := ⟨in_El, rfl, by decide, al1 54 rfl rfl, rfl⟩
theorem fg_SS_102 : FG RSS 102 1 0 REl TEl 3 := ⟨in_El, rfl, by decide, al1 51 rfl rfl, rfl⟩
theorem lk_SS_103 : VCall RSS 103 y_El_place b_El_place 2 (some .int) 1 := ⟨al2 121 rfl rfl, al2 3 rfl rfl, al2 4 rfl rfl, al1 4 rfl rfl, al2 5 rfl rfl, by decide, by decide, by decide +kernel⟩
theorem lk_SS_107 : VCall RSS 107 y_Sha_digest b_Sha_digest 8 none 5 := ⟨al2 126 rfl rfl, al1 202 rfl rfl, al1 203 rfl rfl, al1 6 rfl rfl, al1 204 rfl rfl, by decide, by decide, by decide +kernel⟩
theorem lk_SS_110 : VCall RSS 110 y_Sig_make b_Sig_make 4 none 3 := ⟨al2 131 rfl rfl, al2 98 rfl rfl, al2 99 rfl rfl, al1 5 rfl rfl, al2 100 rfl rfl, by decide, by decide, by decide +kernel⟩
theorem fg_SS_114 : FG RSS 114 5 1 RSig TSig 4 := ⟨in_Sig, rfl, by decide, al1 89 rfl rfl, rfl⟩
theorem lk_SS_117 : VCall RSS 117 y_Row_addByte b_Row_addByte 2 none 1 := ⟨al2 136 rfl rfl, al1 172 rfl rfl, al1 173 rfl rfl, al1 2 rfl rfl, al1 174 rfl rfl, by decide, by decide, by decide +kernel⟩
theorem fg_Mod_7 : FG RMod 7 7 0 RMod TMod 17 := ⟨in_Mod, rfl, by decide, al2 147 rfl rfl, rfl⟩
theorem fg_Mod_13 : FG RMod 13 7 2 RMod TMod 17 := ⟨in_Mod, rfl, by decide, al2 149 rfl rfl, rfl⟩
theorem fg_Mod_16 : FG RMod 16 7 4 RMod TMod 17 := ⟨in_Mod, rfl, by decide, al2 151 rfl rfl, rfl⟩
theorem fg_Mod_19 : FG RMod 19 7 5 RMod TMod 17 := ⟨in_Mod, rfl, by decide, al2 152 rfl rfl, rfl⟩
theorem fg_Mod_23 : FG RMod 23 7 6 RMod TMod 17 := ⟨in_Mod, rfl, by decide, al2 153 rfl rfl, rfl⟩
theorem fg_Mod_26 : FG RMod 26 7 7 RMod TMod 17 := ⟨in_Mod, rfl, by decide, al2 154 rfl rfl, rfl⟩
theorem fg_Mod_29 : FG RMod 29 7 8 RMod TMod 17 := ⟨in_Mod, rfl, by decide, al2 155 rfl rfl, rfl⟩
theorem fg_Mod_32 : FG RMod 32 7 9 RMod TMod 17 := ⟨in_Mod, rfl, by decide, al2 156 rfl rfl, rfl⟩
theorem fg_Mod_35 : FG RMod 35 7 10 RMod TMod 17 := ⟨in_Mod, rfl, by decide, al2 157 rfl rfl, rfl⟩
theorem fg_Mod_38 : FG RMod 38 7 11 RMod TMod 17 := ⟨in_Mod, rfl, by decide, al2 158 rfl rfl, rfl⟩
theorem fg_Mod_41 : FG RMod 41 7 12 RMod TMod 17 := ⟨in_Mod, rfl, by decide, al2 159 rfl rfl, rfl⟩
theorem fg_Mod_44 : FG RMod 44 7 13 RMod TMod 17 := ⟨in_Mod, rfl, by decide, al2 160 rfl rfl, rfl⟩
theorem fg_Mod_47 : FG RMod 47 7 16 RMod TMod 17 := ⟨in_Mod, rfl, by decide, al2 163 rfl rfl, rfl⟩
theorem fl_Mod_51 : Cond.fieldLink RMod 51 RMod "K" "[I" ∈ ALLW := al2 235 rfl rfl
theorem fl_Mod_54 : Cond.fieldLink RMod 54 RMod "START" "[I" ∈ ALLW := al2 228 rfl rfl
theorem lk_Mod_59 : VCall RMod 59 y_Mod_round b_Mod_round 12 none 0 := ⟨al2 231 rfl rfl, al2 233 rfl rfl, als 13 rfl rfl, al1 8 rfl rfl, al2 234 rfl rfl, by decide, by decide, by decide +kernel⟩
theorem lk_Mod_62 : VCall RMod 62 y_Mod_sha5 b_Mod_sha5 13 none 5 := ⟨al2 224 rfl rfl, al2 226 rfl rfl, als 12 rfl rfl, al1 8 rfl rfl, al2 227 rfl rfl, by decide, by decide, by decide +kernel⟩
theorem fg_Mod_66 : FG RMod 66 7 14 RMod TMod 17 := ⟨in_Mod, rfl, by decide, al2 161 rfl rfl, rfl⟩
theorem fp_Mod_66 : FP RMod 66 7 14 RMod TMod 17 .int := ⟨fg_Mod_66, rfl, ⟨tyMod, tyok_Mod⟩, nm_Mod, by decide +kernel⟩
theorem lk_Mod_70 : VCall RMod 70 y_Mod_push b_Mod_push 5 (some .boolean) 3 := ⟨al3 5 rfl rfl, al3 7 rfl rfl, als 15 rfl rfl, al1 8 rfl rfl, al3 8 rfl rfl, by decide, by decide, by decide +kernel⟩
theorem lk_Mod_74 : VCall RMod 74 y_Mod_hash b_Mod_hash 6 none 5 := ⟨al2 220 rfl rfl, al2 222 rfl rfl, als 11 rfl rfl, al1 8 rfl rfl, al2 223 rfl rfl, by decide, by decide, by decide +kernel⟩
theorem lk_Mod_77 : SCall RMod 77 y_Mod_same b_Mod_same 6 (some .boolean) 5 := ⟨al3 25 rfl rfl, al3 26 rfl rfl, al1 8 rfl rfl, al3 27 rfl rfl, by decide, by decide, by decide +kernel⟩
theorem lk_Mod_81 : VCall RMod 81 y_Mod_numberOf b_Mod_numberOf 4 (some .int) 1 := ⟨al3 17 rfl rfl, al3 19 rfl rfl, als 18 rfl rfl, al1 8 rfl rfl, al3 20 rfl rfl, by decide, by decide, by decide +kernel⟩
theorem lk_Mod_85 : VCall RMod 85 y_Mod_signed b_Mod_signed 4 (some .boolean) 2 := ⟨al3 21 rfl rfl, al3 23 rfl rfl, als 19 rfl rfl, al1 8 rfl rfl, al3 24 rfl rfl, by decide, by decide, by decide +kernel⟩
theorem lk_Mod_89 : VCall RMod 89 y_Mod_pushNumber b_Mod_pushNumber 3 (some .boolean) 1 := ⟨al3 28 rfl rfl, al3 30 rfl rfl, als 20 rfl rfl, al1 8 rfl rfl, al3 31 rfl rfl, by decide, by decide, by decide +kernel⟩
theorem lk_Mod_93 : VCall RMod 93 y_Mod_isTrue b_Mod_isTrue 3 (some .boolean) 1 := ⟨al3 9 rfl rfl, al3 11 rfl rfl, als 16 rfl rfl, al1 8 rfl rfl, al3 12 rfl rfl, by decide, by decide, by decide +kernel⟩
theorem lk_Mod_96 : VCall RMod 96 y_Mod_many b_Mod_many 9 (some .boolean) 0 := ⟨al3 13 rfl rfl, al3 15 rfl rfl, als 17 rfl rfl, al1 8 rfl rfl, al3 16 rfl rfl, by decide, by decide, by decide +kernel⟩
theorem lk_Mod_100 : VCall RMod 100 y_Mod_act b_Mod_act 11 (some .boolean) 2 := ⟨al3 32 rfl rfl, al3 34 rfl rfl, als 21 rfl rfl, al1 8 rfl rfl, al3 35 rfl rfl, by decide, by decide, by decide +kernel⟩
theorem fg_Mod_103 : FG RMod 103 7 1 RMod TMod 17 := ⟨in_Mod, rfl, by decide, al2 148 rfl rfl, rfl⟩
theorem fp_Mod_103 : FP RMod 103 7 1 RMod TMod 17 .int := ⟨fg_Mod_103, rfl, ⟨tyMod, tyok_Mod⟩, nm_Mod, by decide +kernel⟩
theorem lk_Mod_106 : VCall RMod 106 y_Mod_put b_Mod_put 3 none 1 := ⟨al2 204 rfl rfl, al2 206 rfl rfl, als 10 rfl rfl, al1 8 rfl rfl, al2 207 rfl rfl, by decide, by decide, by decide +kernel⟩
theorem lk_Mod_110 : VCall RMod 110 y_Mod_script3 b_Mod_script3 9 (some .boolean) 3 := ⟨al3 1 rfl rfl, al3 3 rfl rfl, als 14 rfl rfl, al1 8 rfl rfl, al3 4 rfl rfl, by decide, by decide, by decide +kernel⟩
theorem fg_Mod_114 : FG RMod 114 7 15 RMod TMod 17 := ⟨in_Mod, rfl, by decide, al2 162 rfl rfl, rfl⟩
theorem fp_Mod_114 : FP RMod 114 7 15 RMod TMod 17 .boolean := ⟨fg_Mod_114, rfl, ⟨tyMod, tyok_Mod⟩, nm_Mod, by decide +kernel⟩
theorem fg_Mod_118 : FG RMod 118 7 3 RMod TMod 17 := ⟨in_Mod, rfl, by decide, al2 150 rfl rfl, rfl⟩
theorem fp_Mod_118 : FP RMod 118 7 3 RMod TMod 17 .int := ⟨fg_Mod_118, rfl, ⟨tyMod, tyok_Mod⟩, nm_Mod, by decide +kernel⟩
theorem fg_Br_7 : FG RBr 7 0 0 RBr TBr 2 := ⟨in_Br, rfl, by decide, al1 109 rfl rfl, rfl⟩
theorem fp_Br_7 : FP RBr 7 0 0 RBr TBr 2 .int := ⟨fg_Br_7, rfl, ⟨tyBr, tyok_Br⟩, nm_Br, by decide +kernel⟩
theorem fg_Br_13 : FG RBr 13 0 1 RBr TBr 2 := ⟨in_Br, rfl, by decide, al1 110 rfl rfl, rfl⟩
theorem fp_Br_13 : FP RBr 13 0 1 RBr TBr 2 .int := ⟨fg_Br_13, rfl, ⟨tyBr, tyok_Br⟩, nm_Br, by decide +kernel⟩
theorem lk_Br_16 : VCall RBr 16 y_Br_isDone b_Br_isDone 1 (some .boolean) 0 := ⟨al2 15 rfl rfl, al1 235 rfl rfl, al1 236 rfl rfl, al1 7 rfl rfl, al1 237 rfl rfl, by decide, by decide, by decide +kernel⟩
theorem fg_El_9 : FG REl 9 1 0 REl TEl 3 := ⟨in_El, rfl, by decide, al1 49 rfl rfl, rfl⟩
theorem fg_El_13 : FG REl 13 1 1 REl TEl 3 := ⟨in_El, rfl, by decide, al1 52 rfl rfl, rfl⟩
theorem fg_El_17 : FG REl 17 1 2 REl TEl 3 := ⟨in_El, rfl, by decide, al1 55 rfl rfl, rfl⟩
theorem fp_El_17 : FP REl 17 1 2 REl TEl 3 .int := ⟨fg_El_17, rfl, ⟨tyEl, tyok_El⟩, nm_El, by decide +kernel⟩
theorem lk_El_21 : VCall REl 21 y_El_place b_El_place 2 (some .int) 1 := ⟨al2 2 rfl rfl, al2 3 rfl rfl, al2 4 rfl rfl, al1 4 rfl rfl, al2 5 rfl rfl, by decide, by decide, by decide +kernel⟩
theorem lk_El_25 : Cond.methodLink REl 25 arraycopyName ∈ ALLW ∧ Cond.native arraycopyName ∈ ALLW ∧ Cond.static arraycopyName ∈ ALLW ∧ Cond.initialized "java/lang/System" ∈ ALLW := ⟨al2 6 rfl rfl, al1 192 rfl rfl, al1 191 rfl rfl, al1 10 rfl rfl⟩
theorem lk_El_31 : VCall REl 31 y_El_has b_El_has 2 (some .boolean) 1 := ⟨al2 28 rfl rfl, al2 29 rfl rfl, al2 30 rfl rfl, al1 4 rfl rfl, al2 31 rfl rfl, by decide, by decide, by decide +kernel⟩
theorem lk_El_35 : VCall REl 35 y_El_push b_El_push 4 (some .boolean) 3 := ⟨al2 44 rfl rfl, al1 239 rfl rfl, al2 0 rfl rfl, al1 4 rfl rfl, al2 1 rfl rfl, by decide, by decide, by decide +kernel⟩
theorem lk_El_39 : VCall REl 39 y_El_drop b_El_drop 2 (some .boolean) 1 := ⟨al2 71 rfl rfl, al2 33 rfl rfl, al2 34 rfl rfl, al1 4 rfl rfl, al2 35 rfl rfl, by decide, by decide, by decide +kernel⟩
theorem lk_El_42 : VCall REl 42 y_El_pushNumber b_El_pushNumber 4 (some .boolean) 1 := ⟨al2 72 rfl rfl, al2 51 rfl rfl, al2 52 rfl rfl, al1 4 rfl rfl, al2 53 rfl rfl, by decide, by decide, by decide +kernel⟩
theorem lk_El_45 : VCall REl 45 y_El_replace b_El_replace 3 (some .boolean) 2 := ⟨al2 67 rfl rfl, al2 68 rfl rfl, al2 69 rfl rfl, al1 4 rfl rfl, al2 70 rfl rfl, by decide, by decide, by decide +kernel⟩
theorem lk_El_49 : VCall REl 49 y_El_isNumber b_El_isNumber 2 (some .boolean) 1 := ⟨al2 62 rfl rfl, al2 55 rfl rfl, al2 56 rfl rfl, al1 4 rfl rfl, al2 57 rfl rfl, by decide, by decide, by decide +kernel⟩
theorem fg_Row_7 : FG RRow 7 2 0 RRow TRow 2 := ⟨in_Row, rfl, by decide, al1 25 rfl rfl, rfl⟩
theorem fg_Row_13 : FG RRow 13 2 1 RRow TRow 2 := ⟨in_Row, rfl, by decide, al1 28 rfl rfl, rfl⟩
theorem fp_Row_13 : FP RRow 13 2 1 RRow TRow 2 .int := ⟨fg_Row_13, rfl, ⟨tyRow, tyok_Row⟩, nm_Row, by decide +kernel⟩
theorem lk_Row_17 : VCall RRow 17 y_Row_addByte b_Row_addByte 2 none 1 := ⟨al1 171 rfl rfl, al1 172 rfl rfl, al1 173 rfl rfl, al1 2 rfl rfl, al1 174 rfl rfl, by decide, by decide, by decide +kernel⟩
theorem lk_Row_21 : Cond.methodLink RRow 21 Lib.Math.min.name ∈ ALLW ∧ Cond.static Lib.Math.min.name ∈ ALLW ∧ Cond.initialized "java/lang/Math" ∈ ALLW ∧ Cond.code Lib.Math.min.name Lib.Math.min.code 2 (some .int) ∈ ALLW := ⟨al1 187 rfl rfl, al1 188 rfl rfl, al1 9 rfl rfl, al1 189 rfl rfl⟩
theorem lk_Row_27 : Cond.methodLink RRow 27 arraycopyName ∈ ALLW ∧ Cond.native arraycopyName ∈ ALLW ∧ Cond.static arraycopyName ∈ ALLW ∧ Cond.initialized "java/lang/System" ∈ ALLW := ⟨al1 190 rfl rfl, al1 192 rfl rfl, al1 191 rfl rfl, al1 10 rfl rfl⟩
theorem fg_Run_12 : FG RRun 12 3 0 RRun TRun 4 := ⟨in_Run, rfl, by decide, al1 116 rfl rfl, rfl⟩
theorem fg_Run_21 : FG RRun 21 3 1 RRun TRun 4 := ⟨in_Run, rfl, by decide, al1 118 rfl rfl, rfl⟩
theorem fg_Run_25 : FG RRun 25 5 2 RSig TSig 4 := ⟨in_Sig, rfl, by decide, al1 91 rfl rfl, rfl⟩
theorem fg_Run_29 : FG RRun 29 3 2 RRun TRun 4 := ⟨in_Run, rfl, by decide, al1 120 rfl rfl, rfl⟩
theorem fg_Run_33 : FG RRun 33 3 3 RRun TRun 4 := ⟨in_Run, rfl, by decide, al1 121 rfl rfl, rfl⟩
theorem lk_Run_37 : VCall RRun 37 y_Br_clear b_Br_clear 1 none 0 := ⟨al1 230 rfl rfl, al1 231 rfl rfl, al1 232 rfl rfl, al1 7 rfl rfl, al1 233 rfl rfl, by decide, by decide, by decide +kernel⟩
theorem fg_Run_40 : FG RRun 40 2 1 RRow TRow 2 := ⟨in_Row, rfl, by decide, al1 29 rfl rfl, rfl⟩
theorem fg_Run_46 : FG RRun 46 2 0 RRow TRow 2 := ⟨in_Row, rfl, by decide, al1 26 rfl rfl, rfl⟩
theorem lk_Run_50 : VCall RRun 50 y_Br_isDone b_Br_isDone 1 (some .boolean) 0 := ⟨al1 234 rfl rfl, al1 235 rfl rfl, al1 236 rfl rfl, al1 7 rfl rfl, al1 237 rfl rfl, by decide, by decide, by decide +kernel⟩
theorem lk_Run_54 : VCall RRun 54 y_El_push b_El_push 4 (some .boolean) 3 := ⟨al1 238 rfl rfl, al1 239 rfl rfl, al2 0 rfl rfl, al1 4 rfl rfl, al2 1 rfl rfl, by decide, by decide, by decide +kernel⟩
theorem lk_Run_58 : VCall RRun 58 y_Run_branch b_Run_branch 2 (some .boolean) 1 := ⟨al2 7 rfl rfl, al2 9 rfl rfl, als 3 rfl rfl, al1 3 rfl rfl, al2 10 rfl rfl, by decide, by decide, by decide +kernel⟩
theorem lk_Run_62 : VCall RRun 62 y_Run_perform b_Run_perform 4 (some .boolean) 2 := ⟨al2 36 rfl rfl, al2 38 rfl rfl, als 4 rfl rfl, al1 3 rfl rfl, al2 39 rfl rfl, by decide, by decide, by decide +kernel⟩
theorem lk_Run_66 : VCall RRun 66 y_Br_allEnded b_Br_allEnded 1 (some .boolean) 0 := ⟨al2 107 rfl rfl, al2 108 rfl rfl, al2 109 rfl rfl, al1 7 rfl rfl, al2 110 rfl rfl, by decide, by decide, by decide +kernel⟩
theorem lk_Run_69 : VCall RRun 69 y_Br_turn b_Br_turn 1 (some .boolean) 0 := ⟨al2 11 rfl rfl, al2 12 rfl rfl, al2 13 rfl rfl, al1 7 rfl rfl, al2 14 rfl rfl, by decide, by decide, by decide +kernel⟩
theorem lk_Run_72 : VCall RRun 72 y_Br_leave b_Br_leave 1 (some .boolean) 0 := ⟨al2 16 rfl rfl, al2 17 rfl rfl, al2 18 rfl rfl, al1 7 rfl rfl, al2 19 rfl rfl, by decide, by decide, by decide +kernel⟩
theorem lk_Run_75 : VCall RRun 75 y_Br_enter b_Br_enter 2 none 1 := ⟨al2 20 rfl rfl, al2 21 rfl rfl, al2 22 rfl rfl, al1 7 rfl rfl, al2 23 rfl rfl, by decide, by decide, by decide +kernel⟩
theorem fg_Run_79 : FG RRun 79 1 2 REl TEl 3 := ⟨in_El, rfl, by decide, al1 56 rfl rfl, rfl⟩
theorem lk_Run_82 : VCall RRun 82 y_El_isTrue b_El_isTrue 4 (some .boolean) 1 := ⟨al2 24 rfl rfl, al2 25 rfl rfl, al2 26 rfl rfl, al1 4 rfl rfl, al2 27 rfl rfl, by decide, by decide, by decide +kernel⟩
theorem lk_Run_85 : VCall RRun 85 y_El_drop b_El_drop 2 (some .boolean) 1 := ⟨al2 32 rfl rfl, al2 33 rfl rfl, al2 34 rfl rfl, al1 4 rfl rfl, al2 35 rfl rfl, by decide, by decide, by decide +kernel⟩
theorem lk_Run_88 : VCall RRun 88 y_El_pushCopy b_El_pushCopy 2 (some .boolean) 1 := ⟨al2 40 rfl rfl, al2 41 rfl rfl, al2 42 rfl rfl, al1 4 rfl rfl, al2 43 rfl rfl, by decide, by decide, by decide +kernel⟩
theorem lk_Run_91 : VCall RRun 91 y_El_swapLast b_El_swapLast 6 (some .boolean) 0 := ⟨al2 45 rfl rfl, al2 46 rfl rfl, al2 47 rfl rfl, al1 4 rfl rfl, al2 48 rfl rfl, by decide, by decide, by decide +kernel⟩
theorem lk_Run_94 : VCall RRun 94 y_El_has b_El_has 2 (some .boolean) 1 := ⟨al2 49 rfl rfl, al2 29 rfl rfl, al2 30 rfl rfl, al1 4 rfl rfl, al2 31 rfl rfl, by decide, by decide, by decide +kernel⟩
theorem fg_Run_97 : FG RRun 97 1 1 REl TEl 3 := ⟨in_El, rfl, by decide, al1 53 rfl rfl, rfl⟩
theorem lk_Run_101 : VCall RRun 101 y_El_pushNumber b_El_pushNumber 4 (some .boolean) 1 := ⟨al2 50 rfl rfl, al2 51 rfl rfl, al2 52 rfl rfl, al1 4 rfl rfl, al2 53 rfl rfl, by decide, by decide, by decide +kernel⟩
theorem lk_Run_104 : VCall RRun 104 y_El_isNumber b_El_isNumber 2 (some .boolean) 1 := ⟨al2 54 rfl rfl, al2 55 rfl rfl, al2 56 rfl rfl, al1 4 rfl rfl, al2 57 rfl rfl, by decide, by decide, by decide +kernel⟩
theorem lk_Run_107 : VCall RRun 107 y_El_number b_El_number 5 (some .int) 1 := ⟨al2 58 rfl rfl, al2 59 rfl rfl, al2 60 rfl rfl, al1 4 rfl rfl, al2 61 rfl rfl, by decide, by decide, by decide +kernel⟩
theorem lk_Run_111 : VCall RRun 111 y_El_replaceByTruth b_El_replaceByTruth 3 (some .boolean) 2 := ⟨al2 63 rfl rfl, al2 64 rfl rfl, al2 65 rfl rfl, al1 4 rfl rfl, al2 66 rfl rfl, by decide, by decide, by decide +kernel⟩
theorem lk_Run_115 : VCall RRun 115 y_Run_reckon b_Run_reckon 5 (some .boolean) 1 := ⟨al2 73 rfl rfl, al2 75 rfl rfl, als 5 rfl rfl, al1 3 rfl rfl, al2 76 rfl rfl, by decide, by decide, by decide +kernel⟩
theorem lk_Run_118 : VCall RRun 118 y_Run_equal b_Run_equal 3 (some .boolean) 0 := ⟨al2 78 rfl rfl, al2 80 rfl rfl, als 6 rfl rfl, al1 3 rfl rfl, al2 81 rfl rfl, by decide, by decide, by decide +kernel⟩
theorem lk_Run_121 : VCall RRun 121 y_Run_digestLast b_Run_digestLast 4 (some .boolean) 1 := ⟨al2 87 rfl rfl, al2 89 rfl rfl, als 7 rfl rfl, al1 3 rfl rfl, al2 90 rfl rfl, by decide, by decide, by decide +kernel⟩
theorem lk_Run_125 : VCall RRun 125 y_Run_signed b_Run_signed 3 (some .boolean) 0 := ⟨al2 93 rfl rfl, al2 95 rfl rfl, als 8 rfl rfl, al1 3 rfl rfl, al2 96 rfl rfl, by decide, by decide, by decide +kernel⟩
theorem lk_Run_128 : VCall RRun 128 y_Run_many b_Run_many 8 (some .boolean) 0 := ⟨al2 103 rfl rfl, al2 105 rfl rfl, als 9 rfl rfl, al1 3 rfl rfl, al2 106 rfl rfl, by decide, by decide, by decide +kernel⟩
theorem lk_Run_131 : VCall RRun 131 y_El_replace b_El_replace 3 (some .boolean) 2 := ⟨al2 77 rfl rfl, al2 68 rfl rfl, al2 69 rfl rfl, al1 4 rfl rfl, al2 70 rfl rfl, by decide, by decide, by decide +kernel⟩
theorem fg_Run_134 : FG RRun 134 1 0 REl TEl 3 := ⟨in_El, rfl, by decide, al1 50 rfl rfl, rfl⟩
theorem lk_Run_135 : VCall RRun 135 y_El_place b_El_place 2 (some .int) 1 := ⟨al2 82 rfl rfl, al2 3 rfl rfl, al2 4 rfl rfl, al1 4 rfl rfl, al2 5 rfl rfl, by decide, by decide, by decide +kernel⟩
theorem lk_Run_138 : VCall RRun 138 y_El_holds b_El_holds 7 (some .boolean) 4 := ⟨al2 83 rfl rfl, al2 84 rfl rfl, al2 85 rfl rfl, al1 4 rfl rfl, al2 86 rfl rfl, by decide, by decide, by decide +kernel⟩
theorem lk_Run_142 : VCall RRun 142 y_Sha_hash b_Sha_hash 6 none 5 := ⟨al2 91 rfl rfl, al1 198 rfl rfl, al1 199 rfl rfl, al1 6 rfl rfl, al1 200 rfl rfl, by decide, by decide, by decide +kernel⟩
theorem lk_Run_148 : VCall RRun 148 y_Sha_digest b_Sha_digest 8 none 5 := ⟨al2 92 rfl rfl, al1 202 rfl rfl, al1 203 rfl rfl, al1 6 rfl rfl, al1 204 rfl rfl, by decide, by decide, by decide +kernel⟩
theorem lk_Run_151 : VCall RRun 151 y_Sig_make b_Sig_make 4 none 3 := ⟨al2 97 rfl rfl, al2 98 rfl rfl, al2 99 rfl rfl, al1 5 rfl rfl, al2 100 rfl rfl, by decide, by decide, by decide +kernel⟩
theorem fg_Run_155 : FG RRun 155 5 1 RSig TSig 4 := ⟨in_Sig, rfl, by decide, al1 88 rfl rfl, rfl⟩
theorem fg_Sha_9 : FG RSha 9 4 0 RSha TSha 2 := ⟨in_Sha, rfl, by decide, al1 78 rfl rfl, rfl⟩
theorem fg_Sha_15 : FG RSha 15 4 1 RSha TSha 2 := ⟨in_Sha, rfl, by decide, al1 79 rfl rfl, rfl⟩
theorem lk_Sha_18 : VCall RSha 18 y_Sha_digest b_Sha_digest 8 none 5 := ⟨al1 201 rfl rfl, al1 202 rfl rfl, al1 203 rfl rfl, al1 6 rfl rfl, al1 204 rfl rfl, by decide, by decide, by decide +kernel⟩
theorem fl_Sha_22 : Cond.fieldLink RSha 22 RSha "START" "[I" ∈ ALLW := al1 205 rfl rfl
theorem lk_Sha_25 : Cond.methodLink RSha 25 arraycopyName ∈ ALLW ∧ Cond.native arraycopyName ∈ ALLW ∧ Cond.static arraycopyName ∈ ALLW ∧ Cond.initialized "java/lang/System" ∈ ALLW := ⟨al1 207 rfl rfl, al1 192 rfl rfl, al1 191 rfl rfl, al1 10 rfl rfl⟩
theorem lk_Sha_31 : VCall RSha 31 y_Sha_loadWords b_Sha_loadWords 9 none 4 := ⟨al1 208 rfl rfl, al1 210 rfl rfl, als 0 rfl rfl, al1 6 rfl rfl, al1 211 rfl rfl, by decide, by decide, by decide +kernel⟩
theorem lk_Sha_35 : VCall RSha 35 y_Sha_extendWords b_Sha_extendWords 6 none 0 := ⟨al1 212 rfl rfl, al1 214 rfl rfl, als 1 rfl rfl, al1 6 rfl rfl, al1 215 rfl rfl, by decide, by decide, by decide +kernel⟩
theorem lk_Sha_38 : VCall RSha 38 y_Sha_mixWords b_Sha_mixWords 16 none 0 := ⟨al1 216 rfl rfl, al1 218 rfl rfl, als 2 rfl rfl, al1 6 rfl rfl, al1 219 rfl rfl, by decide, by decide, by decide +kernel⟩
theorem fl_Sha_41 : Cond.fieldLink RSha 41 RSha "ROUND" "[I" ∈ ALLW := al1 220 rfl rfl
theorem fg_Sig_12 : FG RSig 12 5 2 RSig TSig 4 := ⟨in_Sig, rfl, by decide, al1 90 rfl rfl, rfl⟩
theorem fg_Sig_18 : FG RSig 18 5 0 RSig TSig 4 := ⟨in_Sig, rfl, by decide, al1 85 rfl rfl, rfl⟩
theorem fg_Sig_22 : FG RSig 22 5 1 RSig TSig 4 := ⟨in_Sig, rfl, by decide, al1 87 rfl rfl, rfl⟩
theorem fg_Sig_25 : FG RSig 25 5 3 RSig TSig 4 := ⟨in_Sig, rfl, by decide, al1 93 rfl rfl, rfl⟩
theorem lk_Sig_28 : Cond.methodLink RSig 28 arraycopyName ∈ ALLW ∧ Cond.native arraycopyName ∈ ALLW ∧ Cond.static arraycopyName ∈ ALLW ∧ Cond.initialized "java/lang/System" ∈ ALLW := ⟨al2 101 rfl rfl, al1 192 rfl rfl, al1 191 rfl rfl, al1 10 rfl rfl⟩
theorem lk_Sig_34 : VCall RSig 34 y_Sha_hash b_Sha_hash 6 none 5 := ⟨al2 102 rfl rfl, al1 198 rfl rfl, al1 199 rfl rfl, al1 6 rfl rfl, al1 200 rfl rfl, by decide, by decide, by decide +kernel⟩
end
section
set_option maxHeartbeats 4000000 in
set_option maxRecDepth 100000 in
theorem c_Row_hasRoomFor (l : Launch) (E : En) (h0 a M n k : Nat) (f : Nat → Int32) (hn : n ≤ M) (hM : M < 2 ^ 31) (hk : k < 2 ^ 31) : CtI l y_Row_hasRoomFor b_Row_hasRoomFor 2 .boolean (rmd 0) E [.ref h0, .int (nI k)] [(h0, .inr (2, [.ref a, .int (nI n)])), (a, .inl (E.2.1, M, .inl f))] (fun r w => r = b2 (decide (k + n ≤ M)) ∧ w = [(h0, .inr (2, [.ref a, .int (nI n)])), (a, .inl (E.2.1, M, .inl f))]) := by
  refine CtI.of (by decide) (Nat.le_of_ble_eq_true rfl) (fun r w h => by obtain ⟨rfl, _⟩ := h; exact b2_nar _) ?_
  intro p e s m args below meth c A Q H locs ls C hP hD hS hl kret
  have hx := C.1
  have hb := C.2.1
  have hl : lv_has ls 2 [(0, .ref h0), (1, .int (nI k))] := hl
  refine lv_iload_n hx hb d_Row_hasRoomFor_0 rfl (lv_at hl 1 rfl) ?_
  refine lv_aload_n hx hb d_Row_hasRoomFor_1 rfl (lv_at hl 0 rfl) ?_
  refine n_get C fg_Row_7 hP 0 rfl rfl d_Row_hasRoomFor_2 ?_
  refine n_alenB C hP 1 rfl d_Row_hasRoomFor_5 ?_
  refine lv_aload_n hx hb d_Row_hasRoomFor_6 rfl (lv_at hl 0 rfl) ?_
  refine n_get C fg_Row_13 hP 0 rfl rfl d_Row_hasRoomFor_7 ?_
  refine lv_isub hx hb d_Row_hasRoomFor_10 ?_
  refine tope (z := nI (M - n)) (pk_sub (by omega)) ?_
  refine j_gt C k (M - n) rfl rfl (by omega) (by omega) d_Row_hasRoomFor_11 rfl (fun h1 => ?_) (fun h1 => ?_)
  · refine lv_iconst (v := nI 0) hx hb d_Row_hasRoomFor_18 (by decide) ?_
    exact kret (nI 0) [(h0, .inr (2, [.ref a, .int (nI n)])), (a, .inl (E.2.1, M, .inl f))] _ _ _ _ d_Row_hasRoomFor_19 (⟨by first | exact b2_t (decide_eq_true (by omega)) | exact b2_f (decide_eq_false (by omega)), rfl⟩) rfl hP hS
  · refine lv_iconst (v := nI 1) hx hb d_Row_hasRoomFor_14 (by decide) ?_
    refine lv_goto hx hb d_Row_hasRoomFor_15 rfl ?_
    exact kret (nI 1) [(h0, .inr (2, [.ref a, .int (nI n)])), (a, .inl (E.2.1, M, .inl f))] _ _ _ _ d_Row_hasRoomFor_19 (⟨by first | exact b2_t (decide_eq_true (by omega)) | exact b2_f (decide_eq_false (by omega)), rfl⟩) rfl hP hS

set_option maxHeartbeats 4000000 in
set_option maxRecDepth 100000 in
theorem c_Row_addByte (l : Launch) (E : En) (h0 a M n : Nat) (f : Nat → Int32) (v : Int32) (hn : n < M) (hM : M < 2 ^ 31) : CtV l y_Row_addByte b_Row_addByte 2 (rmd 0) E [.ref h0, .int v] [(h0, .inr (2, [.ref a, .int (nI n)])), (a, .inl (E.2.1, M, .inl f))] (fun w => w = [(h0, .inr (2, [.ref a, .int (nI (n + 1))])), (a, .inl (E.2.1, M, .inl (upd f n (nb v))))]) := by
  refine CtV.of (by decide) (Nat.le_of_ble_eq_true rfl) ?_
  intro p e s m args below meth c A Q H locs ls C hP hD hS hl kret
  have hx := C.1
  have hb := C.2.1
  have hl : lv_has ls 2 [(0, .ref h0), (1, .int v)] := hl
  refine lv_aload_n hx hb d_Row_addByte_0 rfl (lv_at hl 0 rfl) ?_
  refine n_get C fg_Row_13 hP 0 rfl rfl d_Row_addByte_1 ?_
  refine lv_aload_n hx hb d_Row_addByte_4 rfl (lv_at hl 0 rfl) ?_
  refine n_get C fg_Row_7 hP 0 rfl rfl d_Row_addByte_5 ?_
  refine n_alenB C hP 1 rfl d_Row_addByte_8 ?_
  refine j_ge C n M rfl rfl (by omega) (by omega) d_Row_addByte_9 rfl (fun h1 => absurd h1 (by omega)) (fun h1 => ?_)
  refine lv_aload_n hx hb d_Row_addByte_12 rfl (lv_at hl 0 rfl) ?_
  refine n_get C fg_Row_7 hP 0 rfl rfl d_Row_addByte_13 ?_
  refine lv_aload_n hx hb d_Row_addByte_16 rfl (lv_at hl 0 rfl) ?_
  refine n_get C fg_Row_13 hP 0 rfl rfl d_Row_addByte_17 ?_
  refine lv_iload_n hx hb d_Row_addByte_20 rfl (lv_at hl 1 rfl) ?_
  refine lv_i2b (v := nb v) hx hb d_Row_addByte_21 rfl ?_
  refine n_bast (z := nb v) C hP hD hS 1 rfl n rfl (nb_nb _) (by omega) (by omega) d_Row_addByte_22 (fun H locs hP hD hS => ?_)
  have hP : va_P E.1 clz [(h0, .inr (2, [.ref a, .int (nI n)])), (a, .inl (E.2.1, M, .inl (upd f n (nb v))))] H := hP
  have hD : va_D A [(h0, .inr (2, [.ref a, .int (nI n)])), (a, .inl (E.2.1, M, .inl (upd f n (nb v))))] := hD
  refine lv_aload_n hx hb d_Row_addByte_23 rfl (lv_at hl 0 rfl) ?_
  refine lv_dup hx hb d_Row_addByte_24 rfl ?_
  refine n_get C fg_Row_13 hP 0 rfl rfl d_Row_addByte_25 ?_
  refine lv_iconst (v := nI 1) hx hb d_Row_addByte_28 (by decide) ?_
  refine lv_iadd hx hb d_Row_addByte_29 ?_
  refine tope (z := nI (n + 1)) (nI_add _ _) ?_
  refine n_put (v := .int (nI (n + 1))) C fp_Row_13 hP hD hS 0 rfl (rfl) rfl (Nat.le_of_ble_eq_true rfl) d_Row_addByte_30 (fun H locs hP hD hS => ?_)
  have hP : va_P E.1 clz [(h0, .inr (2, [.ref a, .int (nI (n + 1))])), (a, .inl (E.2.1, M, .inl (upd f n (nb v))))] H := hP
  have hD : va_D A [(h0, .inr (2, [.ref a, .int (nI (n + 1))])), (a, .inl (E.2.1, M, .inl (upd f n (nb v))))] := hD
  exact kret [(h0, .inr (2, [.ref a, .int (nI (n + 1))])), (a, .inl (E.2.1, M, .inl (upd f n (nb v))))] _ _ _ _ d_Row_addByte_33 (rfl) rfl hP hS

def aw4 (f : Nat → Int32) (n : Nat) (v : Int32) : Nat → Int32 := upd (upd (upd (upd f n (nb (us v (nI 24)))) (n + 1) (nb (us v (nI 16)))) (n + 1 + 1) (nb (us v (nI 8)))) (n + 1 + 1 + 1) (nb v)

set_option maxHeartbeats 4000000 in
set_option maxRecDepth 100000 in
theorem c_Row_addWord (l : Launch) (E : En) (h0 a M n : Nat) (f : Nat → Int32) (v : Int32) (hn : n + 4 ≤ M) (hM : M < 2 ^ 31) : CtV l y_Row_addWord b_Row_addWord 2 (rmd 1) E [.ref h0, .int v] [(h0, .inr (2, [.ref a, .int (nI n)])), (a, .inl (E.2.1, M, .inl f))] (fun w => w = [(h0, .inr (2, [.ref a, .int (nI (n + 4))])), (a, .inl (E.2.1, M, .inl (aw4 f n v)))]) := by
  refine CtV.of (by decide) (Nat.le_of_ble_eq_true rfl) ?_
  intro p e s m args below meth c A Q H locs ls C hP hD hS hl kret
  have hx := C.1
  have hb := C.2.1
  have hl : lv_has ls 2 [(0, .ref h0), (1, .int v)] := hl
  refine lv_aload_n hx hb d_Row_addWord_0 rfl (lv_at hl 0 rfl) ?_
  refine lv_iload_n hx hb d_Row_addWord_1 rfl (lv_at hl 1 rfl) ?_
  refine lv_bipush (v := nI 24) hx hb d_Row_addWord_2 (by decide) ?_
  refine lv_iushr (v := us v (nI 24)) hx hb d_Row_addWord_4 rfl ?_
  refine cal_V (As := [.int (us v (nI 24))]) (rest := []) C lk_Row_17 (c_Row_addByte l E h0 a M n f (us v (nI 24)) (by omega) (by omega)) (by decide) hP hD hS 0 2 rfl rfl [0, 1] rfl (by decide) hl.1 rfl (Nat.le_of_ble_eq_true rfl) d_Row_addWord_5 (fun w1 H locs hp2 hP hD hS => ?_)
  obtain rfl := hp2
  have hP : va_P E.1 clz [(h0, .inr (2, [.ref a, .int (nI (n + 1))])), (a, .inl (E.2.1, M, .inl (upd f n (nb (us v (nI 24))))))] H := hP
  have hD : va_D A [(h0, .inr (2, [.ref a, .int (nI (n + 1))])), (a, .inl (E.2.1, M, .inl (upd f n (nb (us v (nI 24))))))] := hD
  refine lv_aload_n hx hb d_Row_addWord_8 rfl (lv_at hl 0 rfl) ?_
  refine lv_iload_n hx hb d_Row_addWord_9 rfl (lv_at hl 1 rfl) ?_
  refine lv_bipush (v := nI 16) hx hb d_Row_addWord_10 (by decide) ?_
  refine lv_iushr (v := us v (nI 16)) hx hb d_Row_addWord_12 rfl ?_
  refine cal_V (As := [.int (us v (nI 16))]) (rest := []) C lk_Row_17 (c_Row_addByte l E h0 a M (n + 1) (upd f n (nb (us v (nI 24)))) (us v (nI 16)) (by omega) (by omega)) (by decide) hP hD hS 0 2 rfl rfl [0, 1] rfl (by decide) hl.1 rfl (Nat.le_of_ble_eq_true rfl) d_Row_addWord_13 (fun w1 H locs hp4 hP hD hS => ?_)
  obtain rfl := hp4
  have hP : va_P E.1 clz [(h0, .inr (2, [.ref a, .int (nI (n + 1 + 1))])), (a, .inl (E.2.1, M, .inl (upd (upd f n (nb (us v (nI 24)))) (n + 1) (nb (us v (nI 16))))))] H := hP
  have hD : va_D A [(h0, .inr (2, [.ref a, .int (nI (n + 1 + 1))])), (a, .inl (E.2.1, M, .inl (upd (upd f n (nb (us v (nI 24)))) (n + 1) (nb (us v (nI 16))))))] := hD
  refine lv_aload_n hx hb d_Row_addWord_16 rfl (lv_at hl 0 rfl) ?_
  refine lv_iload_n hx hb d_Row_addWord_17 rfl (lv_at hl 1 rfl) ?_
  refine lv_bipush (v := nI 8) hx hb d_Row_addWord_18 (by decide) ?_
  refine lv_iushr (v := us v (nI 8)) hx hb d_Row_addWord_20 rfl ?_
  refine cal_V (As := [.int (us v (nI 8))]) (rest := []) C lk_Row_17 (c_Row_addByte l E h0 a M (n + 1 + 1) (upd (upd f n (nb (us v (nI 24)))) (n + 1) (nb (us v (nI 16)))) (us v (nI 8)) (by omega) (by omega)) (by decide) hP hD hS 0 2 rfl rfl [0, 1] rfl (by decide) hl.1 rfl (Nat.le_of_ble_eq_true rfl) d_Row_addWord_21 (fun w1 H locs hp6 hP hD hS => ?_)
  obtain rfl := hp6
  have hP : va_P E.1 clz [(h0, .inr (2, [.ref a, .int (nI (n + 1 + 1 + 1))])), (a, .inl (E.2.1, M, .inl (upd (upd (upd f n (nb (us v (nI 24)))) (n + 1) (nb (us v (nI 16)))) (n + 1 + 1) (nb (us v (nI 8))))))] H := hP
  have hD : va_D A [(h0, .inr (2, [.ref a, .int (nI (n + 1 + 1 + 1))])), (a, .inl (E.2.1, M, .inl (upd (upd (upd f n (nb (us v (nI 24)))) (n + 1) (nb (us v (nI 16)))) (n + 1 + 1) (nb (us v (nI 8))))))] := hD
  refine lv_aload_n hx hb d_Row_addWord_24 rfl (lv_at hl 0 rfl) ?_
  refine lv_iload_n hx hb d_Row_addWord_25 rfl (lv_at hl 1 rfl) ?_
  refine cal_V (As := [.int v]) (rest := []) C lk_Row_17 (c_Row_addByte l E h0 a M (n + 1 + 1 + 1) (upd (upd (upd f n (nb (us v (nI 24)))) (n + 1) (nb (us v (nI 16)))) (n + 1 + 1) (nb (us v (nI 8)))) v (by omega) (by omega)) (by decide) hP hD hS 0 2 rfl rfl [0, 1] rfl (by decide) hl.1 rfl (Nat.le_of_ble_eq_true rfl) d_Row_addWord_26 (fun w1 H locs hp8 hP hD hS => ?_)
  obtain rfl := hp8
  have hP : va_P E.1 clz [(h0, .inr (2, [.ref a, .int (nI (n + 1 + 1 + 1 + 1))])), (a, .inl (E.2.1, M, .inl (upd (upd (upd (upd f n (nb (us v (nI 24)))) (n + 1) (nb (us v (nI 16)))) (n + 1 + 1) (nb (us v (nI 8)))) (n + 1 + 1 + 1) (nb v))))] H := hP
  have hD : va_D A [(h0, .inr (2, [.ref a, .int (nI (n + 1 + 1 + 1 + 1))])), (a, .inl (E.2.1, M, .inl (upd (upd (upd (upd f n (nb (us v (nI 24)))) (n + 1) (nb (us v (nI 16)))) (n + 1 + 1) (nb (us v (nI 8)))) (n + 1 + 1 + 1) (nb v))))] := hD
  exact kret [(h0, .inr (2, [.ref a, .int (nI (n + 1 + 1 + 1 + 1))])), (a, .inl (E.2.1, M, .inl (upd (upd (upd (upd f n (nb (us v (nI 24)))) (n + 1) (nb (us v (nI 16)))) (n + 1 + 1) (nb (us v (nI 8)))) (n + 1 + 1 + 1) (nb v))))] _ _ _ _ d_Row_addWord_29 (rfl) rfl hP hS
end
section
def hasB (k : Int32) (n : Nat) : Bool := decide (¬ k < 0) && decide (¬ nI n ≤ k)
theorem hasB_t {k : Int32} {n : Nat} (h1 : ¬ k < 0) (h2 : ¬ nI n ≤ k) : nI 1 = b2 (hasB k n) := by simp [hasB, b2, h1, h2]
theorem hasB_f1 {k : Int32} {n : Nat} (h1 : k < 0) : nI 0 = b2 (hasB k n) := by simp [hasB, b2, h1]
theorem hasB_f2 {k : Int32} {n : Nat} (h2 : nI n ≤ k) : nI 0 = b2 (hasB k n) := by simp [hasB, b2, h2]
theorem hasB_nI {j n : Nat} (hj : j < 2 ^ 31) (hn : n < 2 ^ 31) : hasB (nI j) n = decide (j < n) := by
  unfold hasB
  simp only [nI_leI hn hj, nI_pos hj, not_false_eq_true, decide_true, Bool.true_and, Nat.not_le]
theorem hasB_m1 (n : Nat) : hasB (-1) n = false := by simp [hasB, show ((-1 : Int32) < 0) by decide]
theorem hasB_m2 (n : Nat) : hasB (-2) n = false := by simp [hasB, show ((-2 : Int32) < 0) by decide]

set_option maxHeartbeats 4000000 in
set_option maxRecDepth 100000 in
theorem c_El_place (l : Launch) (E : En) (e0 k : Nat) : CtI l y_El_place b_El_place 2 .int (rmd 0) E [.ref e0, .int (nI k)] [] (fun r w => r = nI (k * 80) ∧ w = []) := by
  refine CtI.of (by decide) (Nat.le_of_ble_eq_true rfl) (fun _ _ _ => rfl) ?_
  intro p e s m args below meth c A Q H locs ls C hP hD hS hl kret
  have hx := C.1
  have hb := C.2.1
  have hl : lv_has ls 2 [(0, .ref e0), (1, .int (nI k))] := hl
  refine lv_iload_n hx hb d_El_place_0 rfl (lv_at hl 1 rfl) ?_
  refine lv_bipush (v := nI 80) hx hb d_El_place_1 (by decide) ?_
  refine lv_imul hx hb d_El_place_3 ?_
  refine tope (z := nI (k * 80)) (pk_mul _ _) ?_
  exact kret (nI (k * 80)) [] _ _ _ _ d_El_place_4 (⟨rfl, rfl⟩) rfl hP hS

set_option maxHeartbeats 4000000 in
set_option maxRecDepth 100000 in
theorem c_El_has (l : Launch) (E : En) (e0 eb es n : Nat) (k : Int32) : CtI l y_El_has b_El_has 2 .boolean (rmd 0) E [.ref e0, .int k] [(e0, .inr (1, [.ref eb, .ref es, .int (nI n)]))] (fun r w => r = b2 (hasB k n) ∧ w = [(e0, .inr (1, [.ref eb, .ref es, .int (nI n)]))]) := by
  refine CtI.of (by decide) (Nat.le_of_ble_eq_true rfl) (fun r w h => by obtain ⟨rfl, _⟩ := h; exact b2_nar _) ?_
  intro p e s m args below meth c A Q H locs ls C hP hD hS hl kret
  have hx := C.1
  have hb := C.2.1
  have hl : lv_has ls 2 [(0, .ref e0), (1, .int k)] := hl
  refine lv_iload_n hx hb d_El_has_0 rfl (lv_at hl 1 rfl) ?_
  refine lv_if_lt hx hb d_El_has_1 rfl (fun h1 => ?_) (fun h1 => ?_)
  · refine lv_iconst (v := nI 0) hx hb d_El_has_16 (by decide) ?_
    exact kret (nI 0) [(e0, .inr (1, [.ref eb, .ref es, .int (nI n)]))] _ _ _ _ d_El_has_17 (⟨by first | exact hasB_t (by assumption) (by assumption) | exact hasB_f1 (by assumption) | exact hasB_f2 (by assumption), rfl⟩) rfl hP hS
  · refine lv_iload_n hx hb d_El_has_4 rfl (lv_at hl 1 rfl) ?_
    refine lv_aload_n hx hb d_El_has_5 rfl (lv_at hl 0 rfl) ?_
    refine n_get C fg_El_17 hP 0 rfl rfl d_El_has_6 ?_
    refine lv_icmp_ge hx hb d_El_has_9 rfl (fun h2 => ?_) (fun h2 => ?_)
    · refine lv_iconst (v := nI 0) hx hb d_El_has_16 (by decide) ?_
      exact kret (nI 0) [(e0, .inr (1, [.ref eb, .ref es, .int (nI n)]))] _ _ _ _ d_El_has_17 (⟨by first | exact hasB_t (by assumption) (by assumption) | exact hasB_f1 (by assumption) | exact hasB_f2 (by assumption), rfl⟩) rfl hP hS
    · refine lv_iconst (v := nI 1) hx hb d_El_has_12 (by decide) ?_
      refine lv_goto hx hb d_El_has_13 rfl ?_
      exact kret (nI 1) [(e0, .inr (1, [.ref eb, .ref es, .int (nI n)]))] _ _ _ _ d_El_has_17 (⟨by first | exact hasB_t (by assumption) (by assumption) | exact hasB_f1 (by assumption) | exact hasB_f2 (by assumption), rfl⟩) rfl hP hS

set_option maxHeartbeats 4000000 in
set_option maxRecDepth 100000 in
theorem c_El_push (l : Launch) (E : En) (e0 eb es n : Nat) (f sz : Nat → Int32) (i k : Nat) (g0 Mg : Nat) (g : Nat → Int32) (hn : n < 24) (hk : k ≤ 80) (hi : i + k ≤ Mg) (hB : fB g) (hM : Mg < 2 ^ 31) : CtI l y_El_push b_El_push 4 .boolean (rmd 1) E [.ref e0, .ref g0, .int (nI i), .int (nI k)] [(e0, .inr (1, [.ref eb, .ref es, .int (nI n)])), (eb, .inl (E.2.1, 1920, .inl f)), (es, .inl (E.2.2.1, 24, .inl sz)), (g0, .inl (E.2.1, Mg, .inl g))] (fun r w => r = b2 true ∧ w = [(e0, .inr (1, [.ref eb, .ref es, .int (nI (n + 1))])), (eb, .inl (E.2.1, 1920, .inl (va_cpy g f i (n * 80) k))), (es, .inl (E.2.2.1, 24, .inl (upd sz n (nI k)))), (g0, .inl (E.2.1, Mg, .inl g))]) := by
  refine CtI.of (by decide) (Nat.le_of_ble_eq_true rfl) (fun r w h => by obtain ⟨rfl, _⟩ := h; exact b2_nar _) ?_
  intro p e s m args below meth c A Q H locs ls C hP hD hS hl kret
  have hx := C.1
  have hb := C.2.1
  have hl : lv_has ls 4 [(0, .ref e0), (1, .ref g0), (2, .int (nI i)), (3, .int (nI k))] := hl
  refine lv_aload_n hx hb d_El_push_0 rfl (lv_at hl 0 rfl) ?_
  refine n_get C fg_El_17 hP 0 rfl rfl d_El_push_1 ?_
  refine lv_bipush (v := nI 24) hx hb d_El_push_4 (by decide) ?_
  refine j_ge C n 24 rfl rfl (by omega) (by omega) d_El_push_6 rfl (fun h1 => absurd h1 (by omega)) (fun h1 => ?_)
  refine lv_iload_n hx hb d_El_push_9 rfl (lv_at hl 3 rfl) ?_
  refine lv_bipush (v := nI 80) hx hb d_El_push_10 (by decide) ?_
  refine j_le C k 80 rfl rfl (by omega) (by omega) d_El_push_12 rfl (fun h2 => ?_) (fun h2 => absurd h2 (by omega))
  refine lv_aload_n hx hb d_El_push_17 rfl (lv_at hl 1 rfl) ?_
  refine lv_iload_n hx hb d_El_push_18 rfl (lv_at hl 2 rfl) ?_
  refine lv_aload_n hx hb d_El_push_19 rfl (lv_at hl 0 rfl) ?_
  refine n_get C fg_El_9 hP 0 rfl rfl d_El_push_20 ?_
  refine lv_aload_n hx hb d_El_push_23 rfl (lv_at hl 0 rfl) ?_
  refine lv_aload_n hx hb d_El_push_24 rfl (lv_at hl 0 rfl) ?_
  refine n_get C fg_El_17 hP 0 rfl rfl d_El_push_25 ?_
  refine cal_I (As := [.int (nI n)]) (rest := [.ref eb, .int (nI i), .ref g0]) C lk_El_21 (c_El_place l E e0 n) (by decide) hP hD hS 0 1 rfl rfl [] rfl (by decide) hl.1 rfl (Nat.le_of_ble_eq_true rfl) d_El_push_28 (fun r3 w1 H locs hp4 hP hD hS => ?_)
  obtain ⟨rfl, rfl⟩ := hp4
  have hP : va_P E.1 clz [(e0, .inr (1, [.ref eb, .ref es, .int (nI n)])), (eb, .inl (E.2.1, 1920, .inl f)), (es, .inl (E.2.2.1, 24, .inl sz)), (g0, .inl (E.2.1, Mg, .inl g))] H := hP
  have hD : va_D A [(e0, .inr (1, [.ref eb, .ref es, .int (nI n)])), (eb, .inl (E.2.1, 1920, .inl f)), (es, .inl (E.2.2.1, 24, .inl sz)), (g0, .inl (E.2.1, Mg, .inl g))] := hD
  refine lv_iload_n hx hb d_El_push_31 rfl (lv_at hl 3 rfl) ?_
  refine n_cpy C lk_El_25 hP hD hS 3 1 rfl rfl i (n * 80) k rfl rfl rfl (by omega) (by omega) ⟨by omega, by omega⟩ (hB) hl.1 (by decide) (by decide) d_El_push_32 (fun H locs hP hD hS => ?_)
  have hP : va_P E.1 clz [(e0, .inr (1, [.ref eb, .ref es, .int (nI n)])), (eb, .inl (E.2.1, 1920, .inl (va_cpy g f i (n * 80) k))), (es, .inl (E.2.2.1, 24, .inl sz)), (g0, .inl (E.2.1, Mg, .inl g))] H := hP
  have hD : va_D A [(e0, .inr (1, [.ref eb, .ref es, .int (nI n)])), (eb, .inl (E.2.1, 1920, .inl (va_cpy g f i (n * 80) k))), (es, .inl (E.2.2.1, 24, .inl sz)), (g0, .inl (E.2.1, Mg, .inl g))] := hD
  refine lv_aload_n hx hb d_El_push_35 rfl (lv_at hl 0 rfl) ?_
  refine n_get C fg_El_13 hP 0 rfl rfl d_El_push_36 ?_
  refine lv_aload_n hx hb d_El_push_39 rfl (lv_at hl 0 rfl) ?_
  refine n_get C fg_El_17 hP 0 rfl rfl d_El_push_40 ?_
  refine lv_iload_n hx hb d_El_push_43 rfl (lv_at hl 3 rfl) ?_
  refine n_iast C hP hD hS 2 rfl n rfl (by omega) (by omega) d_El_push_44 (fun H locs hP hD hS => ?_)
  have hP : va_P E.1 clz [(e0, .inr (1, [.ref eb, .ref es, .int (nI n)])), (eb, .inl (E.2.1, 1920, .inl (va_cpy g f i (n * 80) k))), (es, .inl (E.2.2.1, 24, .inl (upd sz n (nI k)))), (g0, .inl (E.2.1, Mg, .inl g))] H := hP
  have hD : va_D A [(e0, .inr (1, [.ref eb, .ref es, .int (nI n)])), (eb, .inl (E.2.1, 1920, .inl (va_cpy g f i (n * 80) k))), (es, .inl (E.2.2.1, 24, .inl (upd sz n (nI k)))), (g0, .inl (E.2.1, Mg, .inl g))] := hD
  refine lv_aload_n hx hb d_El_push_45 rfl (lv_at hl 0 rfl) ?_
  refine lv_dup hx hb d_El_push_46 rfl ?_
  refine n_get C fg_El_17 hP 0 rfl rfl d_El_push_47 ?_
  refine lv_iconst (v := nI 1) hx hb d_El_push_50 (by decide) ?_
  refine lv_iadd hx hb d_El_push_51 ?_
  refine tope (z := nI (n + 1)) (nI_add _ _) ?_
  refine n_put (v := .int (nI (n + 1))) C fp_El_17 hP hD hS 0 rfl (rfl) rfl (Nat.le_of_ble_eq_true rfl) d_El_push_52 (fun H locs hP hD hS => ?_)
  have hP : va_P E.1 clz [(e0, .inr (1, [.ref eb, .ref es, .int (nI (n + 1))])), (eb, .inl (E.2.1, 1920, .inl (va_cpy g f i (n * 80) k))), (es, .inl (E.2.2.1, 24, .inl (upd sz n (nI k)))), (g0, .inl (E.2.1, Mg, .inl g))] H := hP
  have hD : va_D A [(e0, .inr (1, [.ref eb, .ref es, .int (nI (n + 1))])), (eb, .inl (E.2.1, 1920, .inl (va_cpy g f i (n * 80) k))), (es, .inl (E.2.2.1, 24, .inl (upd sz n (nI k)))), (g0, .inl (E.2.1, Mg, .inl g))] := hD
  refine lv_iconst (v := nI 1) hx hb d_El_push_55 (by decide) ?_
  exact kret (nI 1) [(e0, .inr (1, [.ref eb, .ref es, .int (nI (n + 1))])), (eb, .inl (E.2.1, 1920, .inl (va_cpy g f i (n * 80) k))), (es, .inl (E.2.2.1, 24, .inl (upd sz n (nI k)))), (g0, .inl (E.2.1, Mg, .inl g))] _ _ _ _ d_El_push_56 (⟨rfl, rfl⟩) rfl hP hS

set_option maxHeartbeats 4000000 in
set_option maxRecDepth 100000 in
theorem c_El_push_full (l : Launch) (E : En) (e0 eb es n : Nat) (f sz : Nat → Int32) (i k : Nat) (g0 Mg : Nat) (g : Nat → Int32) (hn : 24 ≤ n) (hn2 : n < 2 ^ 31) : CtI l y_El_push b_El_push 4 .boolean (rmd 1) E [.ref e0, .ref g0, .int (nI i), .int (nI k)] [(e0, .inr (1, [.ref eb, .ref es, .int (nI n)])), (eb, .inl (E.2.1, 1920, .inl f)), (es, .inl (E.2.2.1, 24, .inl sz)), (g0, .inl (E.2.1, Mg, .inl g))] (fun r w => r = b2 false ∧ w = [(e0, .inr (1, [.ref eb, .ref es, .int (nI n)])), (eb, .inl (E.2.1, 1920, .inl f)), (es, .inl (E.2.2.1, 24, .inl sz)), (g0, .inl (E.2.1, Mg, .inl g))]) := by
  refine CtI.of (by decide) (Nat.le_of_ble_eq_true rfl) (fun r w h => by obtain ⟨rfl, _⟩ := h; exact b2_nar _) ?_
  intro p e s m args below meth c A Q H locs ls C hP hD hS hl kret
  have hx := C.1
  have hb := C.2.1
  have hl : lv_has ls 4 [(0, .ref e0), (1, .ref g0), (2, .int (nI i)), (3, .int (nI k))] := hl
  refine lv_aload_n hx hb d_El_push_0 rfl (lv_at hl 0 rfl) ?_
  refine n_get C fg_El_17 hP 0 rfl rfl d_El_push_1 ?_
  refine lv_bipush (v := nI 24) hx hb d_El_push_4 (by decide) ?_
  refine j_ge C n 24 rfl rfl (by omega) (by omega) d_El_push_6 rfl (fun h1 => ?_) (fun h1 => absurd h1 (by omega))
  refine lv_iconst (v := nI 0) hx hb d_El_push_15 (by decide) ?_
  exact kret (nI 0) [(e0, .inr (1, [.ref eb, .ref es, .int (nI n)])), (eb, .inl (E.2.1, 1920, .inl f)), (es, .inl (E.2.2.1, 24, .inl sz)), (g0, .inl (E.2.1, Mg, .inl g))] _ _ _ _ d_El_push_16 (⟨rfl, rfl⟩) rfl hP hS

set_option maxHeartbeats 4000000 in
set_option maxRecDepth 100000 in
theorem c_El_pushA (l : Launch) (E : En) (e0 eb es n : Nat) (f sz : Nat → Int32) (i k : Nat) (hn : n < 24) (hk : k ≤ 80) (hi : i + k ≤ 1920) (hB : fB f) : CtI l y_El_push b_El_push 4 .boolean (rmd 1) E [.ref e0, .ref eb, .int (nI i), .int (nI k)] [(e0, .inr (1, [.ref eb, .ref es, .int (nI n)])), (eb, .inl (E.2.1, 1920, .inl f)), (es, .inl (E.2.2.1, 24, .inl sz))] (fun r w => r = b2 true ∧ w = [(e0, .inr (1, [.ref eb, .ref es, .int (nI (n + 1))])), (eb, .inl (E.2.1, 1920, .inl (va_cpy f f i (n * 80) k))), (es, .inl (E.2.2.1, 24, .inl (upd sz n (nI k))))]) := by
  refine CtI.of (by decide) (Nat.le_of_ble_eq_true rfl) (fun r w h => by obtain ⟨rfl, _⟩ := h; exact b2_nar _) ?_
  intro p e s m args below meth c A Q H locs ls C hP hD hS hl kret
  have hx := C.1
  have hb := C.2.1
  have hl : lv_has ls 4 [(0, .ref e0), (1, .ref eb), (2, .int (nI i)), (3, .int (nI k))] := hl
  refine lv_aload_n hx hb d_El_push_0 rfl (lv_at hl 0 rfl) ?_
  refine n_get C fg_El_17 hP 0 rfl rfl d_El_push_1 ?_
  refine lv_bipush (v := nI 24) hx hb d_El_push_4 (by decide) ?_
  refine j_ge C n 24 rfl rfl (by omega) (by omega) d_El_push_6 rfl (fun h1 => absurd h1 (by omega)) (fun h1 => ?_)
  refine lv_iload_n hx hb d_El_push_9 rfl (lv_at hl 3 rfl) ?_
  refine lv_bipush (v := nI 80) hx hb d_El_push_10 (by decide) ?_
  refine j_le C k 80 rfl rfl (by omega) (by omega) d_El_push_12 rfl (fun h2 => ?_) (fun h2 => absurd h2 (by omega))
  refine lv_aload_n hx hb d_El_push_17 rfl (lv_at hl 1 rfl) ?_
  refine lv_iload_n hx hb d_El_push_18 rfl (lv_at hl 2 rfl) ?_
  refine lv_aload_n hx hb d_El_push_19 rfl (lv_at hl 0 rfl) ?_
  refine n_get C fg_El_9 hP 0 rfl rfl d_El_push_20 ?_
  refine lv_aload_n hx hb d_El_push_23 rfl (lv_at hl 0 rfl) ?_
  refine lv_aload_n hx hb d_El_push_24 rfl (lv_at hl 0 rfl) ?_
  refine n_get C fg_El_17 hP 0 rfl rfl d_El_push_25 ?_
  refine cal_I (As := [.int (nI n)]) (rest := [.ref eb, .int (nI i), .ref eb]) C lk_El_21 (c_El_place l E e0 n) (by decide) hP hD hS 0 1 rfl rfl [] rfl (by decide) hl.1 rfl (Nat.le_of_ble_eq_true rfl) d_El_push_28 (fun r3 w1 H locs hp4 hP hD hS => ?_)
  obtain ⟨rfl, rfl⟩ := hp4
  have hP : va_P E.1 clz [(e0, .inr (1, [.ref eb, .ref es, .int (nI n)])), (eb, .inl (E.2.1, 1920, .inl f)), (es, .inl (E.2.2.1, 24, .inl sz))] H := hP
  have hD : va_D A [(e0, .inr (1, [.ref eb, .ref es, .int (nI n)])), (eb, .inl (E.2.1, 1920, .inl f)), (es, .inl (E.2.2.1, 24, .inl sz))] := hD
  refine lv_iload_n hx hb d_El_push_31 rfl (lv_at hl 3 rfl) ?_
  refine n_cpy C lk_El_25 hP hD hS 1 1 rfl rfl i (n * 80) k rfl rfl rfl (by omega) (by omega) ⟨by omega, by omega⟩ (hB) hl.1 (by decide) (by decide) d_El_push_32 (fun H locs hP hD hS => ?_)
  have hP : va_P E.1 clz [(e0, .inr (1, [.ref eb, .ref es, .int (nI n)])), (eb, .inl (E.2.1, 1920, .inl (va_cpy f f i (n * 80) k))), (es, .inl (E.2.2.1, 24, .inl sz))] H := hP
  have hD : va_D A [(e0, .inr (1, [.ref eb, .ref es, .int (nI n)])), (eb, .inl (E.2.1, 1920, .inl (va_cpy f f i (n * 80) k))), (es, .inl (E.2.2.1, 24, .inl sz))] := hD
  refine lv_aload_n hx hb d_El_push_35 rfl (lv_at hl 0 rfl) ?_
  refine n_get C fg_El_13 hP 0 rfl rfl d_El_push_36 ?_
  refine lv_aload_n hx hb d_El_push_39 rfl (lv_at hl 0 rfl) ?_
  refine n_get C fg_El_17 hP 0 rfl rfl d_El_push_40 ?_
  refine lv_iload_n hx hb d_El_push_43 rfl (lv_at hl 3 rfl) ?_
  refine n_iast C hP hD hS 2 rfl n rfl (by omega) (by omega) d_El_push_44 (fun H locs hP hD hS => ?_)
  have hP : va_P E.1 clz [(e0, .inr (1, [.ref eb, .ref es, .int (nI n)])), (eb, .inl (E.2.1, 1920, .inl (va_cpy f f i (n * 80) k))), (es, .inl (E.2.2.1, 24, .inl (upd sz n (nI k))))] H := hP
  have hD : va_D A [(e0, .inr (1, [.ref eb, .ref es, .int (nI n)])), (eb, .inl (E.2.1, 1920, .inl (va_cpy f f i (n * 80) k))), (es, .inl (E.2.2.1, 24, .inl (upd sz n (nI k))))] := hD
  refine lv_aload_n hx hb d_El_push_45 rfl (lv_at hl 0 rfl) ?_
  refine lv_dup hx hb d_El_push_46 rfl ?_
  refine n_get C fg_El_17 hP 0 rfl rfl d_El_push_47 ?_
  refine lv_iconst (v := nI 1) hx hb d_El_push_50 (by decide) ?_
  refine lv_iadd hx hb d_El_push_51 ?_
  refine tope (z := nI (n + 1)) (nI_add _ _) ?_
  refine n_put (v := .int (nI (n + 1))) C fp_El_17 hP hD hS 0 rfl (rfl) rfl (Nat.le_of_ble_eq_true rfl) d_El_push_52 (fun H locs hP hD hS => ?_)
  have hP : va_P E.1 clz [(e0, .inr (1, [.ref eb, .ref es, .int (nI (n + 1))])), (eb, .inl (E.2.1, 1920, .inl (va_cpy f f i (n * 80) k))), (es, .inl (E.2.2.1, 24, .inl (upd sz n (nI k))))] H := hP
  have hD : va_D A [(e0, .inr (1, [.ref eb, .ref es, .int (nI (n + 1))])), (eb, .inl (E.2.1, 1920, .inl (va_cpy f f i (n * 80) k))), (es, .inl (E.2.2.1, 24, .inl (upd sz n (nI k))))] := hD
  refine lv_iconst (v := nI 1) hx hb d_El_push_55 (by decide) ?_
  exact kret (nI 1) [(e0, .inr (1, [.ref eb, .ref es, .int (nI (n + 1))])), (eb, .inl (E.2.1, 1920, .inl (va_cpy f f i (n * 80) k))), (es, .inl (E.2.2.1, 24, .inl (upd sz n (nI k))))] _ _ _ _ d_El_push_56 (⟨rfl, rfl⟩) rfl hP hS

set_option maxHeartbeats 4000000 in
set_option maxRecDepth 100000 in
theorem c_El_pushA_full (l : Launch) (E : En) (e0 eb es n : Nat) (f sz : Nat → Int32) (i k : Nat) (hn : 24 ≤ n) (hn2 : n < 2 ^ 31) : CtI l y_El_push b_El_push 4 .boolean (rmd 1) E [.ref e0, .ref eb, .int (nI i), .int (nI k)] [(e0, .inr (1, [.ref eb, .ref es, .int (nI n)])), (eb, .inl (E.2.1, 1920, .inl f)), (es, .inl (E.2.2.1, 24, .inl sz))] (fun r w => r = b2 false ∧ w = [(e0, .inr (1, [.ref eb, .ref es, .int (nI n)])), (eb, .inl (E.2.1, 1920, .inl f)), (es, .inl (E.2.2.1, 24, .inl sz))]) := by
  refine CtI.of (by decide) (Nat.le_of_ble_eq_true rfl) (fun r w h => by obtain ⟨rfl, _⟩ := h; exact b2_nar _) ?_
  intro p e s m args below meth c A Q H locs ls C hP hD hS hl kret
  have hx := C.1
  have hb := C.2.1
  have hl : lv_has ls 4 [(0, .ref e0), (1, .ref eb), (2, .int (nI i)), (3, .int (nI k))] := hl
  refine lv_aload_n hx hb d_El_push_0 rfl (lv_at hl 0 rfl) ?_
  refine n_get C fg_El_17 hP 0 rfl rfl d_El_push_1 ?_
  refine lv_bipush (v := nI 24) hx hb d_El_push_4 (by decide) ?_
  refine j_ge C n 24 rfl rfl (by omega) (by omega) d_El_push_6 rfl (fun h1 => ?_) (fun h1 => absurd h1 (by omega))
  refine lv_iconst (v := nI 0) hx hb d_El_push_15 (by decide) ?_
  exact kret (nI 0) [(e0, .inr (1, [.ref eb, .ref es, .int (nI n)])), (eb, .inl (E.2.1, 1920, .inl f)), (es, .inl (E.2.2.1, 24, .inl sz))] _ _ _ _ d_El_push_16 (⟨rfl, rfl⟩) rfl hP hS

def pn4 (f : Nat → Int32) (o : Nat) (v : Int32) : Nat → Int32 := upd (upd (upd (upd f (o + 0) (nb (us v (nI 24)))) (o + 1) (nb (us v (nI 16)))) (o + 2) (nb (us v (nI 8)))) (o + 3) (nb (us v (nI 0)))
def pnz (v : Int32) : Int32 := if v = 0 then nI 0 else nI 4
theorem pnz_0 {v : Int32} (h : v = 0) : pnz v = nI 0 := if_pos h
theorem pnz_4 {v : Int32} (h : ¬ v = 0) : pnz v = nI 4 := if_neg h

set_option maxHeartbeats 4000000 in
set_option maxRecDepth 100000 in
theorem c_El_pushNumber (l : Launch) (E : En) (e0 eb es n : Nat) (f sz : Nat → Int32) (v : Int32) (hn : n < 24) : CtI l y_El_pushNumber b_El_pushNumber 4 .boolean (rmd 1) E [.ref e0, .int v] [(e0, .inr (1, [.ref eb, .ref es, .int (nI n)])), (eb, .inl (E.2.1, 1920, .inl f)), (es, .inl (E.2.2.1, 24, .inl sz))] (fun r w => r = b2 true ∧ w = [(e0, .inr (1, [.ref eb, .ref es, .int (nI (n + 1))])), (eb, .inl (E.2.1, 1920, .inl (pn4 f (n * 80) v))), (es, .inl (E.2.2.1, 24, .inl (upd sz n (pnz v))))]) := by
  refine CtI.of (by decide) (Nat.le_of_ble_eq_true rfl) (fun r w h => by obtain ⟨rfl, _⟩ := h; exact b2_nar _) ?_
  intro p e s m args below meth c A Q H locs ls C hP hD hS hl kret
  have hx := C.1
  have hb := C.2.1
  have hl : lv_has ls 4 [(0, .ref e0), (1, .int v)] := hl
  refine lv_aload_n hx hb d_El_pushNumber_0 rfl (lv_at hl 0 rfl) ?_
  refine n_get C fg_El_17 hP 0 rfl rfl d_El_pushNumber_1 ?_
  refine lv_bipush (v := nI 24) hx hb d_El_pushNumber_4 (by decide) ?_
  refine j_lt C n 24 rfl rfl (by omega) (by omega) d_El_pushNumber_6 rfl (fun h1 => ?_) (fun h1 => absurd h1 (by omega))
  refine lv_aload_n hx hb d_El_pushNumber_11 rfl (lv_at hl 0 rfl) ?_
  refine lv_aload_n hx hb d_El_pushNumber_12 rfl (lv_at hl 0 rfl) ?_
  refine n_get C fg_El_17 hP 0 rfl rfl d_El_pushNumber_13 ?_
  refine cal_I (As := [.int (nI n)]) (rest := []) C lk_El_21 (c_El_place l E e0 n) (by decide) hP hD hS 0 1 rfl rfl [] rfl (by decide) hl.1 rfl (Nat.le_of_ble_eq_true rfl) d_El_pushNumber_16 (fun r2 w1 H locs hp3 hP hD hS => ?_)
  obtain ⟨rfl, rfl⟩ := hp3
  have hP : va_P E.1 clz [(e0, .inr (1, [.ref eb, .ref es, .int (nI n)])), (eb, .inl (E.2.1, 1920, .inl f)), (es, .inl (E.2.2.1, 24, .inl sz))] H := hP
  have hD : va_D A [(e0, .inr (1, [.ref eb, .ref es, .int (nI n)])), (eb, .inl (E.2.1, 1920, .inl f)), (es, .inl (E.2.2.1, 24, .inl sz))] := hD
  refine lv_istore_n (lv' := [(2, .int (nI (n * 80))), (0, .ref e0), (1, .int v)]) hx hb d_El_pushNumber_19 rfl hl (by decide) rfl (fun ls hl => ?_)
  refine lv_iconst (v := nI 0) hx hb d_El_pushNumber_20 (by decide) ?_
  refine lv_istore_n (lv' := [(3, .int (nI 0)), (2, .int (nI (n * 80))), (0, .ref e0), (1, .int v)]) hx hb d_El_pushNumber_21 rfl hl (by decide) rfl (fun ls hl => ?_)
  refine lv_iload_n hx hb d_El_pushNumber_22 rfl (lv_at hl 0 rfl) ?_
  refine lv_iconst (v := nI 4) hx hb d_El_pushNumber_23 (by decide) ?_
  refine j_ge C 0 4 rfl rfl (by decide) (by decide) d_El_pushNumber_24 rfl (fun h4 => absurd h4 (by decide)) (fun h4 => ?_)
  refine lv_aload_n hx hb d_El_pushNumber_27 rfl (lv_at hl 2 rfl) ?_
  refine n_get C fg_El_9 hP 0 rfl rfl d_El_pushNumber_28 ?_
  refine lv_iload_n hx hb d_El_pushNumber_31 rfl (lv_at hl 1 rfl) ?_
  refine lv_iload_n hx hb d_El_pushNumber_32 rfl (lv_at hl 0 rfl) ?_
  refine lv_iadd hx hb d_El_pushNumber_33 ?_
  refine tope (z := nI ((n * 80) + 0)) (nI_add _ _) ?_
  refine lv_iload_n hx hb d_El_pushNumber_34 rfl (lv_at hl 3 rfl) ?_
  refine lv_bipush (v := nI 24) hx hb d_El_pushNumber_35 (by decide) ?_
  refine lv_iload_n hx hb d_El_pushNumber_37 rfl (lv_at hl 0 rfl) ?_
  refine lv_bipush (v := nI 8) hx hb d_El_pushNumber_38 (by decide) ?_
  refine lv_imul hx hb d_El_pushNumber_40 ?_
  refine tope (z := nI 0) (pk_mul _ _) ?_
  refine lv_isub hx hb d_El_pushNumber_41 ?_
  refine tope (z := nI 24) (pk_sub (by omega)) ?_
  refine lv_iushr (v := us v (nI 24)) hx hb d_El_pushNumber_42 rfl ?_
  refine lv_i2b (v := nb (us v (nI 24))) hx hb d_El_pushNumber_43 rfl ?_
  refine n_bast (z := nb (us v (nI 24))) C hP hD hS 1 rfl ((n * 80) + 0) rfl (nb_nb _) (by omega) (by omega) d_El_pushNumber_44 (fun H locs hP hD hS => ?_)
  have hP : va_P E.1 clz [(e0, .inr (1, [.ref eb, .ref es, .int (nI n)])), (eb, .inl (E.2.1, 1920, .inl (upd f ((n * 80) + 0) (nb (us v (nI 24)))))), (es, .inl (E.2.2.1, 24, .inl sz))] H := hP
  have hD : va_D A [(e0, .inr (1, [.ref eb, .ref es, .int (nI n)])), (eb, .inl (E.2.1, 1920, .inl (upd f ((n * 80) + 0) (nb (us v (nI 24)))))), (es, .inl (E.2.2.1, 24, .inl sz))] := hD
  refine lv_iinc (k := 0) (v := nI 1) (lv' := [(3, .int (nI 1)), (2, .int (nI (n * 80))), (0, .ref e0), (1, .int v)]) hx hb d_El_pushNumber_45 hl rfl (iincK 0 1) (by decide) rfl (fun ls hl => ?_)
  refine lv_goto hx hb d_El_pushNumber_48 rfl ?_
  refine lv_iload_n hx hb d_El_pushNumber_22 rfl (lv_at hl 0 rfl) ?_
  refine lv_iconst (v := nI 4) hx hb d_El_pushNumber_23 (by decide) ?_
  refine j_ge C 1 4 rfl rfl (by decide) (by decide) d_El_pushNumber_24 rfl (fun h5 => absurd h5 (by decide)) (fun h5 => ?_)
  refine lv_aload_n hx hb d_El_pushNumber_27 rfl (lv_at hl 2 rfl) ?_
  refine n_get C fg_El_9 hP 0 rfl rfl d_El_pushNumber_28 ?_
  refine lv_iload_n hx hb d_El_pushNumber_31 rfl (lv_at hl 1 rfl) ?_
  refine lv_iload_n hx hb d_El_pushNumber_32 rfl (lv_at hl 0 rfl) ?_
  refine lv_iadd hx hb d_El_pushNumber_33 ?_
  refine tope (z := nI ((n * 80) + 1)) (nI_add _ _) ?_
  refine lv_iload_n hx hb d_El_pushNumber_34 rfl (lv_at hl 3 rfl) ?_
  refine lv_bipush (v := nI 24) hx hb d_El_pushNumber_35 (by decide) ?_
  refine lv_iload_n hx hb d_El_pushNumber_37 rfl (lv_at hl 0 rfl) ?_
  refine lv_bipush (v := nI 8) hx hb d_El_pushNumber_38 (by decide) ?_
  refine lv_imul hx hb d_El_pushNumber_40 ?_
  refine tope (z := nI 8) (pk_mul _ _) ?_
  refine lv_isub hx hb d_El_pushNumber_41 ?_
  refine tope (z := nI 16) (pk_sub (by omega)) ?_
  refine lv_iushr (v := us v (nI 16)) hx hb d_El_pushNumber_42 rfl ?_
  refine lv_i2b (v := nb (us v (nI 16))) hx hb d_El_pushNumber_43 rfl ?_
  refine n_bast (z := nb (us v (nI 16))) C hP hD hS 1 rfl ((n * 80) + 1) rfl (nb_nb _) (by omega) (by omega) d_El_pushNumber_44 (fun H locs hP hD hS => ?_)
  have hP : va_P E.1 clz [(e0, .inr (1, [.ref eb, .ref es, .int (nI n)])), (eb, .inl (E.2.1, 1920, .inl (upd (upd f ((n * 80) + 0) (nb (us v (nI 24)))) ((n * 80) + 1) (nb (us v (nI 16)))))), (es, .inl (E.2.2.1, 24, .inl sz))] H := hP
  have hD : va_D A [(e0, .inr (1, [.ref eb, .ref es, .int (nI n)])), (eb, .inl (E.2.1, 1920, .inl (upd (upd f ((n * 80) + 0) (nb (us v (nI 24)))) ((n * 80) + 1) (nb (us v (nI 16)))))), (es, .inl (E.2.2.1, 24, .inl sz))] := hD
  refine lv_iinc (k := 0) (v := nI 2) (lv' := [(3, .int (nI 2)), (2, .int (nI (n * 80))), (0, .ref e0), (1, .int v)]) hx hb d_El_pushNumber_45 hl rfl (iincK 1 1) (by decide) rfl (fun ls hl => ?_)
  refine lv_goto hx hb d_El_pushNumber_48 rfl ?_
  refine lv_iload_n hx hb d_El_pushNumber_22 rfl (lv_at hl 0 rfl) ?_
  refine lv_iconst (v := nI 4) hx hb d_El_pushNumber_23 (by decide) ?_
  refine j_ge C 2 4 rfl rfl (by decide) (by decide) d_El_pushNumber_24 rfl (fun h6 => absurd h6 (by decide)) (fun h6 => ?_)
  refine lv_aload_n hx hb d_El_pushNumber_27 rfl (lv_at hl 2 rfl) ?_
  refine n_get C fg_El_9 hP 0 rfl rfl d_El_pushNumber_28 ?_
  refine lv_iload_n hx hb d_El_pushNumber_31 rfl (lv_at hl 1 rfl) ?_
  refine lv_iload_n hx hb d_El_pushNumber_32 rfl (lv_at hl 0 rfl) ?_
  refine lv_iadd hx hb d_El_pushNumber_33 ?_
  refine tope (z := nI ((n * 80) + 2)) (nI_add _ _) ?_
  refine lv_iload_n hx hb d_El_pushNumber_34 rfl (lv_at hl 3 rfl) ?_
  refine lv_bipush (v := nI 24) hx hb d_El_pushNumber_35 (by decide) ?_
  refine lv_iload_n hx hb d_El_pushNumber_37 rfl (lv_at hl 0 rfl) ?_
  refine lv_bipush (v := nI 8) hx hb d_El_pushNumber_38 (by decide) ?_
  refine lv_imul hx hb d_El_pushNumber_40 ?_
  refine tope (z := nI 16) (pk_mul _ _) ?_
  refine lv_isub hx hb d_El_pushNumber_41 ?_
  refine tope (z := nI 8) (pk_sub (by omega)) ?_
  refine lv_iushr (v := us v (nI 8)) hx hb d_El_pushNumber_42 rfl ?_
  refine lv_i2b (v := nb (us v (nI 8))) hx hb d_El_pushNumber_43 rfl ?_
  refine n_bast (z := nb (us v (nI 8))) C hP hD hS 1 rfl ((n * 80) + 2) rfl (nb_nb _) (by omega) (by omega) d_El_pushNumber_44 (fun H locs hP hD hS => ?_)
  have hP : va_P E.1 clz [(e0, .inr (1, [.ref eb, .ref es, .int (nI n)])), (eb, .inl (E.2.1, 1920, .inl (upd (upd (upd f ((n * 80) + 0) (nb (us v (nI 24)))) ((n * 80) + 1) (nb (us v (nI 16)))) ((n * 80) + 2) (nb (us v (nI 8)))))), (es, .inl (E.2.2.1, 24, .inl sz))] H := hP
  have hD : va_D A [(e0, .inr (1, [.ref eb, .ref es, .int (nI n)])), (eb, .inl (E.2.1, 1920, .inl (upd (upd (upd f ((n * 80) + 0) (nb (us v (nI 24)))) ((n * 80) + 1) (nb (us v (nI 16)))) ((n * 80) + 2) (nb (us v (nI 8)))))), (es, .inl (E.2.2.1, 24, .inl sz))] := hD
  refine lv_iinc (k := 0) (v := nI 3) (lv' := [(3, .int (nI 3)), (2, .int (nI (n * 80))), (0, .ref e0), (1, .int v)]) hx hb d_El_pushNumber_45 hl rfl (iincK 2 1) (by decide) rfl (fun ls hl => ?_)
  refine lv_goto hx hb d_El_pushNumber_48 rfl ?_
  refine lv_iload_n hx hb d_El_pushNumber_22 rfl (lv_at hl 0 rfl) ?_
  refine lv_iconst (v := nI 4) hx hb d_El_pushNumber_23 (by decide) ?_
  refine j_ge C 3 4 rfl rfl (by decide) (by decide) d_El_pushNumber_24 rfl (fun h7 => absurd h7 (by decide)) (fun h7 => ?_)
  refine lv_aload_n hx hb d_El_pushNumber_27 rfl (lv_at hl 2 rfl) ?_
  refine n_get C fg_El_9 hP 0 rfl rfl d_El_pushNumber_28 ?_
  refine lv_iload_n hx hb d_El_pushNumber_31 rfl (lv_at hl 1 rfl) ?_
  refine lv_iload_n hx hb d_El_pushNumber_32 rfl (lv_at hl 0 rfl) ?_
  refine lv_iadd hx hb d_El_pushNumber_33 ?_
  refine tope (z := nI ((n * 80) + 3)) (nI_add _ _) ?_
  refine lv_iload_n hx hb d_El_pushNumber_34 rfl (lv_at hl 3 rfl) ?_
  refine lv_bipush (v := nI 24) hx hb d_El_pushNumber_35 (by decide) ?_
  refine lv_iload_n hx hb d_El_pushNumber_37 rfl (lv_at hl 0 rfl) ?_
  refine lv_bipush (v := nI 8) hx hb d_El_pushNumber_38 (by decide) ?_
  refine lv_imul hx hb d_El_pushNumber_40 ?_
  refine tope (z := nI 24) (pk_mul _ _) ?_
  refine lv_isub hx hb d_El_pushNumber_41 ?_
  refine tope (z := nI 0) (pk_sub (by omega)) ?_
  refine lv_iushr (v := us v (nI 0)) hx hb d_El_pushNumber_42 rfl ?_
  refine lv_i2b (v := nb (us v (nI 0))) hx hb d_El_pushNumber_43 rfl ?_
  refine n_bast (z := nb (us v (nI 0))) C hP hD hS 1 rfl ((n * 80) + 3) rfl (nb_nb _) (by omega) (by omega) d_El_pushNumber_44 (fun H locs hP hD hS => ?_)
  have hP : va_P E.1 clz [(e0, .inr (1, [.ref eb, .ref es, .int (nI n)])), (eb, .inl (E.2.1, 1920, .inl (upd (upd (upd (upd f ((n * 80) + 0) (nb (us v (nI 24)))) ((n * 80) + 1) (nb (us v (nI 16)))) ((n * 80) + 2) (nb (us v (nI 8)))) ((n * 80) + 3) (nb (us v (nI 0)))))), (es, .inl (E.2.2.1, 24, .inl sz))] H := hP
  have hD : va_D A [(e0, .inr (1, [.ref eb, .ref es, .int (nI n)])), (eb, .inl (E.2.1, 1920, .inl (upd (upd (upd (upd f ((n * 80) + 0) (nb (us v (nI 24)))) ((n * 80) + 1) (nb (us v (nI 16)))) ((n * 80) + 2) (nb (us v (nI 8)))) ((n * 80) + 3) (nb (us v (nI 0)))))), (es, .inl (E.2.2.1, 24, .inl sz))] := hD
  refine lv_iinc (k := 0) (v := nI 4) (lv' := [(3, .int (nI 4)), (2, .int (nI (n * 80))), (0, .ref e0), (1, .int v)]) hx hb d_El_pushNumber_45 hl rfl (iincK 3 1) (by decide) rfl (fun ls hl => ?_)
  refine lv_goto hx hb d_El_pushNumber_48 rfl ?_
  refine lv_iload_n hx hb d_El_pushNumber_22 rfl (lv_at hl 0 rfl) ?_
  refine lv_iconst (v := nI 4) hx hb d_El_pushNumber_23 (by decide) ?_
  refine j_ge C 4 4 rfl rfl (by decide) (by decide) d_El_pushNumber_24 rfl (fun h8 => ?_) (fun h8 => absurd h8 (by decide))
  refine lv_aload_n hx hb d_El_pushNumber_51 rfl (lv_at hl 2 rfl) ?_
  refine n_get C fg_El_13 hP 0 rfl rfl d_El_pushNumber_52 ?_
  refine lv_aload_n hx hb d_El_pushNumber_55 rfl (lv_at hl 2 rfl) ?_
  refine n_get C fg_El_17 hP 0 rfl rfl d_El_pushNumber_56 ?_
  refine lv_iload_n hx hb d_El_pushNumber_59 rfl (lv_at hl 3 rfl) ?_
  refine lv_if_ne hx hb d_El_pushNumber_60 rfl (fun h9 => ?_) (fun h9 => ?_)
  · refine lv_iconst (v := nI 4) hx hb d_El_pushNumber_67 (by decide) ?_
    refine tope (z := pnz v) ((pnz_4 (by assumption)).symm) ?_
    refine n_iast C hP hD hS 2 rfl n rfl (by omega) (by omega) d_El_pushNumber_68 (fun H locs hP hD hS => ?_)
    have hP : va_P E.1 clz [(e0, .inr (1, [.ref eb, .ref es, .int (nI n)])), (eb, .inl (E.2.1, 1920, .inl (upd (upd (upd (upd f ((n * 80) + 0) (nb (us v (nI 24)))) ((n * 80) + 1) (nb (us v (nI 16)))) ((n * 80) + 2) (nb (us v (nI 8)))) ((n * 80) + 3) (nb (us v (nI 0)))))), (es, .inl (E.2.2.1, 24, .inl (upd sz n (pnz v))))] H := hP
    have hD : va_D A [(e0, .inr (1, [.ref eb, .ref es, .int (nI n)])), (eb, .inl (E.2.1, 1920, .inl (upd (upd (upd (upd f ((n * 80) + 0) (nb (us v (nI 24)))) ((n * 80) + 1) (nb (us v (nI 16)))) ((n * 80) + 2) (nb (us v (nI 8)))) ((n * 80) + 3) (nb (us v (nI 0)))))), (es, .inl (E.2.2.1, 24, .inl (upd sz n (pnz v))))] := hD
    refine lv_aload_n hx hb d_El_pushNumber_69 rfl (lv_at hl 2 rfl) ?_
    refine lv_dup hx hb d_El_pushNumber_70 rfl ?_
    refine n_get C fg_El_17 hP 0 rfl rfl d_El_pushNumber_71 ?_
    refine lv_iconst (v := nI 1) hx hb d_El_pushNumber_74 (by decide) ?_
    refine lv_iadd hx hb d_El_pushNumber_75 ?_
    refine tope (z := nI (n + 1)) (nI_add _ _) ?_
    refine n_put (v := .int (nI (n + 1))) C fp_El_17 hP hD hS 0 rfl (rfl) rfl (Nat.le_of_ble_eq_true rfl) d_El_pushNumber_76 (fun H locs hP hD hS => ?_)
    have hP : va_P E.1 clz [(e0, .inr (1, [.ref eb, .ref es, .int (nI (n + 1))])), (eb, .inl (E.2.1, 1920, .inl (upd (upd (upd (upd f ((n * 80) + 0) (nb (us v (nI 24)))) ((n * 80) + 1) (nb (us v (nI 16)))) ((n * 80) + 2) (nb (us v (nI 8)))) ((n * 80) + 3) (nb (us v (nI 0)))))), (es, .inl (E.2.2.1, 24, .inl (upd sz n (pnz v))))] H := hP
    have hD : va_D A [(e0, .inr (1, [.ref eb, .ref es, .int (nI (n + 1))])), (eb, .inl (E.2.1, 1920, .inl (upd (upd (upd (upd f ((n * 80) + 0) (nb (us v (nI 24)))) ((n * 80) + 1) (nb (us v (nI 16)))) ((n * 80) + 2) (nb (us v (nI 8)))) ((n * 80) + 3) (nb (us v (nI 0)))))), (es, .inl (E.2.2.1, 24, .inl (upd sz n (pnz v))))] := hD
    refine lv_iconst (v := nI 1) hx hb d_El_pushNumber_79 (by decide) ?_
    exact kret (nI 1) [(e0, .inr (1, [.ref eb, .ref es, .int (nI (n + 1))])), (eb, .inl (E.2.1, 1920, .inl (upd (upd (upd (upd f ((n * 80) + 0) (nb (us v (nI 24)))) ((n * 80) + 1) (nb (us v (nI 16)))) ((n * 80) + 2) (nb (us v (nI 8)))) ((n * 80) + 3) (nb (us v (nI 0)))))), (es, .inl (E.2.2.1, 24, .inl (upd sz n (pnz v))))] _ _ _ _ d_El_pushNumber_80 (⟨rfl, rfl⟩) rfl hP hS
  · refine lv_iconst (v := nI 0) hx hb d_El_pushNumber_63 (by decide) ?_
    refine lv_goto hx hb d_El_pushNumber_64 rfl ?_
    refine tope (z := pnz v) ((pnz_0 (by assumption)).symm) ?_
    refine n_iast C hP hD hS 2 rfl n rfl (by omega) (by omega) d_El_pushNumber_68 (fun H locs hP hD hS => ?_)
    have hP : va_P E.1 clz [(e0, .inr (1, [.ref eb, .ref es, .int (nI n)])), (eb, .inl (E.2.1, 1920, .inl (upd (upd (upd (upd f ((n * 80) + 0) (nb (us v (nI 24)))) ((n * 80) + 1) (nb (us v (nI 16)))) ((n * 80) + 2) (nb (us v (nI 8)))) ((n * 80) + 3) (nb (us v (nI 0)))))), (es, .inl (E.2.2.1, 24, .inl (upd sz n (pnz v))))] H := hP
    have hD : va_D A [(e0, .inr (1, [.ref eb, .ref es, .int (nI n)])), (eb, .inl (E.2.1, 1920, .inl (upd (upd (upd (upd f ((n * 80) + 0) (nb (us v (nI 24)))) ((n * 80) + 1) (nb (us v (nI 16)))) ((n * 80) + 2) (nb (us v (nI 8)))) ((n * 80) + 3) (nb (us v (nI 0)))))), (es, .inl (E.2.2.1, 24, .inl (upd sz n (pnz v))))] := hD
    refine lv_aload_n hx hb d_El_pushNumber_69 rfl (lv_at hl 2 rfl) ?_
    refine lv_dup hx hb d_El_pushNumber_70 rfl ?_
    refine n_get C fg_El_17 hP 0 rfl rfl d_El_pushNumber_71 ?_
    refine lv_iconst (v := nI 1) hx hb d_El_pushNumber_74 (by decide) ?_
    refine lv_iadd hx hb d_El_pushNumber_75 ?_
    refine tope (z := nI (n + 1)) (nI_add _ _) ?_
    refine n_put (v := .int (nI (n + 1))) C fp_El_17 hP hD hS 0 rfl (rfl) rfl (Nat.le_of_ble_eq_true rfl) d_El_pushNumber_76 (fun H locs hP hD hS => ?_)
    have hP : va_P E.1 clz [(e0, .inr (1, [.ref eb, .ref es, .int (nI (n + 1))])), (eb, .inl (E.2.1, 1920, .inl (upd (upd (upd (upd f ((n * 80) + 0) (nb (us v (nI 24)))) ((n * 80) + 1) (nb (us v (nI 16)))) ((n * 80) + 2) (nb (us v (nI 8)))) ((n * 80) + 3) (nb (us v (nI 0)))))), (es, .inl (E.2.2.1, 24, .inl (upd sz n (pnz v))))] H := hP
    have hD : va_D A [(e0, .inr (1, [.ref eb, .ref es, .int (nI (n + 1))])), (eb, .inl (E.2.1, 1920, .inl (upd (upd (upd (upd f ((n * 80) + 0) (nb (us v (nI 24)))) ((n * 80) + 1) (nb (us v (nI 16)))) ((n * 80) + 2) (nb (us v (nI 8)))) ((n * 80) + 3) (nb (us v (nI 0)))))), (es, .inl (E.2.2.1, 24, .inl (upd sz n (pnz v))))] := hD
    refine lv_iconst (v := nI 1) hx hb d_El_pushNumber_79 (by decide) ?_
    exact kret (nI 1) [(e0, .inr (1, [.ref eb, .ref es, .int (nI (n + 1))])), (eb, .inl (E.2.1, 1920, .inl (upd (upd (upd (upd f ((n * 80) + 0) (nb (us v (nI 24)))) ((n * 80) + 1) (nb (us v (nI 16)))) ((n * 80) + 2) (nb (us v (nI 8)))) ((n * 80) + 3) (nb (us v (nI 0)))))), (es, .inl (E.2.2.1, 24, .inl (upd sz n (pnz v))))] _ _ _ _ d_El_pushNumber_80 (⟨rfl, rfl⟩) rfl hP hS

set_option maxHeartbeats 4000000 in
set_option maxRecDepth 100000 in
theorem c_El_pushNumber_full (l : Launch) (E : En) (e0 eb es n : Nat) (f sz : Nat → Int32) (v : Int32) (hn : 24 ≤ n) (hn2 : n < 2 ^ 31) : CtI l y_El_pushNumber b_El_pushNumber 4 .boolean (rmd 1) E [.ref e0, .int v] [(e0, .inr (1, [.ref eb, .ref es, .int (nI n)])), (eb, .inl (E.2.1, 1920, .inl f)), (es, .inl (E.2.2.1, 24, .inl sz))] (fun r w => r = b2 false ∧ w = [(e0, .inr (1, [.ref eb, .ref es, .int (nI n)])), (eb, .inl (E.2.1, 1920, .inl f)), (es, .inl (E.2.2.1, 24, .inl sz))]) := by
  refine CtI.of (by decide) (Nat.le_of_ble_eq_true rfl) (fun r w h => by obtain ⟨rfl, _⟩ := h; exact b2_nar _) ?_
  intro p e s m args below meth c A Q H locs ls C hP hD hS hl kret
  have hx := C.1
  have hb := C.2.1
  have hl : lv_has ls 4 [(0, .ref e0), (1, .int v)] := hl
  refine lv_aload_n hx hb d_El_pushNumber_0 rfl (lv_at hl 0 rfl) ?_
  refine n_get C fg_El_17 hP 0 rfl rfl d_El_pushNumber_1 ?_
  refine lv_bipush (v := nI 24) hx hb d_El_pushNumber_4 (by decide) ?_
  refine j_lt C n 24 rfl rfl (by omega) (by omega) d_El_pushNumber_6 rfl (fun h1 => absurd h1 (by omega)) (fun h1 => ?_)
  refine lv_iconst (v := nI 0) hx hb d_El_pushNumber_9 (by decide) ?_
  exact kret (nI 0) [(e0, .inr (1, [.ref eb, .ref es, .int (nI n)])), (eb, .inl (E.2.1, 1920, .inl f)), (es, .inl (E.2.2.1, 24, .inl sz))] _ _ _ _ d_El_pushNumber_10 (⟨rfl, rfl⟩) rfl hP hS

set_option maxHeartbeats 4000000 in
set_option maxRecDepth 100000 in
theorem c_El_pushCopy (l : Launch) (E : En) (e0 eb es n : Nat) (f sz : Nat → Int32) (j k : Nat) (hj : j < n) (hz : sz j = nI k) (hk : k ≤ 80) (hn : n < 24) (hB : fB f) : CtI l y_El_pushCopy b_El_pushCopy 2 .boolean (rmd 2) E [.ref e0, .int (nI j)] [(e0, .inr (1, [.ref eb, .ref es, .int (nI n)])), (eb, .inl (E.2.1, 1920, .inl f)), (es, .inl (E.2.2.1, 24, .inl sz))] (fun r w => r = b2 true ∧ w = [(e0, .inr (1, [.ref eb, .ref es, .int (nI (n + 1))])), (eb, .inl (E.2.1, 1920, .inl (va_cpy f f (j * 80) (n * 80) k))), (es, .inl (E.2.2.1, 24, .inl (upd sz n (nI k))))]) := by
  refine CtI.of (by decide) (Nat.le_of_ble_eq_true rfl) (fun r w h => by obtain ⟨rfl, _⟩ := h; exact b2_nar _) ?_
  intro p e s m args below meth c A Q H locs ls C hP hD hS hl kret
  have hx := C.1
  have hb := C.2.1
  have hl : lv_has ls 2 [(0, .ref e0), (1, .int (nI j))] := hl
  refine lv_aload_n hx hb d_El_pushCopy_0 rfl (lv_at hl 0 rfl) ?_
  refine lv_iload_n hx hb d_El_pushCopy_1 rfl (lv_at hl 1 rfl) ?_
  refine cal_I (As := [.int (nI j)]) (rest := []) C lk_El_31 (c_El_has l E e0 eb es n (nI j)) (by decide) hP hD hS 0 1 rfl rfl [0] rfl (by decide) hl.1 rfl (Nat.le_of_ble_eq_true rfl) d_El_pushCopy_2 (fun r1 w1 H locs hp2 hP hD hS => ?_)
  obtain ⟨rfl, rfl⟩ := hp2
  have hP : va_P E.1 clz [(e0, .inr (1, [.ref eb, .ref es, .int (nI n)])), (eb, .inl (E.2.1, 1920, .inl f)), (es, .inl (E.2.2.1, 24, .inl sz))] H := hP
  have hD : va_D A [(e0, .inr (1, [.ref eb, .ref es, .int (nI n)])), (eb, .inl (E.2.1, 1920, .inl f)), (es, .inl (E.2.2.1, 24, .inl sz))] := hD
  refine tope (z := b2 true) (congrArg b2 ((hasB_nI (by omega) (by omega)).trans (decide_eq_true (by omega)))) ?_
  refine zb_eq C true rfl d_El_pushCopy_5 rfl (fun h3 => absurd h3 (by simp_all)) (fun h3 => ?_)
  refine lv_aload_n hx hb d_El_pushCopy_8 rfl (lv_at hl 0 rfl) ?_
  refine lv_aload_n hx hb d_El_pushCopy_9 rfl (lv_at hl 0 rfl) ?_
  refine n_get C fg_El_9 hP 0 rfl rfl d_El_pushCopy_10 ?_
  refine lv_aload_n hx hb d_El_pushCopy_13 rfl (lv_at hl 0 rfl) ?_
  refine lv_iload_n hx hb d_El_pushCopy_14 rfl (lv_at hl 1 rfl) ?_
  refine cal_I (As := [.int (nI j)]) (rest := [.ref eb, .ref e0]) C lk_El_21 (c_El_place l E e0 j) (by decide) hP hD hS 0 1 rfl rfl [] rfl (by decide) hl.1 rfl (Nat.le_of_ble_eq_true rfl) d_El_pushCopy_15 (fun r4 w1 H locs hp5 hP hD hS => ?_)
  obtain ⟨rfl, rfl⟩ := hp5
  have hP : va_P E.1 clz [(e0, .inr (1, [.ref eb, .ref es, .int (nI n)])), (eb, .inl (E.2.1, 1920, .inl f)), (es, .inl (E.2.2.1, 24, .inl sz))] H := hP
  have hD : va_D A [(e0, .inr (1, [.ref eb, .ref es, .int (nI n)])), (eb, .inl (E.2.1, 1920, .inl f)), (es, .inl (E.2.2.1, 24, .inl sz))] := hD
  refine lv_aload_n hx hb d_El_pushCopy_18 rfl (lv_at hl 0 rfl) ?_
  refine n_get C fg_El_13 hP 0 rfl rfl d_El_pushCopy_19 ?_
  refine lv_iload_n hx hb d_El_pushCopy_22 rfl (lv_at hl 1 rfl) ?_
  refine n_iald C hP 2 rfl j rfl (by omega) (by omega) d_El_pushCopy_23 ?_
  refine tope (z := nI k) (hz) ?_
  refine cal_I (As := [.ref eb, .int (nI (j * 80)), .int (nI k)]) (rest := []) C lk_El_35 (c_El_pushA l E e0 eb es n f sz (j * 80) k (by omega) (by omega) (by omega) (hB)) (by decide) hP hD hS 0 1 rfl rfl [0, 1, 2] rfl (by decide) hl.1 rfl (Nat.le_of_ble_eq_true rfl) d_El_pushCopy_24 (fun r6 w1 H locs hp7 hP hD hS => ?_)
  obtain ⟨rfl, rfl⟩ := hp7
  have hP : va_P E.1 clz [(e0, .inr (1, [.ref eb, .ref es, .int (nI (n + 1))])), (eb, .inl (E.2.1, 1920, .inl (va_cpy f f (j * 80) (n * 80) k))), (es, .inl (E.2.2.1, 24, .inl (upd sz n (nI k))))] H := hP
  have hD : va_D A [(e0, .inr (1, [.ref eb, .ref es, .int (nI (n + 1))])), (eb, .inl (E.2.1, 1920, .inl (va_cpy f f (j * 80) (n * 80) k))), (es, .inl (E.2.2.1, 24, .inl (upd sz n (nI k))))] := hD
  refine zb_eq C true rfl d_El_pushCopy_27 rfl (fun h8 => absurd h8 (by simp_all)) (fun h8 => ?_)
  refine lv_iconst (v := nI 1) hx hb d_El_pushCopy_30 (by decide) ?_
  refine lv_goto hx hb d_El_pushCopy_31 rfl ?_
  exact kret (nI 1) [(e0, .inr (1, [.ref eb, .ref es, .int (nI (n + 1))])), (eb, .inl (E.2.1, 1920, .inl (va_cpy f f (j * 80) (n * 80) k))), (es, .inl (E.2.2.1, 24, .inl (upd sz n (nI k))))] _ _ _ _ d_El_pushCopy_35 (⟨rfl, rfl⟩) rfl hP hS

set_option maxHeartbeats 4000000 in
set_option maxRecDepth 100000 in
theorem c_El_pushCopy_full (l : Launch) (E : En) (e0 eb es n : Nat) (f sz : Nat → Int32) (j k : Nat) (hj : j < n) (hz : sz j = nI k) (hk : k ≤ 80) (hn : 24 ≤ n) (hn2 : n ≤ 24) : CtI l y_El_pushCopy b_El_pushCopy 2 .boolean (rmd 2) E [.ref e0, .int (nI j)] [(e0, .inr (1, [.ref eb, .ref es, .int (nI n)])), (eb, .inl (E.2.1, 1920, .inl f)), (es, .inl (E.2.2.1, 24, .inl sz))] (fun r w => r = b2 false ∧ w = [(e0, .inr (1, [.ref eb, .ref es, .int (nI n)])), (eb, .inl (E.2.1, 1920, .inl f)), (es, .inl (E.2.2.1, 24, .inl sz))]) := by
  refine CtI.of (by decide) (Nat.le_of_ble_eq_true rfl) (fun r w h => by obtain ⟨rfl, _⟩ := h; exact b2_nar _) ?_
  intro p e s m args below meth c A Q H locs ls C hP hD hS hl kret
  have hx := C.1
  have hb := C.2.1
  have hl : lv_has ls 2 [(0, .ref e0), (1, .int (nI j))] := hl
  refine lv_aload_n hx hb d_El_pushCopy_0 rfl (lv_at hl 0 rfl) ?_
  refine lv_iload_n hx hb d_El_pushCopy_1 rfl (lv_at hl 1 rfl) ?_
  refine cal_I (As := [.int (nI j)]) (rest := []) C lk_El_31 (c_El_has l E e0 eb es n (nI j)) (by decide) hP hD hS 0 1 rfl rfl [0] rfl (by decide) hl.1 rfl (Nat.le_of_ble_eq_true rfl) d_El_pushCopy_2 (fun r1 w1 H locs hp2 hP hD hS => ?_)
  obtain ⟨rfl, rfl⟩ := hp2
  have hP : va_P E.1 clz [(e0, .inr (1, [.ref eb, .ref es, .int (nI n)])), (eb, .inl (E.2.1, 1920, .inl f)), (es, .inl (E.2.2.1, 24, .inl sz))] H := hP
  have hD : va_D A [(e0, .inr (1, [.ref eb, .ref es, .int (nI n)])), (eb, .inl (E.2.1, 1920, .inl f)), (es, .inl (E.2.2.1, 24, .inl sz))] := hD
  refine tope (z := b2 true) (congrArg b2 ((hasB_nI (by omega) (by omega)).trans (decide_eq_true (by omega)))) ?_
  refine zb_eq C true rfl d_El_pushCopy_5 rfl (fun h3 => absurd h3 (by simp_all)) (fun h3 => ?_)
  refine lv_aload_n hx hb d_El_pushCopy_8 rfl (lv_at hl 0 rfl) ?_
  refine lv_aload_n hx hb d_El_pushCopy_9 rfl (lv_at hl 0 rfl) ?_
  refine n_get C fg_El_9 hP 0 rfl rfl d_El_pushCopy_10 ?_
  refine lv_aload_n hx hb d_El_pushCopy_13 rfl (lv_at hl 0 rfl) ?_
  refine lv_iload_n hx hb d_El_pushCopy_14 rfl (lv_at hl 1 rfl) ?_
  refine cal_I (As := [.int (nI j)]) (rest := [.ref eb, .ref e0]) C lk_El_21 (c_El_place l E e0 j) (by decide) hP hD hS 0 1 rfl rfl [] rfl (by decide) hl.1 rfl (Nat.le_of_ble_eq_true rfl) d_El_pushCopy_15 (fun r4 w1 H locs hp5 hP hD hS => ?_)
  obtain ⟨rfl, rfl⟩ := hp5
  have hP : va_P E.1 clz [(e0, .inr (1, [.ref eb, .ref es, .int (nI n)])), (eb, .inl (E.2.1, 1920, .inl f)), (es, .inl (E.2.2.1, 24, .inl sz))] H := hP
  have hD : va_D A [(e0, .inr (1, [.ref eb, .ref es, .int (nI n)])), (eb, .inl (E.2.1, 1920, .inl f)), (es, .inl (E.2.2.1, 24, .inl sz))] := hD
  refine lv_aload_n hx hb d_El_pushCopy_18 rfl (lv_at hl 0 rfl) ?_
  refine n_get C fg_El_13 hP 0 rfl rfl d_El_pushCopy_19 ?_
  refine lv_iload_n hx hb d_El_pushCopy_22 rfl (lv_at hl 1 rfl) ?_
  refine n_iald C hP 2 rfl j rfl (by omega) (by omega) d_El_pushCopy_23 ?_
  refine tope (z := nI k) (hz) ?_
  refine cal_I (As := [.ref eb, .int (nI (j * 80)), .int (nI k)]) (rest := []) C lk_El_35 (c_El_pushA_full l E e0 eb es n f sz (j * 80) k (by omega) (by omega)) (by decide) hP hD hS 0 1 rfl rfl [0, 1, 2] rfl (by decide) hl.1 rfl (Nat.le_of_ble_eq_true rfl) d_El_pushCopy_24 (fun r6 w1 H locs hp7 hP hD hS => ?_)
  obtain ⟨rfl, rfl⟩ := hp7
  have hP : va_P E.1 clz [(e0, .inr (1, [.ref eb, .ref es, .int (nI n)])), (eb, .inl (E.2.1, 1920, .inl f)), (es, .inl (E.2.2.1, 24, .inl sz))] H := hP
  have hD : va_D A [(e0, .inr (1, [.ref eb, .ref es, .int (nI n)])), (eb, .inl (E.2.1, 1920, .inl f)), (es, .inl (E.2.2.1, 24, .inl sz))] := hD
  refine zb_eq C false rfl d_El_pushCopy_27 rfl (fun h8 => ?_) (fun h8 => absurd h8 (by simp_all))
  refine lv_iconst (v := nI 0) hx hb d_El_pushCopy_34 (by decide) ?_
  exact kret (nI 0) [(e0, .inr (1, [.ref eb, .ref es, .int (nI n)])), (eb, .inl (E.2.1, 1920, .inl f)), (es, .inl (E.2.2.1, 24, .inl sz))] _ _ _ _ d_El_pushCopy_35 (⟨rfl, rfl⟩) rfl hP hS

set_option maxHeartbeats 4000000 in
set_option maxRecDepth 100000 in
theorem c_El_pushCopy_no (l : Launch) (E : En) (e0 eb es n : Nat) (f sz : Nat → Int32) (k : Int32) (hk : hasB k n = false) : CtI l y_El_pushCopy b_El_pushCopy 2 .boolean (rmd 2) E [.ref e0, .int k] [(e0, .inr (1, [.ref eb, .ref es, .int (nI n)])), (eb, .inl (E.2.1, 1920, .inl f)), (es, .inl (E.2.2.1, 24, .inl sz))] (fun r w => r = b2 false ∧ w = [(e0, .inr (1, [.ref eb, .ref es, .int (nI n)])), (eb, .inl (E.2.1, 1920, .inl f)), (es, .inl (E.2.2.1, 24, .inl sz))]) := by
  refine CtI.of (by decide) (Nat.le_of_ble_eq_true rfl) (fun r w h => by obtain ⟨rfl, _⟩ := h; exact b2_nar _) ?_
  intro p e s m args below meth c A Q H locs ls C hP hD hS hl kret
  have hx := C.1
  have hb := C.2.1
  have hl : lv_has ls 2 [(0, .ref e0), (1, .int k)] := hl
  refine lv_aload_n hx hb d_El_pushCopy_0 rfl (lv_at hl 0 rfl) ?_
  refine lv_iload_n hx hb d_El_pushCopy_1 rfl (lv_at hl 1 rfl) ?_
  refine cal_I (As := [.int k]) (rest := []) C lk_El_31 (c_El_has l E e0 eb es n k) (by decide) hP hD hS 0 1 rfl rfl [0] rfl (by decide) hl.1 rfl (Nat.le_of_ble_eq_true rfl) d_El_pushCopy_2 (fun r1 w1 H locs hp2 hP hD hS => ?_)
  obtain ⟨rfl, rfl⟩ := hp2
  have hP : va_P E.1 clz [(e0, .inr (1, [.ref eb, .ref es, .int (nI n)])), (eb, .inl (E.2.1, 1920, .inl f)), (es, .inl (E.2.2.1, 24, .inl sz))] H := hP
  have hD : va_D A [(e0, .inr (1, [.ref eb, .ref es, .int (nI n)])), (eb, .inl (E.2.1, 1920, .inl f)), (es, .inl (E.2.2.1, 24, .inl sz))] := hD
  refine tope (z := b2 false) (congrArg b2 (hk)) ?_
  refine zb_eq C false rfl d_El_pushCopy_5 rfl (fun h3 => ?_) (fun h3 => absurd h3 (by simp_all))
  refine lv_iconst (v := nI 0) hx hb d_El_pushCopy_34 (by decide) ?_
  exact kret (nI 0) [(e0, .inr (1, [.ref eb, .ref es, .int (nI n)])), (eb, .inl (E.2.1, 1920, .inl f)), (es, .inl (E.2.2.1, 24, .inl sz))] _ _ _ _ d_El_pushCopy_35 (⟨rfl, rfl⟩) rfl hP hS

set_option maxHeartbeats 4000000 in
set_option maxRecDepth 100000 in
theorem c_El_drop (l : Launch) (E : En) (e0 eb es n : Nat) (f sz : Nat → Int32) (k : Nat) (hk : k ≤ n) (hn : n < 2 ^ 31) : CtI l y_El_drop b_El_drop 2 .boolean (rmd 0) E [.ref e0, .int (nI k)] [(e0, .inr (1, [.ref eb, .ref es, .int (nI n)])), (eb, .inl (E.2.1, 1920, .inl f)), (es, .inl (E.2.2.1, 24, .inl sz))] (fun r w => r = b2 true ∧ w = [(e0, .inr (1, [.ref eb, .ref es, .int (nI (n - k))])), (eb, .inl (E.2.1, 1920, .inl f)), (es, .inl (E.2.2.1, 24, .inl sz))]) := by
  refine CtI.of (by decide) (Nat.le_of_ble_eq_true rfl) (fun r w h => by obtain ⟨rfl, _⟩ := h; exact b2_nar _) ?_
  intro p e s m args below meth c A Q H locs ls C hP hD hS hl kret
  have hx := C.1
  have hb := C.2.1
  have hl : lv_has ls 2 [(0, .ref e0), (1, .int (nI k))] := hl
  refine lv_iload_n hx hb d_El_drop_0 rfl (lv_at hl 1 rfl) ?_
  refine lv_aload_n hx hb d_El_drop_1 rfl (lv_at hl 0 rfl) ?_
  refine n_get C fg_El_17 hP 0 rfl rfl d_El_drop_2 ?_
  refine j_le C k n rfl rfl (by omega) (by omega) d_El_drop_5 rfl (fun h1 => ?_) (fun h1 => absurd h1 (by omega))
  refine lv_aload_n hx hb d_El_drop_10 rfl (lv_at hl 0 rfl) ?_
  refine lv_dup hx hb d_El_drop_11 rfl ?_
  refine n_get C fg_El_17 hP 0 rfl rfl d_El_drop_12 ?_
  refine lv_iload_n hx hb d_El_drop_15 rfl (lv_at hl 1 rfl) ?_
  refine lv_isub hx hb d_El_drop_16 ?_
  refine tope (z := nI (n - k)) (pk_sub (by omega)) ?_
  refine n_put (v := .int (nI (n - k))) C fp_El_17 hP hD hS 0 rfl (rfl) rfl (Nat.le_of_ble_eq_true rfl) d_El_drop_17 (fun H locs hP hD hS => ?_)
  have hP : va_P E.1 clz [(e0, .inr (1, [.ref eb, .ref es, .int (nI (n - k))])), (eb, .inl (E.2.1, 1920, .inl f)), (es, .inl (E.2.2.1, 24, .inl sz))] H := hP
  have hD : va_D A [(e0, .inr (1, [.ref eb, .ref es, .int (nI (n - k))])), (eb, .inl (E.2.1, 1920, .inl f)), (es, .inl (E.2.2.1, 24, .inl sz))] := hD
  refine lv_iconst (v := nI 1) hx hb d_El_drop_20 (by decide) ?_
  exact kret (nI 1) [(e0, .inr (1, [.ref eb, .ref es, .int (nI (n - k))])), (eb, .inl (E.2.1, 1920, .inl f)), (es, .inl (E.2.2.1, 24, .inl sz))] _ _ _ _ d_El_drop_21 (⟨rfl, rfl⟩) rfl hP hS

set_option maxHeartbeats 4000000 in
set_option maxRecDepth 100000 in
theorem c_El_drop_no (l : Launch) (E : En) (e0 eb es n : Nat) (f sz : Nat → Int32) (k : Nat) (hk : n < k) (hn : k < 2 ^ 31) : CtI l y_El_drop b_El_drop 2 .boolean (rmd 0) E [.ref e0, .int (nI k)] [(e0, .inr (1, [.ref eb, .ref es, .int (nI n)])), (eb, .inl (E.2.1, 1920, .inl f)), (es, .inl (E.2.2.1, 24, .inl sz))] (fun r w => r = b2 false ∧ w = [(e0, .inr (1, [.ref eb, .ref es, .int (nI n)])), (eb, .inl (E.2.1, 1920, .inl f)), (es, .inl (E.2.2.1, 24, .inl sz))]) := by
  refine CtI.of (by decide) (Nat.le_of_ble_eq_true rfl) (fun r w h => by obtain ⟨rfl, _⟩ := h; exact b2_nar _) ?_
  intro p e s m args below meth c A Q H locs ls C hP hD hS hl kret
  have hx := C.1
  have hb := C.2.1
  have hl : lv_has ls 2 [(0, .ref e0), (1, .int (nI k))] := hl
  refine lv_iload_n hx hb d_El_drop_0 rfl (lv_at hl 1 rfl) ?_
  refine lv_aload_n hx hb d_El_drop_1 rfl (lv_at hl 0 rfl) ?_
  refine n_get C fg_El_17 hP 0 rfl rfl d_El_drop_2 ?_
  refine j_le C k n rfl rfl (by omega) (by omega) d_El_drop_5 rfl (fun h1 => absurd h1 (by omega)) (fun h1 => ?_)
  refine lv_iconst (v := nI 0) hx hb d_El_drop_8 (by decide) ?_
  exact kret (nI 0) [(e0, .inr (1, [.ref eb, .ref es, .int (nI n)])), (eb, .inl (E.2.1, 1920, .inl f)), (es, .inl (E.2.2.1, 24, .inl sz))] _ _ _ _ d_El_drop_9 (⟨rfl, rfl⟩) rfl hP hS

set_option maxHeartbeats 4000000 in
set_option maxRecDepth 100000 in
theorem c_El_replace (l : Launch) (E : En) (e0 eb es n : Nat) (f sz : Nat → Int32) (k : Nat) (v : Int32) (h1 : 1 ≤ k) (hk : k ≤ n) (hn : n ≤ 24) : CtI l y_El_replace b_El_replace 3 .boolean (rmd 2) E [.ref e0, .int (nI k), .int v] [(e0, .inr (1, [.ref eb, .ref es, .int (nI n)])), (eb, .inl (E.2.1, 1920, .inl f)), (es, .inl (E.2.2.1, 24, .inl sz))] (fun r w => r = b2 true ∧ w = [(e0, .inr (1, [.ref eb, .ref es, .int (nI (n - k + 1))])), (eb, .inl (E.2.1, 1920, .inl (pn4 f ((n - k) * 80) v))), (es, .inl (E.2.2.1, 24, .inl (upd sz (n - k) (pnz v))))]) := by
  refine CtI.of (by decide) (Nat.le_of_ble_eq_true rfl) (fun r w h => by obtain ⟨rfl, _⟩ := h; exact b2_nar _) ?_
  intro p e s m args below meth c A Q H locs ls C hP hD hS hl kret
  have hx := C.1
  have hb := C.2.1
  have hl : lv_has ls 3 [(0, .ref e0), (1, .int (nI k)), (2, .int v)] := hl
  refine lv_aload_n hx hb d_El_replace_0 rfl (lv_at hl 0 rfl) ?_
  refine lv_iload_n hx hb d_El_replace_1 rfl (lv_at hl 1 rfl) ?_
  refine cal_I (As := [.int (nI k)]) (rest := []) C lk_El_39 (c_El_drop l E e0 eb es n f sz k (by omega) (by omega)) (by decide) hP hD hS 0 1 rfl rfl [0, 1, 2] rfl (by decide) hl.1 rfl (Nat.le_of_ble_eq_true rfl) d_El_replace_2 (fun r1 w1 H locs hp2 hP hD hS => ?_)
  obtain ⟨rfl, rfl⟩ := hp2
  have hP : va_P E.1 clz [(e0, .inr (1, [.ref eb, .ref es, .int (nI (n - k))])), (eb, .inl (E.2.1, 1920, .inl f)), (es, .inl (E.2.2.1, 24, .inl sz))] H := hP
  have hD : va_D A [(e0, .inr (1, [.ref eb, .ref es, .int (nI (n - k))])), (eb, .inl (E.2.1, 1920, .inl f)), (es, .inl (E.2.2.1, 24, .inl sz))] := hD
  refine zb_eq C true rfl d_El_replace_5 rfl (fun h3 => absurd h3 (by simp_all)) (fun h3 => ?_)
  refine lv_aload_n hx hb d_El_replace_8 rfl (lv_at hl 0 rfl) ?_
  refine lv_iload_n hx hb d_El_replace_9 rfl (lv_at hl 2 rfl) ?_
  refine cal_I (As := [.int v]) (rest := []) C lk_El_42 (c_El_pushNumber l E e0 eb es (n - k) f sz v (by omega)) (by decide) hP hD hS 0 1 rfl rfl [0, 1, 2] rfl (by decide) hl.1 rfl (Nat.le_of_ble_eq_true rfl) d_El_replace_10 (fun r4 w1 H locs hp5 hP hD hS => ?_)
  obtain ⟨rfl, rfl⟩ := hp5
  have hP : va_P E.1 clz [(e0, .inr (1, [.ref eb, .ref es, .int (nI (n - k + 1))])), (eb, .inl (E.2.1, 1920, .inl (pn4 f ((n - k) * 80) v))), (es, .inl (E.2.2.1, 24, .inl (upd sz (n - k) (pnz v))))] H := hP
  have hD : va_D A [(e0, .inr (1, [.ref eb, .ref es, .int (nI (n - k + 1))])), (eb, .inl (E.2.1, 1920, .inl (pn4 f ((n - k) * 80) v))), (es, .inl (E.2.2.1, 24, .inl (upd sz (n - k) (pnz v))))] := hD
  refine zb_eq C true rfl d_El_replace_13 rfl (fun h6 => absurd h6 (by simp_all)) (fun h6 => ?_)
  refine lv_iconst (v := nI 1) hx hb d_El_replace_16 (by decide) ?_
  refine lv_goto hx hb d_El_replace_17 rfl ?_
  exact kret (nI 1) [(e0, .inr (1, [.ref eb, .ref es, .int (nI (n - k + 1))])), (eb, .inl (E.2.1, 1920, .inl (pn4 f ((n - k) * 80) v))), (es, .inl (E.2.2.1, 24, .inl (upd sz (n - k) (pnz v))))] _ _ _ _ d_El_replace_21 (⟨rfl, rfl⟩) rfl hP hS

set_option maxHeartbeats 4000000 in
set_option maxRecDepth 100000 in
theorem c_El_replace_no (l : Launch) (E : En) (e0 eb es n : Nat) (f sz : Nat → Int32) (k : Nat) (v : Int32) (hk : n < k) (hn : k < 2 ^ 31) : CtI l y_El_replace b_El_replace 3 .boolean (rmd 2) E [.ref e0, .int (nI k), .int v] [(e0, .inr (1, [.ref eb, .ref es, .int (nI n)])), (eb, .inl (E.2.1, 1920, .inl f)), (es, .inl (E.2.2.1, 24, .inl sz))] (fun r w => r = b2 false ∧ w = [(e0, .inr (1, [.ref eb, .ref es, .int (nI n)])), (eb, .inl (E.2.1, 1920, .inl f)), (es, .inl (E.2.2.1, 24, .inl sz))]) := by
  refine CtI.of (by decide) (Nat.le_of_ble_eq_true rfl) (fun r w h => by obtain ⟨rfl, _⟩ := h; exact b2_nar _) ?_
  intro p e s m args below meth c A Q H locs ls C hP hD hS hl kret
  have hx := C.1
  have hb := C.2.1
  have hl : lv_has ls 3 [(0, .ref e0), (1, .int (nI k)), (2, .int v)] := hl
  refine lv_aload_n hx hb d_El_replace_0 rfl (lv_at hl 0 rfl) ?_
  refine lv_iload_n hx hb d_El_replace_1 rfl (lv_at hl 1 rfl) ?_
  refine cal_I (As := [.int (nI k)]) (rest := []) C lk_El_39 (c_El_drop_no l E e0 eb es n f sz k (by omega) (by omega)) (by decide) hP hD hS 0 1 rfl rfl [0, 1, 2] rfl (by decide) hl.1 rfl (Nat.le_of_ble_eq_true rfl) d_El_replace_2 (fun r1 w1 H locs hp2 hP hD hS => ?_)
  obtain ⟨rfl, rfl⟩ := hp2
  have hP : va_P E.1 clz [(e0, .inr (1, [.ref eb, .ref es, .int (nI n)])), (eb, .inl (E.2.1, 1920, .inl f)), (es, .inl (E.2.2.1, 24, .inl sz))] H := hP
  have hD : va_D A [(e0, .inr (1, [.ref eb, .ref es, .int (nI n)])), (eb, .inl (E.2.1, 1920, .inl f)), (es, .inl (E.2.2.1, 24, .inl sz))] := hD
  refine zb_eq C false rfl d_El_replace_5 rfl (fun h3 => ?_) (fun h3 => absurd h3 (by simp_all))
  refine lv_iconst (v := nI 0) hx hb d_El_replace_20 (by decide) ?_
  exact kret (nI 0) [(e0, .inr (1, [.ref eb, .ref es, .int (nI n)])), (eb, .inl (E.2.1, 1920, .inl f)), (es, .inl (E.2.2.1, 24, .inl sz))] _ _ _ _ d_El_replace_21 (⟨rfl, rfl⟩) rfl hP hS

set_option maxHeartbeats 4000000 in
set_option maxRecDepth 100000 in
theorem c_El_truth (l : Launch) (E : En) (e0 eb es n : Nat) (f sz : Nat → Int32) (k : Nat) (t : Bool) (h1 : 1 ≤ k) (hk : k ≤ n) (hn : n ≤ 24) : CtI l y_El_replaceByTruth b_El_replaceByTruth 3 .boolean (rmd 3) E [.ref e0, .int (nI k), .int (b2 t)] [(e0, .inr (1, [.ref eb, .ref es, .int (nI n)])), (eb, .inl (E.2.1, 1920, .inl f)), (es, .inl (E.2.2.1, 24, .inl sz))] (fun r w => r = b2 true ∧ w = [(e0, .inr (1, [.ref eb, .ref es, .int (nI (n - k + 1))])), (eb, .inl (E.2.1, 1920, .inl (pn4 f ((n - k) * 80) (b2 t)))), (es, .inl (E.2.2.1, 24, .inl (upd sz (n - k) (pnz (b2 t)))))]) := by
  refine CtI.of (by decide) (Nat.le_of_ble_eq_true rfl) (fun r w h => by obtain ⟨rfl, _⟩ := h; exact b2_nar _) ?_
  intro p e s m args below meth c A Q H locs ls C hP hD hS hl kret
  have hx := C.1
  have hb := C.2.1
  have hl : lv_has ls 3 [(0, .ref e0), (1, .int (nI k)), (2, .int (b2 t))] := hl
  refine lv_aload_n hx hb d_El_replaceByTruth_0 rfl (lv_at hl 0 rfl) ?_
  refine lv_iload_n hx hb d_El_replaceByTruth_1 rfl (lv_at hl 1 rfl) ?_
  refine lv_iload_n hx hb d_El_replaceByTruth_2 rfl (lv_at hl 2 rfl) ?_
  refine zb_eq C t rfl d_El_replaceByTruth_3 rfl (fun h1 => ?_) (fun h1 => ?_)
  · subst h1
    refine lv_iconst (v := nI 0) hx hb d_El_replaceByTruth_10 (by decide) ?_
    refine cal_I (As := [.int (nI k), .int (nI 0)]) (rest := []) C lk_El_45 (c_El_replace l E e0 eb es n f sz k (nI 0) (by omega) (by omega) (by omega)) (by decide) hP hD hS 0 1 rfl rfl [0, 1, 2] rfl (by decide) hl.1 rfl (Nat.le_of_ble_eq_true rfl) d_El_replaceByTruth_11 (fun r2 w1 H locs hp3 hP hD hS => ?_)
    obtain ⟨rfl, rfl⟩ := hp3
    have hP : va_P E.1 clz [(e0, .inr (1, [.ref eb, .ref es, .int (nI (n - k + 1))])), (eb, .inl (E.2.1, 1920, .inl (pn4 f ((n - k) * 80) (nI 0)))), (es, .inl (E.2.2.1, 24, .inl (upd sz (n - k) (pnz (nI 0)))))] H := hP
    have hD : va_D A [(e0, .inr (1, [.ref eb, .ref es, .int (nI (n - k + 1))])), (eb, .inl (E.2.1, 1920, .inl (pn4 f ((n - k) * 80) (nI 0)))), (es, .inl (E.2.2.1, 24, .inl (upd sz (n - k) (pnz (nI 0)))))] := hD
    exact kret (b2 true) [(e0, .inr (1, [.ref eb, .ref es, .int (nI (n - k + 1))])), (eb, .inl (E.2.1, 1920, .inl (pn4 f ((n - k) * 80) (nI 0)))), (es, .inl (E.2.2.1, 24, .inl (upd sz (n - k) (pnz (nI 0)))))] _ _ _ _ d_El_replaceByTruth_14 (⟨rfl, rfl⟩) rfl hP hS
  · subst h1
    refine lv_iconst (v := nI 1) hx hb d_El_replaceByTruth_6 (by decide) ?_
    refine lv_goto hx hb d_El_replaceByTruth_7 rfl ?_
    refine cal_I (As := [.int (nI k), .int (nI 1)]) (rest := []) C lk_El_45 (c_El_replace l E e0 eb es n f sz k (nI 1) (by omega) (by omega) (by omega)) (by decide) hP hD hS 0 1 rfl rfl [0, 1, 2] rfl (by decide) hl.1 rfl (Nat.le_of_ble_eq_true rfl) d_El_replaceByTruth_11 (fun r4 w1 H locs hp5 hP hD hS => ?_)
    obtain ⟨rfl, rfl⟩ := hp5
    have hP : va_P E.1 clz [(e0, .inr (1, [.ref eb, .ref es, .int (nI (n - k + 1))])), (eb, .inl (E.2.1, 1920, .inl (pn4 f ((n - k) * 80) (nI 1)))), (es, .inl (E.2.2.1, 24, .inl (upd sz (n - k) (pnz (nI 1)))))] H := hP
    have hD : va_D A [(e0, .inr (1, [.ref eb, .ref es, .int (nI (n - k + 1))])), (eb, .inl (E.2.1, 1920, .inl (pn4 f ((n - k) * 80) (nI 1)))), (es, .inl (E.2.2.1, 24, .inl (upd sz (n - k) (pnz (nI 1)))))] := hD
    exact kret (b2 true) [(e0, .inr (1, [.ref eb, .ref es, .int (nI (n - k + 1))])), (eb, .inl (E.2.1, 1920, .inl (pn4 f ((n - k) * 80) (nI 1)))), (es, .inl (E.2.2.1, 24, .inl (upd sz (n - k) (pnz (nI 1)))))] _ _ _ _ d_El_replaceByTruth_14 (⟨rfl, rfl⟩) rfl hP hS

set_option maxHeartbeats 4000000 in
set_option maxRecDepth 100000 in
theorem c_El_truth_no (l : Launch) (E : En) (e0 eb es n : Nat) (f sz : Nat → Int32) (k : Nat) (t : Bool) (hk : n < k) (hn : k < 2 ^ 31) : CtI l y_El_replaceByTruth b_El_replaceByTruth 3 .boolean (rmd 3) E [.ref e0, .int (nI k), .int (b2 t)] [(e0, .inr (1, [.ref eb, .ref es, .int (nI n)])), (eb, .inl (E.2.1, 1920, .inl f)), (es, .inl (E.2.2.1, 24, .inl sz))] (fun r w => r = b2 false ∧ w = [(e0, .inr (1, [.ref eb, .ref es, .int (nI n)])), (eb, .inl (E.2.1, 1920, .inl f)), (es, .inl (E.2.2.1, 24, .inl sz))]) := by
  refine CtI.of (by decide) (Nat.le_of_ble_eq_true rfl) (fun r w h => by obtain ⟨rfl, _⟩ := h; exact b2_nar _) ?_
  intro p e s m args below meth c A Q H locs ls C hP hD hS hl kret
  have hx := C.1
  have hb := C.2.1
  have hl : lv_has ls 3 [(0, .ref e0), (1, .int (nI k)), (2, .int (b2 t))] := hl
  refine lv_aload_n hx hb d_El_replaceByTruth_0 rfl (lv_at hl 0 rfl) ?_
  refine lv_iload_n hx hb d_El_replaceByTruth_1 rfl (lv_at hl 1 rfl) ?_
  refine lv_iload_n hx hb d_El_replaceByTruth_2 rfl (lv_at hl 2 rfl) ?_
  refine zb_eq C t rfl d_El_replaceByTruth_3 rfl (fun h1 => ?_) (fun h1 => ?_)
  · subst h1
    refine lv_iconst (v := nI 0) hx hb d_El_replaceByTruth_10 (by decide) ?_
    refine cal_I (As := [.int (nI k), .int (nI 0)]) (rest := []) C lk_El_45 (c_El_replace_no l E e0 eb es n f sz k (nI 0) (by omega) (by omega)) (by decide) hP hD hS 0 1 rfl rfl [0, 1, 2] rfl (by decide) hl.1 rfl (Nat.le_of_ble_eq_true rfl) d_El_replaceByTruth_11 (fun r2 w1 H locs hp3 hP hD hS => ?_)
    obtain ⟨rfl, rfl⟩ := hp3
    have hP : va_P E.1 clz [(e0, .inr (1, [.ref eb, .ref es, .int (nI n)])), (eb, .inl (E.2.1, 1920, .inl f)), (es, .inl (E.2.2.1, 24, .inl sz))] H := hP
    have hD : va_D A [(e0, .inr (1, [.ref eb, .ref es, .int (nI n)])), (eb, .inl (E.2.1, 1920, .inl f)), (es, .inl (E.2.2.1, 24, .inl sz))] := hD
    exact kret (b2 false) [(e0, .inr (1, [.ref eb, .ref es, .int (nI n)])), (eb, .inl (E.2.1, 1920, .inl f)), (es, .inl (E.2.2.1, 24, .inl sz))] _ _ _ _ d_El_replaceByTruth_14 (⟨rfl, rfl⟩) rfl hP hS
  · subst h1
    refine lv_iconst (v := nI 1) hx hb d_El_replaceByTruth_6 (by decide) ?_
    refine lv_goto hx hb d_El_replaceByTruth_7 rfl ?_
    refine cal_I (As := [.int (nI k), .int (nI 1)]) (rest := []) C lk_El_45 (c_El_replace_no l E e0 eb es n f sz k (nI 1) (by omega) (by omega)) (by decide) hP hD hS 0 1 rfl rfl [0, 1, 2] rfl (by decide) hl.1 rfl (Nat.le_of_ble_eq_true rfl) d_El_replaceByTruth_11 (fun r4 w1 H locs hp5 hP hD hS => ?_)
    obtain ⟨rfl, rfl⟩ := hp5
    have hP : va_P E.1 clz [(e0, .inr (1, [.ref eb, .ref es, .int (nI n)])), (eb, .inl (E.2.1, 1920, .inl f)), (es, .inl (E.2.2.1, 24, .inl sz))] H := hP
    have hD : va_D A [(e0, .inr (1, [.ref eb, .ref es, .int (nI n)])), (eb, .inl (E.2.1, 1920, .inl f)), (es, .inl (E.2.2.1, 24, .inl sz))] := hD
    exact kret (b2 false) [(e0, .inr (1, [.ref eb, .ref es, .int (nI n)])), (eb, .inl (E.2.1, 1920, .inl f)), (es, .inl (E.2.2.1, 24, .inl sz))] _ _ _ _ d_El_replaceByTruth_14 (⟨rfl, rfl⟩) rfl hP hS
end
section
def swp (f : Nat → Int32) (o i : Nat) : Nat → Int32 := fun q => if o ≤ q ∧ q < o + i then f (q + 80) else if o + 80 ≤ q ∧ q < o + 80 + i then f (q - 80) else f q
theorem swp_0 (f : Nat → Int32) (o : Nat) : swp f o 0 = f := by
  funext q
  unfold swp
  rw [if_neg (by omega), if_neg (by omega)]
theorem swp_s (f : Nat → Int32) (o i : Nat) (hi : i < 80) : upd (upd (swp f o i) (o + i) (swp f o i (o + i + 80))) (o + i + 80) (swp f o i (o + i)) = swp f o (i + 1) := by
  have e1 : swp f o i (o + i + 80) = f (o + i + 80) := by unfold swp; rw [if_neg (by omega), if_neg (by omega)]
  have e2 : swp f o i (o + i) = f (o + i) := by unfold swp; rw [if_neg (by omega), if_neg (by omega)]
  rw [e1, e2]
  funext q
  unfold upd
  by_cases h1 : q = o + i + 80
  · subst h1
    rw [if_pos rfl]
    unfold swp
    rw [if_neg (by omega), if_pos (by omega)]
    congr 1
  · rw [if_neg h1]
    by_cases h2 : q = o + i
    · subst h2
      rw [if_pos rfl]
      unfold swp
      rw [if_pos (by omega)]
    · rw [if_neg h2]
      unfold swp
      by_cases h3 : o ≤ q ∧ q < o + i
      · rw [if_pos h3, if_pos (by omega)]
      · rw [if_neg h3]
        by_cases h4 : o + 80 ≤ q ∧ q < o + 80 + i
        · rw [if_pos h4, if_neg (by omega), if_pos (by omega)]
        · rw [if_neg h4, if_neg (by omega), if_neg (by omega)]
theorem swp_B {f : Nat → Int32} (o i : Nat) (h : fB f) : fB (swp f o i) := by
  intro q
  unfold swp
  split
  · exact h _
  · split
    · exact h _
    · exact h _
theorem isT_f {x : List Int32} (h : ∀ q, q < x.length → x.getD q 0 = 0) : isT x = false := by
  unfold isT
  rw [List.any_eq_false]
  intro b hb
  obtain ⟨q, hq, rfl⟩ := List.getElem_of_mem hb
  have := h q hq
  rw [List.getD_eq_getElem?_getD, List.getElem?_eq_getElem hq] at this
  simpa using this
theorem isT_t {x : List Int32} {q : Nat} (hq : q < x.length) (h : ¬ x.getD q 0 = 0) : isT x = true := by
  unfold isT
  rw [List.any_eq_true]
  rw [List.getD_eq_getElem?_getD, List.getElem?_eq_getElem hq] at h
  exact ⟨x[q], List.getElem_mem hq, by simpa using h⟩
def numI (x : List Int32) (b : Int32) (i : Nat) : Int32 := ((x.drop 1).take i).foldl (fun v c => cm1 v (c &&& nI 255)) b
theorem numI_s (x : List Int32) (b : Int32) (i : Nat) (hi : i + 1 < x.length) : numI x b (i + 1) = sl (numI x b i) (nI 8) ||| (x.getD (i + 1) 0 &&& nI 255) := by
  unfold numI
  have h1 : i < (x.drop 1).length := by simp; omega
  rw [List.take_succ_eq_append_getElem h1, List.foldl_append]
  simp only [List.foldl_cons, List.foldl_nil, cm1, List.getElem_drop]
  congr 2
  rw [List.getD_eq_getElem?_getD, List.getElem?_eq_getElem (by omega)]
  simp only [Option.getD_some]
  congr 1
  omega
theorem numI_e (x : List Int32) (h : 0 < x.length) : numI x (x.getD 0 0) (x.length - 1) = numL x := by
  cases x with
  | nil => simp at h
  | cons b r =>
    unfold numI numL
    simp
theorem list_eq_of {x y : List Int32} (h : x.length = y.length) (hq : ∀ q, q < x.length → x.getD q 0 = y.getD q 0) : x = y := by
  apply List.ext_getElem h
  intro q h1 h2
  have := hq q h1
  rw [List.getD_eq_getElem?_getD, List.getD_eq_getElem?_getD, List.getElem?_eq_getElem h1, List.getElem?_eq_getElem h2] at this
  simpa using this

set_option maxHeartbeats 4000000 in
set_option maxRecDepth 100000 in
theorem c_El_swapLast (l : Launch) (E : En) (e0 eb es k : Nat) (f sz : Nat → Int32) (hk : k + 2 ≤ 24) (hB : fB f) : CtI l y_El_swapLast b_El_swapLast 6 .boolean (rmd 1) E [.ref e0] [(e0, .inr (1, [.ref eb, .ref es, .int (nI (k + 2))])), (eb, .inl (E.2.1, 1920, .inl f)), (es, .inl (E.2.2.1, 24, .inl sz))] (fun r w => r = b2 true ∧ w = [(e0, .inr (1, [.ref eb, .ref es, .int (nI (k + 2))])), (eb, .inl (E.2.1, 1920, .inl (swp f (k * 80) 80))), (es, .inl (E.2.2.1, 24, .inl (upd (upd sz k (sz (k + 1))) (k + 1) (sz k))))]) := by
  refine CtI.of (by decide) (Nat.le_of_ble_eq_true rfl) (fun r w h => by obtain ⟨rfl, _⟩ := h; exact b2_nar _) ?_
  intro p e s m args below meth c A Q H locs ls C hP hD hS hl kret
  have hx := C.1
  have hb := C.2.1
  have hl : lv_has ls 6 [(0, .ref e0)] := hl
  refine lv_aload_n hx hb d_El_swapLast_0 rfl (lv_at hl 0 rfl) ?_
  refine n_get C fg_El_17 hP 0 rfl rfl d_El_swapLast_1 ?_
  refine lv_iconst (v := nI 2) hx hb d_El_swapLast_4 (by decide) ?_
  refine lv_isub hx hb d_El_swapLast_5 ?_
  refine tope (z := nI k) ((pk_sub (by omega)).trans (congrArg nI (by omega))) ?_
  refine tope (z := nI k) (congrArg nI (by omega)) ?_
  refine lv_istore_n (lv' := [(1, .int (nI k)), (0, .ref e0)]) hx hb d_El_swapLast_6 rfl hl (by decide) rfl (fun ls hl => ?_)
  refine lv_aload_n hx hb d_El_swapLast_7 rfl (lv_at hl 1 rfl) ?_
  refine lv_iload_n hx hb d_El_swapLast_8 rfl (lv_at hl 0 rfl) ?_
  refine cal_I (As := [.int (nI k)]) (rest := []) C lk_El_31 (c_El_has l E e0 eb es (k + 2) (nI k)) (by decide) hP hD hS 0 1 rfl rfl [0] rfl (by decide) hl.1 rfl (Nat.le_of_ble_eq_true rfl) d_El_swapLast_9 (fun r1 w1 H locs hp2 hP hD hS => ?_)
  obtain ⟨rfl, rfl⟩ := hp2
  have hP : va_P E.1 clz [(e0, .inr (1, [.ref eb, .ref es, .int (nI (k + 2))])), (eb, .inl (E.2.1, 1920, .inl f)), (es, .inl (E.2.2.1, 24, .inl sz))] H := hP
  have hD : va_D A [(e0, .inr (1, [.ref eb, .ref es, .int (nI (k + 2))])), (eb, .inl (E.2.1, 1920, .inl f)), (es, .inl (E.2.2.1, 24, .inl sz))] := hD
  refine tope (z := b2 true) (congrArg b2 ((hasB_nI (by omega) (by omega)).trans (decide_eq_true (by omega)))) ?_
  refine zb_ne C true rfl d_El_swapLast_12 rfl (fun h3 => ?_) (fun h3 => absurd h3 (by simp_all))
  refine lv_aload_n hx hb d_El_swapLast_17 rfl (lv_at hl 1 rfl) ?_
  refine n_get C fg_El_13 hP 0 rfl rfl d_El_swapLast_18 ?_
  refine lv_iload_n hx hb d_El_swapLast_21 rfl (lv_at hl 0 rfl) ?_
  refine n_iald C hP 2 rfl k rfl (by omega) (by omega) d_El_swapLast_22 ?_
  refine lv_istore_n (lv' := [(2, .int (sz k)), (1, .int (nI k)), (0, .ref e0)]) hx hb d_El_swapLast_23 rfl hl (by decide) rfl (fun ls hl => ?_)
  refine lv_aload_n hx hb d_El_swapLast_24 rfl (lv_at hl 2 rfl) ?_
  refine n_get C fg_El_13 hP 0 rfl rfl d_El_swapLast_25 ?_
  refine lv_iload_n hx hb d_El_swapLast_28 rfl (lv_at hl 1 rfl) ?_
  refine lv_aload_n hx hb d_El_swapLast_29 rfl (lv_at hl 2 rfl) ?_
  refine n_get C fg_El_13 hP 0 rfl rfl d_El_swapLast_30 ?_
  refine lv_iload_n hx hb d_El_swapLast_33 rfl (lv_at hl 1 rfl) ?_
  refine lv_iconst (v := nI 1) hx hb d_El_swapLast_34 (by decide) ?_
  refine lv_iadd hx hb d_El_swapLast_35 ?_
  refine tope (z := nI (k + 1)) (nI_add _ _) ?_
  refine n_iald C hP 2 rfl (k + 1) rfl (by omega) (by omega) d_El_swapLast_36 ?_
  refine n_iast C hP hD hS 2 rfl k rfl (by omega) (by omega) d_El_swapLast_37 (fun H locs hP hD hS => ?_)
  have hP : va_P E.1 clz [(e0, .inr (1, [.ref eb, .ref es, .int (nI (k + 2))])), (eb, .inl (E.2.1, 1920, .inl f)), (es, .inl (E.2.2.1, 24, .inl (upd sz k (sz (k + 1)))))] H := hP
  have hD : va_D A [(e0, .inr (1, [.ref eb, .ref es, .int (nI (k + 2))])), (eb, .inl (E.2.1, 1920, .inl f)), (es, .inl (E.2.2.1, 24, .inl (upd sz k (sz (k + 1)))))] := hD
  refine lv_aload_n hx hb d_El_swapLast_38 rfl (lv_at hl 2 rfl) ?_
  refine n_get C fg_El_13 hP 0 rfl rfl d_El_swapLast_39 ?_
  refine lv_iload_n hx hb d_El_swapLast_42 rfl (lv_at hl 1 rfl) ?_
  refine lv_iconst (v := nI 1) hx hb d_El_swapLast_43 (by decide) ?_
  refine lv_iadd hx hb d_El_swapLast_44 ?_
  refine tope (z := nI (k + 1)) (nI_add _ _) ?_
  refine lv_iload_n hx hb d_El_swapLast_45 rfl (lv_at hl 0 rfl) ?_
  refine n_iast C hP hD hS 2 rfl (k + 1) rfl (by omega) (by omega) d_El_swapLast_46 (fun H locs hP hD hS => ?_)
  have hP : va_P E.1 clz [(e0, .inr (1, [.ref eb, .ref es, .int (nI (k + 2))])), (eb, .inl (E.2.1, 1920, .inl f)), (es, .inl (E.2.2.1, 24, .inl (upd (upd sz k (sz (k + 1))) (k + 1) (sz k))))] H := hP
  have hD : va_D A [(e0, .inr (1, [.ref eb, .ref es, .int (nI (k + 2))])), (eb, .inl (E.2.1, 1920, .inl f)), (es, .inl (E.2.2.1, 24, .inl (upd (upd sz k (sz (k + 1))) (k + 1) (sz k))))] := hD
  refine lv_aload_n hx hb d_El_swapLast_47 rfl (lv_at hl 2 rfl) ?_
  refine lv_iload_n hx hb d_El_swapLast_48 rfl (lv_at hl 1 rfl) ?_
  refine cal_I (As := [.int (nI k)]) (rest := []) C lk_El_21 (c_El_place l E e0 k) (by decide) hP hD hS 0 1 rfl rfl [] rfl (by decide) hl.1 rfl (Nat.le_of_ble_eq_true rfl) d_El_swapLast_49 (fun r4 w1 H locs hp5 hP hD hS => ?_)
  obtain ⟨rfl, rfl⟩ := hp5
  have hP : va_P E.1 clz [(e0, .inr (1, [.ref eb, .ref es, .int (nI (k + 2))])), (eb, .inl (E.2.1, 1920, .inl f)), (es, .inl (E.2.2.1, 24, .inl (upd (upd sz k (sz (k + 1))) (k + 1) (sz k))))] H := hP
  have hD : va_D A [(e0, .inr (1, [.ref eb, .ref es, .int (nI (k + 2))])), (eb, .inl (E.2.1, 1920, .inl f)), (es, .inl (E.2.2.1, 24, .inl (upd (upd sz k (sz (k + 1))) (k + 1) (sz k))))] := hD
  refine lv_istore_n (lv' := [(3, .int (nI (k * 80))), (2, .int (sz k)), (1, .int (nI k)), (0, .ref e0)]) hx hb d_El_swapLast_52 rfl hl (by decide) rfl (fun ls hl => ?_)
  refine lv_iload_n hx hb d_El_swapLast_53 rfl (lv_at hl 0 rfl) ?_
  refine lv_istore (lv' := [(4, .int (nI (k * 80))), (3, .int (nI (k * 80))), (2, .int (sz k)), (1, .int (nI k)), (0, .ref e0)]) hx hb d_El_swapLast_54 hl (by decide) rfl (fun ls hl => ?_)
  rw [← swp_0 f (k * 80)] at hP hD
  have hloop56 : ∀ (dd : Nat) (i : Nat) (H : Heap) (locs : List Loc) (ls : Array Slot), 80 - i < dd → (i ≤ 80) → va_P E.1 clz [(e0, .inr (1, [.ref eb, .ref es, .int (nI (k + 2))])), (eb, .inl (E.2.1, 1920, .inl (swp f (k * 80) i))), (es, .inl (E.2.2.1, 24, .inl (upd (upd sz k (sz (k + 1))) (k + 1) (sz k))))] H → va_D A [(e0, .inr (1, [.ref eb, .ref es, .int (nI (k + 2))])), (eb, .inl (E.2.1, 1920, .inl (swp f (k * 80) i))), (es, .inl (E.2.2.1, 24, .inl (upd (upd sz k (sz (k + 1))) (k + 1) (sz k))))] → va_S A s.heap H locs → lv_has ls 6 [(4, .int (nI (k * 80 + i))), (3, .int (nI (k * 80))), (1, .int (nI k)), (0, .ref e0)] → W p l e (rmd 1) s m args below meth c H locs 0 0 Q (F0 m 56 ls []) := by
    intro dd
    induction dd with
    | zero => intro i H locs ls hm; exact absurd hm (Nat.not_lt_zero _)
    | succ dd ih56 =>
      intro i H locs ls hm hi hP hD hS hl
      refine lv_iload hx hb d_El_swapLast_56 (lv_at hl 0 rfl) ?_
      refine lv_iload_n hx hb d_El_swapLast_58 rfl (lv_at hl 1 rfl) ?_
      refine lv_bipush (v := nI 80) hx hb d_El_swapLast_59 (by decide) ?_
      refine lv_iadd hx hb d_El_swapLast_61 ?_
      refine tope (z := nI ((k * 80) + 80)) (nI_add _ _) ?_
      refine j_ge C (k * 80 + i) ((k * 80) + 80) rfl rfl (by omega) (by omega) d_El_swapLast_62 rfl (fun h6 => ?_) (fun h6 => ?_)
      · obtain rfl : i = 80 := by omega
        refine lv_iconst (v := nI 1) hx hb d_El_swapLast_109 (by decide) ?_
        exact kret (nI 1) [(e0, .inr (1, [.ref eb, .ref es, .int (nI (k + 2))])), (eb, .inl (E.2.1, 1920, .inl (swp f (k * 80) 80))), (es, .inl (E.2.2.1, 24, .inl (upd (upd sz k (sz (k + 1))) (k + 1) (sz k))))] _ _ _ _ d_El_swapLast_110 (⟨rfl, rfl⟩) rfl hP hS
      · refine lv_aload_n hx hb d_El_swapLast_65 rfl (lv_at hl 3 rfl) ?_
        refine n_get C fg_El_9 hP 0 rfl rfl d_El_swapLast_66 ?_
        refine lv_iload hx hb d_El_swapLast_69 (lv_at hl 0 rfl) ?_
        refine n_bald C hP 1 rfl (k * 80 + i) rfl (by omega) (by omega) d_El_swapLast_71 ?_
        refine lv_istore (lv' := [(5, .int ((swp f (k * 80) i) (k * 80 + i))), (4, .int (nI (k * 80 + i))), (3, .int (nI (k * 80))), (1, .int (nI k)), (0, .ref e0)]) hx hb d_El_swapLast_72 hl (by decide) rfl (fun ls hl => ?_)
        refine lv_aload_n hx hb d_El_swapLast_74 rfl (lv_at hl 4 rfl) ?_
        refine n_get C fg_El_9 hP 0 rfl rfl d_El_swapLast_75 ?_
        refine lv_iload hx hb d_El_swapLast_78 (lv_at hl 1 rfl) ?_
        refine lv_aload_n hx hb d_El_swapLast_80 rfl (lv_at hl 4 rfl) ?_
        refine n_get C fg_El_9 hP 0 rfl rfl d_El_swapLast_81 ?_
        refine lv_iload hx hb d_El_swapLast_84 (lv_at hl 1 rfl) ?_
        refine lv_bipush (v := nI 80) hx hb d_El_swapLast_86 (by decide) ?_
        refine lv_iadd hx hb d_El_swapLast_88 ?_
        refine tope (z := nI ((k * 80 + i) + 80)) (nI_add _ _) ?_
        refine n_bald C hP 1 rfl ((k * 80 + i) + 80) rfl (by omega) (by omega) d_El_swapLast_89 ?_
        refine n_bast (z := (swp f (k * 80) i) ((k * 80 + i) + 80)) C hP hD hS 1 rfl (k * 80 + i) rfl ((swp_B (k * 80) i hB) _) (by omega) (by omega) d_El_swapLast_90 (fun H locs hP hD hS => ?_)
        have hP : va_P E.1 clz [(e0, .inr (1, [.ref eb, .ref es, .int (nI (k + 2))])), (eb, .inl (E.2.1, 1920, .inl (upd (swp f (k * 80) i) (k * 80 + i) ((swp f (k * 80) i) ((k * 80 + i) + 80))))), (es, .inl (E.2.2.1, 24, .inl (upd (upd sz k (sz (k + 1))) (k + 1) (sz k))))] H := hP
        have hD : va_D A [(e0, .inr (1, [.ref eb, .ref es, .int (nI (k + 2))])), (eb, .inl (E.2.1, 1920, .inl (upd (swp f (k * 80) i) (k * 80 + i) ((swp f (k * 80) i) ((k * 80 + i) + 80))))), (es, .inl (E.2.2.1, 24, .inl (upd (upd sz k (sz (k + 1))) (k + 1) (sz k))))] := hD
        refine lv_aload_n hx hb d_El_swapLast_91 rfl (lv_at hl 4 rfl) ?_
        refine n_get C fg_El_9 hP 0 rfl rfl d_El_swapLast_92 ?_
        refine lv_iload hx hb d_El_swapLast_95 (lv_at hl 1 rfl) ?_
        refine lv_bipush (v := nI 80) hx hb d_El_swapLast_97 (by decide) ?_
        refine lv_iadd hx hb d_El_swapLast_99 ?_
        refine tope (z := nI ((k * 80 + i) + 80)) (nI_add _ _) ?_
        refine lv_iload hx hb d_El_swapLast_100 (lv_at hl 0 rfl) ?_
        refine n_bast (z := (swp f (k * 80) i) (k * 80 + i)) C hP hD hS 1 rfl ((k * 80 + i) + 80) rfl ((swp_B (k * 80) i hB) _) (by omega) (by omega) d_El_swapLast_102 (fun H locs hP hD hS => ?_)
        have hP : va_P E.1 clz [(e0, .inr (1, [.ref eb, .ref es, .int (nI (k + 2))])), (eb, .inl (E.2.1, 1920, .inl (upd (upd (swp f (k * 80) i) (k * 80 + i) ((swp f (k * 80) i) ((k * 80 + i) + 80))) ((k * 80 + i) + 80) ((swp f (k * 80) i) (k * 80 + i))))), (es, .inl (E.2.2.1, 24, .inl (upd (upd sz k (sz (k + 1))) (k + 1) (sz k))))] H := hP
        have hD : va_D A [(e0, .inr (1, [.ref eb, .ref es, .int (nI (k + 2))])), (eb, .inl (E.2.1, 1920, .inl (upd (upd (swp f (k * 80) i) (k * 80 + i) ((swp f (k * 80) i) ((k * 80 + i) + 80))) ((k * 80 + i) + 80) ((swp f (k * 80) i) (k * 80 + i))))), (es, .inl (E.2.2.1, 24, .inl (upd (upd sz k (sz (k + 1))) (k + 1) (sz k))))] := hD
        rw [swp_s f (k * 80) i (by omega)] at hP hD
        have hP : va_P E.1 clz [(e0, .inr (1, [.ref eb, .ref es, .int (nI (k + 2))])), (eb, .inl (E.2.1, 1920, .inl (swp f (k * 80) (i + 1)))), (es, .inl (E.2.2.1, 24, .inl (upd (upd sz k (sz (k + 1))) (k + 1) (sz k))))] H := hP
        have hD : va_D A [(e0, .inr (1, [.ref eb, .ref es, .int (nI (k + 2))])), (eb, .inl (E.2.1, 1920, .inl (swp f (k * 80) (i + 1)))), (es, .inl (E.2.2.1, 24, .inl (upd (upd sz k (sz (k + 1))) (k + 1) (sz k))))] := hD
        refine lv_iinc (k := 1) (v := nI (k * 80 + i + 1)) (lv' := [(4, .int (nI (k * 80 + i + 1))), (5, .int ((swp f (k * 80) i) (k * 80 + i))), (3, .int (nI (k * 80))), (1, .int (nI k)), (0, .ref e0)]) hx hb d_El_swapLast_103 hl rfl (iincK (k * 80 + i) 1) (by decide) rfl (fun ls hl => ?_)
        refine lv_goto hx hb d_El_swapLast_106 rfl ?_
        exact ih56 (i + 1) H locs ls (by omega) (by omega) hP hD hS (lv_sub hl [0, 2, 3, 4] rfl)
  exact hloop56 (80 + 1) 0 H locs ls (by omega) (by omega) hP hD hS (lv_sub hl [0, 1, 3, 4] rfl)

set_option maxHeartbeats 4000000 in
set_option maxRecDepth 100000 in
theorem c_El_swapLast_no (l : Launch) (E : En) (e0 eb es n : Nat) (f sz : Nat → Int32) (hk : hasB (nI n - nI 2) n = false) : CtI l y_El_swapLast b_El_swapLast 6 .boolean (rmd 1) E [.ref e0] [(e0, .inr (1, [.ref eb, .ref es, .int (nI n)])), (eb, .inl (E.2.1, 1920, .inl f)), (es, .inl (E.2.2.1, 24, .inl sz))] (fun r w => r = b2 false ∧ w = [(e0, .inr (1, [.ref eb, .ref es, .int (nI n)])), (eb, .inl (E.2.1, 1920, .inl f)), (es, .inl (E.2.2.1, 24, .inl sz))]) := by
  refine CtI.of (by decide) (Nat.le_of_ble_eq_true rfl) (fun r w h => by obtain ⟨rfl, _⟩ := h; exact b2_nar _) ?_
  intro p e s m args below meth c A Q H locs ls C hP hD hS hl kret
  have hx := C.1
  have hb := C.2.1
  have hl : lv_has ls 6 [(0, .ref e0)] := hl
  refine lv_aload_n hx hb d_El_swapLast_0 rfl (lv_at hl 0 rfl) ?_
  refine n_get C fg_El_17 hP 0 rfl rfl d_El_swapLast_1 ?_
  refine lv_iconst (v := nI 2) hx hb d_El_swapLast_4 (by decide) ?_
  refine lv_isub hx hb d_El_swapLast_5 ?_
  refine lv_istore_n (lv' := [(1, .int ((nI n) - (nI 2))), (0, .ref e0)]) hx hb d_El_swapLast_6 rfl hl (by decide) rfl (fun ls hl => ?_)
  refine lv_aload_n hx hb d_El_swapLast_7 rfl (lv_at hl 1 rfl) ?_
  refine lv_iload_n hx hb d_El_swapLast_8 rfl (lv_at hl 0 rfl) ?_
  refine cal_I (As := [.int ((nI n) - (nI 2))]) (rest := []) C lk_El_31 (c_El_has l E e0 eb es n ((nI n) - (nI 2))) (by decide) hP hD hS 0 1 rfl rfl [0] rfl (by decide) hl.1 rfl (Nat.le_of_ble_eq_true rfl) d_El_swapLast_9 (fun r1 w1 H locs hp2 hP hD hS => ?_)
  obtain ⟨rfl, rfl⟩ := hp2
  have hP : va_P E.1 clz [(e0, .inr (1, [.ref eb, .ref es, .int (nI n)])), (eb, .inl (E.2.1, 1920, .inl f)), (es, .inl (E.2.2.1, 24, .inl sz))] H := hP
  have hD : va_D A [(e0, .inr (1, [.ref eb, .ref es, .int (nI n)])), (eb, .inl (E.2.1, 1920, .inl f)), (es, .inl (E.2.2.1, 24, .inl sz))] := hD
  refine tope (z := b2 false) (congrArg b2 (hk)) ?_
  refine zb_ne C false rfl d_El_swapLast_12 rfl (fun h3 => absurd h3 (by simp_all)) (fun h3 => ?_)
  refine lv_iconst (v := nI 0) hx hb d_El_swapLast_15 (by decide) ?_
  exact kret (nI 0) [(e0, .inr (1, [.ref eb, .ref es, .int (nI n)])), (eb, .inl (E.2.1, 1920, .inl f)), (es, .inl (E.2.2.1, 24, .inl sz))] _ _ _ _ d_El_swapLast_16 (⟨rfl, rfl⟩) rfl hP hS

set_option maxHeartbeats 4000000 in
set_option maxRecDepth 100000 in
theorem c_El_isTrue (l : Launch) (E : En) (e0 eb es n : Nat) (f sz : Nat → Int32) (j : Nat) (x : List Int32) (hj : j < n) (hn : n ≤ 24) (hz : sz j = nI x.length) (hx80 : x.length ≤ 80) (hla : lay f (j * 80) x) : CtI l y_El_isTrue b_El_isTrue 4 .boolean (rmd 1) E [.ref e0, .int (nI j)] [(e0, .inr (1, [.ref eb, .ref es, .int (nI n)])), (eb, .inl (E.2.1, 1920, .inl f)), (es, .inl (E.2.2.1, 24, .inl sz))] (fun r w => r = b2 (isT x) ∧ w = [(e0, .inr (1, [.ref eb, .ref es, .int (nI n)])), (eb, .inl (E.2.1, 1920, .inl f)), (es, .inl (E.2.2.1, 24, .inl sz))]) := by
  refine CtI.of (by decide) (Nat.le_of_ble_eq_true rfl) (fun r w h => by obtain ⟨rfl, _⟩ := h; exact b2_nar _) ?_
  intro p e s m args below meth c A Q H locs ls C hP hD hS hl kret
  have hx := C.1
  have hb := C.2.1
  have hl : lv_has ls 4 [(0, .ref e0), (1, .int (nI j))] := hl
  refine lv_aload_n hx hb d_El_isTrue_0 rfl (lv_at hl 0 rfl) ?_
  refine lv_iload_n hx hb d_El_isTrue_1 rfl (lv_at hl 1 rfl) ?_
  refine cal_I (As := [.int (nI j)]) (rest := []) C lk_El_31 (c_El_has l E e0 eb es n (nI j)) (by decide) hP hD hS 0 1 rfl rfl [0] rfl (by decide) hl.1 rfl (Nat.le_of_ble_eq_true rfl) d_El_isTrue_2 (fun r1 w1 H locs hp2 hP hD hS => ?_)
  obtain ⟨rfl, rfl⟩ := hp2
  have hP : va_P E.1 clz [(e0, .inr (1, [.ref eb, .ref es, .int (nI n)])), (eb, .inl (E.2.1, 1920, .inl f)), (es, .inl (E.2.2.1, 24, .inl sz))] H := hP
  have hD : va_D A [(e0, .inr (1, [.ref eb, .ref es, .int (nI n)])), (eb, .inl (E.2.1, 1920, .inl f)), (es, .inl (E.2.2.1, 24, .inl sz))] := hD
  refine tope (z := b2 true) (congrArg b2 ((hasB_nI (by omega) (by omega)).trans (decide_eq_true (by omega)))) ?_
  refine zb_ne C true rfl d_El_isTrue_5 rfl (fun h3 => ?_) (fun h3 => absurd h3 (by simp_all))
  refine lv_aload_n hx hb d_El_isTrue_10 rfl (lv_at hl 0 rfl) ?_
  refine lv_iload_n hx hb d_El_isTrue_11 rfl (lv_at hl 1 rfl) ?_
  refine cal_I (As := [.int (nI j)]) (rest := []) C lk_El_21 (c_El_place l E e0 j) (by decide) hP hD hS 0 1 rfl rfl [] rfl (by decide) hl.1 rfl (Nat.le_of_ble_eq_true rfl) d_El_isTrue_12 (fun r4 w1 H locs hp5 hP hD hS => ?_)
  obtain ⟨rfl, rfl⟩ := hp5
  have hP : va_P E.1 clz [(e0, .inr (1, [.ref eb, .ref es, .int (nI n)])), (eb, .inl (E.2.1, 1920, .inl f)), (es, .inl (E.2.2.1, 24, .inl sz))] H := hP
  have hD : va_D A [(e0, .inr (1, [.ref eb, .ref es, .int (nI n)])), (eb, .inl (E.2.1, 1920, .inl f)), (es, .inl (E.2.2.1, 24, .inl sz))] := hD
  refine lv_istore_n (lv' := [(2, .int (nI (j * 80))), (0, .ref e0), (1, .int (nI j))]) hx hb d_El_isTrue_15 rfl hl (by decide) rfl (fun ls hl => ?_)
  refine lv_iconst (v := nI 0) hx hb d_El_isTrue_16 (by decide) ?_
  refine lv_istore_n (lv' := [(3, .int (nI 0)), (2, .int (nI (j * 80))), (0, .ref e0), (1, .int (nI j))]) hx hb d_El_isTrue_17 rfl hl (by decide) rfl (fun ls hl => ?_)
  have hloop18 : ∀ (dd : Nat) (i : Nat) (H : Heap) (locs : List Loc) (ls : Array Slot), x.length - i < dd → (i ≤ x.length) → (∀ q, q < i → x.getD q 0 = 0) → va_P E.1 clz [(e0, .inr (1, [.ref eb, .ref es, .int (nI n)])), (eb, .inl (E.2.1, 1920, .inl f)), (es, .inl (E.2.2.1, 24, .inl sz))] H → va_D A [(e0, .inr (1, [.ref eb, .ref es, .int (nI n)])), (eb, .inl (E.2.1, 1920, .inl f)), (es, .inl (E.2.2.1, 24, .inl sz))] → va_S A s.heap H locs → lv_has ls 4 [(3, .int (nI i)), (2, .int (nI (j * 80))), (1, .int (nI j)), (0, .ref e0)] → W p l e (rmd 1) s m args below meth c H locs 0 0 Q (F0 m 18 ls []) := by
    intro dd
    induction dd with
    | zero => intro i H locs ls hm; exact absurd hm (Nat.not_lt_zero _)
    | succ dd ih18 =>
      intro i H locs ls hm hi hi2 hP hD hS hl
      refine lv_iload_n hx hb d_El_isTrue_18 rfl (lv_at hl 0 rfl) ?_
      refine lv_aload_n hx hb d_El_isTrue_19 rfl (lv_at hl 3 rfl) ?_
      refine n_get C fg_El_13 hP 0 rfl rfl d_El_isTrue_20 ?_
      refine lv_iload_n hx hb d_El_isTrue_23 rfl (lv_at hl 2 rfl) ?_
      refine n_iald C hP 2 rfl j rfl (by omega) (by omega) d_El_isTrue_24 ?_
      refine tope (z := nI x.length) (hz) ?_
      refine j_ge C i x.length rfl rfl (by omega) (by omega) d_El_isTrue_25 rfl (fun h6 => ?_) (fun h6 => ?_)
      · refine lv_iconst (v := nI 0) hx hb d_El_isTrue_47 (by decide) ?_
        exact kret (nI 0) [(e0, .inr (1, [.ref eb, .ref es, .int (nI n)])), (eb, .inl (E.2.1, 1920, .inl f)), (es, .inl (E.2.2.1, 24, .inl sz))] _ _ _ _ d_El_isTrue_48 (⟨b2_f (isT_f (fun q hq => hi2 q (by omega))), rfl⟩) rfl hP hS
      · refine lv_aload_n hx hb d_El_isTrue_28 rfl (lv_at hl 3 rfl) ?_
        refine n_get C fg_El_9 hP 0 rfl rfl d_El_isTrue_29 ?_
        refine lv_iload_n hx hb d_El_isTrue_32 rfl (lv_at hl 1 rfl) ?_
        refine lv_iload_n hx hb d_El_isTrue_33 rfl (lv_at hl 0 rfl) ?_
        refine lv_iadd hx hb d_El_isTrue_34 ?_
        refine tope (z := nI ((j * 80) + i)) (nI_add _ _) ?_
        refine n_bald C hP 1 rfl ((j * 80) + i) rfl (by omega) (by omega) d_El_isTrue_35 ?_
        refine lv_if_eq hx hb d_El_isTrue_36 rfl (fun h7 => ?_) (fun h7 => ?_)
        · refine lv_iinc (k := 0) (v := nI (i + 1)) (lv' := [(3, .int (nI (i + 1))), (2, .int (nI (j * 80))), (1, .int (nI j)), (0, .ref e0)]) hx hb d_El_isTrue_41 hl rfl (iincK i 1) (by decide) rfl (fun ls hl => ?_)
          refine lv_goto hx hb d_El_isTrue_44 rfl ?_
          exact ih18 (i + 1) H locs ls (by omega) (by omega) (fun q hq => by rcases Nat.lt_or_ge q i with h9 | h9; exact hi2 q h9; obtain rfl : q = i := (by omega); rw [← hla q (by omega)]; assumption) hP hD hS (lv_sub hl [0, 1, 2, 3] rfl)
        · refine lv_iconst (v := nI 1) hx hb d_El_isTrue_39 (by decide) ?_
          exact kret (nI 1) [(e0, .inr (1, [.ref eb, .ref es, .int (nI n)])), (eb, .inl (E.2.1, 1920, .inl f)), (es, .inl (E.2.2.1, 24, .inl sz))] _ _ _ _ d_El_isTrue_40 (⟨b2_t (isT_t (q := i) (by omega) (by rw [← hla i (by omega)]; assumption)), rfl⟩) rfl hP hS
  exact hloop18 (x.length + 1) 0 H locs ls (by omega) (by omega) (fun q hq => absurd hq (Nat.not_lt_zero q)) hP hD hS (lv_sub hl [0, 1, 3, 2] rfl)

set_option maxHeartbeats 4000000 in
set_option maxRecDepth 100000 in
theorem c_El_isTrue_no (l : Launch) (E : En) (e0 eb es n : Nat) (f sz : Nat → Int32) (k : Int32) (hk : hasB k n = false) : CtI l y_El_isTrue b_El_isTrue 4 .boolean (rmd 1) E [.ref e0, .int k] [(e0, .inr (1, [.ref eb, .ref es, .int (nI n)])), (eb, .inl (E.2.1, 1920, .inl f)), (es, .inl (E.2.2.1, 24, .inl sz))] (fun r w => r = b2 false ∧ w = [(e0, .inr (1, [.ref eb, .ref es, .int (nI n)])), (eb, .inl (E.2.1, 1920, .inl f)), (es, .inl (E.2.2.1, 24, .inl sz))]) := by
  refine CtI.of (by decide) (Nat.le_of_ble_eq_true rfl) (fun r w h => by obtain ⟨rfl, _⟩ := h; exact b2_nar _) ?_
  intro p e s m args below meth c A Q H locs ls C hP hD hS hl kret
  have hx := C.1
  have hb := C.2.1
  have hl : lv_has ls 4 [(0, .ref e0), (1, .int k)] := hl
  refine lv_aload_n hx hb d_El_isTrue_0 rfl (lv_at hl 0 rfl) ?_
  refine lv_iload_n hx hb d_El_isTrue_1 rfl (lv_at hl 1 rfl) ?_
  refine cal_I (As := [.int k]) (rest := []) C lk_El_31 (c_El_has l E e0 eb es n k) (by decide) hP hD hS 0 1 rfl rfl [0] rfl (by decide) hl.1 rfl (Nat.le_of_ble_eq_true rfl) d_El_isTrue_2 (fun r1 w1 H locs hp2 hP hD hS => ?_)
  obtain ⟨rfl, rfl⟩ := hp2
  have hP : va_P E.1 clz [(e0, .inr (1, [.ref eb, .ref es, .int (nI n)])), (eb, .inl (E.2.1, 1920, .inl f)), (es, .inl (E.2.2.1, 24, .inl sz))] H := hP
  have hD : va_D A [(e0, .inr (1, [.ref eb, .ref es, .int (nI n)])), (eb, .inl (E.2.1, 1920, .inl f)), (es, .inl (E.2.2.1, 24, .inl sz))] := hD
  refine tope (z := b2 false) (congrArg b2 (hk)) ?_
  refine zb_ne C false rfl d_El_isTrue_5 rfl (fun h3 => absurd h3 (by simp_all)) (fun h3 => ?_)
  refine lv_iconst (v := nI 0) hx hb d_El_isTrue_8 (by decide) ?_
  exact kret (nI 0) [(e0, .inr (1, [.ref eb, .ref es, .int (nI n)])), (eb, .inl (E.2.1, 1920, .inl f)), (es, .inl (E.2.2.1, 24, .inl sz))] _ _ _ _ d_El_isTrue_9 (⟨rfl, rfl⟩) rfl hP hS

set_option maxHeartbeats 4000000 in
set_option maxRecDepth 100000 in
theorem c_El_isNumber (l : Launch) (E : En) (e0 eb es n : Nat) (f sz : Nat → Int32) (j k : Nat) (hj : j < n) (hn : n ≤ 24) (hz : sz j = nI k) (hk : k ≤ 80) : CtI l y_El_isNumber b_El_isNumber 2 .boolean (rmd 1) E [.ref e0, .int (nI j)] [(e0, .inr (1, [.ref eb, .ref es, .int (nI n)])), (eb, .inl (E.2.1, 1920, .inl f)), (es, .inl (E.2.2.1, 24, .inl sz))] (fun r w => r = b2 (decide (k ≤ 4)) ∧ w = [(e0, .inr (1, [.ref eb, .ref es, .int (nI n)])), (eb, .inl (E.2.1, 1920, .inl f)), (es, .inl (E.2.2.1, 24, .inl sz))]) := by
  refine CtI.of (by decide) (Nat.le_of_ble_eq_true rfl) (fun r w h => by obtain ⟨rfl, _⟩ := h; exact b2_nar _) ?_
  intro p e s m args below meth c A Q H locs ls C hP hD hS hl kret
  have hx := C.1
  have hb := C.2.1
  have hl : lv_has ls 2 [(0, .ref e0), (1, .int (nI j))] := hl
  refine lv_aload_n hx hb d_El_isNumber_0 rfl (lv_at hl 0 rfl) ?_
  refine lv_iload_n hx hb d_El_isNumber_1 rfl (lv_at hl 1 rfl) ?_
  refine cal_I (As := [.int (nI j)]) (rest := []) C lk_El_31 (c_El_has l E e0 eb es n (nI j)) (by decide) hP hD hS 0 1 rfl rfl [0] rfl (by decide) hl.1 rfl (Nat.le_of_ble_eq_true rfl) d_El_isNumber_2 (fun r1 w1 H locs hp2 hP hD hS => ?_)
  obtain ⟨rfl, rfl⟩ := hp2
  have hP : va_P E.1 clz [(e0, .inr (1, [.ref eb, .ref es, .int (nI n)])), (eb, .inl (E.2.1, 1920, .inl f)), (es, .inl (E.2.2.1, 24, .inl sz))] H := hP
  have hD : va_D A [(e0, .inr (1, [.ref eb, .ref es, .int (nI n)])), (eb, .inl (E.2.1, 1920, .inl f)), (es, .inl (E.2.2.1, 24, .inl sz))] := hD
  refine tope (z := b2 true) (congrArg b2 ((hasB_nI (by omega) (by omega)).trans (decide_eq_true (by omega)))) ?_
  refine zb_eq C true rfl d_El_isNumber_5 rfl (fun h3 => absurd h3 (by simp_all)) (fun h3 => ?_)
  refine lv_aload_n hx hb d_El_isNumber_8 rfl (lv_at hl 0 rfl) ?_
  refine n_get C fg_El_13 hP 0 rfl rfl d_El_isNumber_9 ?_
  refine lv_iload_n hx hb d_El_isNumber_12 rfl (lv_at hl 1 rfl) ?_
  refine n_iald C hP 2 rfl j rfl (by omega) (by omega) d_El_isNumber_13 ?_
  refine tope (z := nI k) (hz) ?_
  refine lv_iconst (v := nI 4) hx hb d_El_isNumber_14 (by decide) ?_
  refine j_gt C k 4 rfl rfl (by omega) (by omega) d_El_isNumber_15 rfl (fun h4 => ?_) (fun h4 => ?_)
  · refine lv_iconst (v := nI 0) hx hb d_El_isNumber_22 (by decide) ?_
    exact kret (nI 0) [(e0, .inr (1, [.ref eb, .ref es, .int (nI n)])), (eb, .inl (E.2.1, 1920, .inl f)), (es, .inl (E.2.2.1, 24, .inl sz))] _ _ _ _ d_El_isNumber_23 (⟨by first | exact b2_t (decide_eq_true (by omega)) | exact b2_f (decide_eq_false (by omega)), rfl⟩) rfl hP hS
  · refine lv_iconst (v := nI 1) hx hb d_El_isNumber_18 (by decide) ?_
    refine lv_goto hx hb d_El_isNumber_19 rfl ?_
    exact kret (nI 1) [(e0, .inr (1, [.ref eb, .ref es, .int (nI n)])), (eb, .inl (E.2.1, 1920, .inl f)), (es, .inl (E.2.2.1, 24, .inl sz))] _ _ _ _ d_El_isNumber_23 (⟨by first | exact b2_t (decide_eq_true (by omega)) | exact b2_f (decide_eq_false (by omega)), rfl⟩) rfl hP hS

set_option maxHeartbeats 4000000 in
set_option maxRecDepth 100000 in
theorem c_El_isNumber_no (l : Launch) (E : En) (e0 eb es n : Nat) (f sz : Nat → Int32) (k : Int32) (hk : hasB k n = false) : CtI l y_El_isNumber b_El_isNumber 2 .boolean (rmd 1) E [.ref e0, .int k] [(e0, .inr (1, [.ref eb, .ref es, .int (nI n)])), (eb, .inl (E.2.1, 1920, .inl f)), (es, .inl (E.2.2.1, 24, .inl sz))] (fun r w => r = b2 false ∧ w = [(e0, .inr (1, [.ref eb, .ref es, .int (nI n)])), (eb, .inl (E.2.1, 1920, .inl f)), (es, .inl (E.2.2.1, 24, .inl sz))]) := by
  refine CtI.of (by decide) (Nat.le_of_ble_eq_true rfl) (fun r w h => by obtain ⟨rfl, _⟩ := h; exact b2_nar _) ?_
  intro p e s m args below meth c A Q H locs ls C hP hD hS hl kret
  have hx := C.1
  have hb := C.2.1
  have hl : lv_has ls 2 [(0, .ref e0), (1, .int k)] := hl
  refine lv_aload_n hx hb d_El_isNumber_0 rfl (lv_at hl 0 rfl) ?_
  refine lv_iload_n hx hb d_El_isNumber_1 rfl (lv_at hl 1 rfl) ?_
  refine cal_I (As := [.int k]) (rest := []) C lk_El_31 (c_El_has l E e0 eb es n k) (by decide) hP hD hS 0 1 rfl rfl [0] rfl (by decide) hl.1 rfl (Nat.le_of_ble_eq_true rfl) d_El_isNumber_2 (fun r1 w1 H locs hp2 hP hD hS => ?_)
  obtain ⟨rfl, rfl⟩ := hp2
  have hP : va_P E.1 clz [(e0, .inr (1, [.ref eb, .ref es, .int (nI n)])), (eb, .inl (E.2.1, 1920, .inl f)), (es, .inl (E.2.2.1, 24, .inl sz))] H := hP
  have hD : va_D A [(e0, .inr (1, [.ref eb, .ref es, .int (nI n)])), (eb, .inl (E.2.1, 1920, .inl f)), (es, .inl (E.2.2.1, 24, .inl sz))] := hD
  refine tope (z := b2 false) (congrArg b2 (hk)) ?_
  refine zb_eq C false rfl d_El_isNumber_5 rfl (fun h3 => ?_) (fun h3 => absurd h3 (by simp_all))
  refine lv_iconst (v := nI 0) hx hb d_El_isNumber_22 (by decide) ?_
  exact kret (nI 0) [(e0, .inr (1, [.ref eb, .ref es, .int (nI n)])), (eb, .inl (E.2.1, 1920, .inl f)), (es, .inl (E.2.2.1, 24, .inl sz))] _ _ _ _ d_El_isNumber_23 (⟨rfl, rfl⟩) rfl hP hS

set_option maxHeartbeats 4000000 in
set_option maxRecDepth 100000 in
theorem c_El_number (l : Launch) (E : En) (e0 eb es n : Nat) (f sz : Nat → Int32) (j : Nat) (x : List Int32) (hj : j < n) (hn : n ≤ 24) (hz : sz j = nI x.length) (hx80 : x.length ≤ 80) (hla : lay f (j * 80) x) (hx4 : x.length ≤ 4) : CtI l y_El_number b_El_number 5 .int (rmd 2) E [.ref e0, .int (nI j)] [(e0, .inr (1, [.ref eb, .ref es, .int (nI n)])), (eb, .inl (E.2.1, 1920, .inl f)), (es, .inl (E.2.2.1, 24, .inl sz))] (fun r w => r = numL x ∧ w = [(e0, .inr (1, [.ref eb, .ref es, .int (nI n)])), (eb, .inl (E.2.1, 1920, .inl f)), (es, .inl (E.2.2.1, 24, .inl sz))]) := by
  refine CtI.of (by decide) (Nat.le_of_ble_eq_true rfl) (fun _ _ _ => rfl) ?_
  intro p e s m args below meth c A Q H locs ls C hP hD hS hl kret
  have hx := C.1
  have hb := C.2.1
  have hl : lv_has ls 5 [(0, .ref e0), (1, .int (nI j))] := hl
  refine lv_aload_n hx hb d_El_number_0 rfl (lv_at hl 0 rfl) ?_
  refine lv_iload_n hx hb d_El_number_1 rfl (lv_at hl 1 rfl) ?_
  refine cal_I (As := [.int (nI j)]) (rest := []) C lk_El_49 (c_El_isNumber l E e0 eb es n f sz j x.length (by omega) (by omega) (hz) (by omega)) (by decide) hP hD hS 0 1 rfl rfl [0, 1, 2] rfl (by decide) hl.1 rfl (Nat.le_of_ble_eq_true rfl) d_El_number_2 (fun r1 w1 H locs hp2 hP hD hS => ?_)
  obtain ⟨rfl, rfl⟩ := hp2
  have hP : va_P E.1 clz [(e0, .inr (1, [.ref eb, .ref es, .int (nI n)])), (eb, .inl (E.2.1, 1920, .inl f)), (es, .inl (E.2.2.1, 24, .inl sz))] H := hP
  have hD : va_D A [(e0, .inr (1, [.ref eb, .ref es, .int (nI n)])), (eb, .inl (E.2.1, 1920, .inl f)), (es, .inl (E.2.2.1, 24, .inl sz))] := hD
  refine tope (z := b2 true) (congrArg b2 (decide_eq_true hx4)) ?_
  refine zb_eq C true rfl d_El_number_5 rfl (fun h3 => absurd h3 (by simp_all)) (fun h3 => ?_)
  refine lv_aload_n hx hb d_El_number_8 rfl (lv_at hl 0 rfl) ?_
  refine n_get C fg_El_13 hP 0 rfl rfl d_El_number_9 ?_
  refine lv_iload_n hx hb d_El_number_12 rfl (lv_at hl 1 rfl) ?_
  refine n_iald C hP 2 rfl j rfl (by omega) (by omega) d_El_number_13 ?_
  refine tope (z := nI x.length) (hz) ?_
  refine z_ne C x.length rfl (by omega) d_El_number_14 rfl (fun h4 => ?_) (fun h4 => ?_)
  · refine lv_aload_n hx hb d_El_number_19 rfl (lv_at hl 0 rfl) ?_
    refine lv_iload_n hx hb d_El_number_20 rfl (lv_at hl 1 rfl) ?_
    refine cal_I (As := [.int (nI j)]) (rest := []) C lk_El_21 (c_El_place l E e0 j) (by decide) hP hD hS 0 1 rfl rfl [] rfl (by decide) hl.1 rfl (Nat.le_of_ble_eq_true rfl) d_El_number_21 (fun r5 w1 H locs hp6 hP hD hS => ?_)
    obtain ⟨rfl, rfl⟩ := hp6
    have hP : va_P E.1 clz [(e0, .inr (1, [.ref eb, .ref es, .int (nI n)])), (eb, .inl (E.2.1, 1920, .inl f)), (es, .inl (E.2.2.1, 24, .inl sz))] H := hP
    have hD : va_D A [(e0, .inr (1, [.ref eb, .ref es, .int (nI n)])), (eb, .inl (E.2.1, 1920, .inl f)), (es, .inl (E.2.2.1, 24, .inl sz))] := hD
    refine lv_istore_n (lv' := [(2, .int (nI (j * 80))), (0, .ref e0), (1, .int (nI j))]) hx hb d_El_number_24 rfl hl (by decide) rfl (fun ls hl => ?_)
    refine lv_aload_n hx hb d_El_number_25 rfl (lv_at hl 1 rfl) ?_
    refine n_get C fg_El_9 hP 0 rfl rfl d_El_number_26 ?_
    refine lv_iload_n hx hb d_El_number_29 rfl (lv_at hl 0 rfl) ?_
    refine n_bald C hP 1 rfl (j * 80) rfl (by omega) (by omega) d_El_number_30 ?_
    refine tope (z := x.getD 0 0) (hla 0 (by omega)) ?_
    refine lv_istore_n (lv' := [(3, .int (x.getD 0 0)), (2, .int (nI (j * 80))), (0, .ref e0), (1, .int (nI j))]) hx hb d_El_number_31 rfl hl (by decide) rfl (fun ls hl => ?_)
    refine lv_iconst (v := nI 1) hx hb d_El_number_32 (by decide) ?_
    refine lv_istore (lv' := [(4, .int (nI 1)), (3, .int (x.getD 0 0)), (2, .int (nI (j * 80))), (0, .ref e0), (1, .int (nI j))]) hx hb d_El_number_33 hl (by decide) rfl (fun ls hl => ?_)
    have hloop35 : ∀ (dd : Nat) (i : Nat) (H : Heap) (locs : List Loc) (ls : Array Slot), x.length - i < dd → (i + 1 ≤ x.length) → va_P E.1 clz [(e0, .inr (1, [.ref eb, .ref es, .int (nI n)])), (eb, .inl (E.2.1, 1920, .inl f)), (es, .inl (E.2.2.1, 24, .inl sz))] H → va_D A [(e0, .inr (1, [.ref eb, .ref es, .int (nI n)])), (eb, .inl (E.2.1, 1920, .inl f)), (es, .inl (E.2.2.1, 24, .inl sz))] → va_S A s.heap H locs → lv_has ls 5 [(4, .int (nI (i + 1))), (3, .int (numI x (x.getD 0 0) i)), (2, .int (nI (j * 80))), (1, .int (nI j)), (0, .ref e0)] → W p l e (rmd 2) s m args below meth c H locs 0 0 Q (F0 m 35 ls []) := by
      intro dd
      induction dd with
      | zero => intro i H locs ls hm; exact absurd hm (Nat.not_lt_zero _)
      | succ dd ih35 =>
        intro i H locs ls hm hi hP hD hS hl
        refine lv_iload hx hb d_El_number_35 (lv_at hl 0 rfl) ?_
        refine lv_aload_n hx hb d_El_number_37 rfl (lv_at hl 4 rfl) ?_
        refine n_get C fg_El_13 hP 0 rfl rfl d_El_number_38 ?_
        refine lv_iload_n hx hb d_El_number_41 rfl (lv_at hl 3 rfl) ?_
        refine n_iald C hP 2 rfl j rfl (by omega) (by omega) d_El_number_42 ?_
        refine tope (z := nI x.length) (hz) ?_
        refine j_ge C (i + 1) x.length rfl rfl (by omega) (by omega) d_El_number_43 rfl (fun h7 => ?_) (fun h7 => ?_)
        · refine lv_iload_n hx hb d_El_number_71 rfl (lv_at hl 1 rfl) ?_
          exact kret (numI x (x.getD 0 0) i) [(e0, .inr (1, [.ref eb, .ref es, .int (nI n)])), (eb, .inl (E.2.1, 1920, .inl f)), (es, .inl (E.2.2.1, 24, .inl sz))] _ _ _ _ d_El_number_72 (⟨by rw [show i = x.length - 1 by omega]; exact numI_e x (by omega), rfl⟩) rfl hP hS
        · refine lv_iload_n hx hb d_El_number_46 rfl (lv_at hl 1 rfl) ?_
          refine lv_bipush (v := nI 8) hx hb d_El_number_47 (by decide) ?_
          refine lv_ishl hx hb d_El_number_49 ?_
          refine lv_aload_n hx hb d_El_number_50 rfl (lv_at hl 4 rfl) ?_
          refine n_get C fg_El_9 hP 0 rfl rfl d_El_number_51 ?_
          refine lv_iload_n hx hb d_El_number_54 rfl (lv_at hl 2 rfl) ?_
          refine lv_iload hx hb d_El_number_55 (lv_at hl 0 rfl) ?_
          refine lv_iadd hx hb d_El_number_57 ?_
          refine tope (z := nI ((j * 80) + (i + 1))) (nI_add _ _) ?_
          refine n_bald C hP 1 rfl ((j * 80) + (i + 1)) rfl (by omega) (by omega) d_El_number_58 ?_
          refine lv_sipush (v := nI 255) hx hb d_El_number_59 (by decide) ?_
          refine lv_iand hx hb d_El_number_62 ?_
          refine lv_ior hx hb d_El_number_63 ?_
          refine tope (z := numI x (x.getD 0 0) (i + 1)) (by rw [numI_s x _ i (by omega), ← hla (i + 1) (by omega)]; rfl) ?_
          refine lv_istore_n (lv' := [(3, .int (numI x (x.getD 0 0) (i + 1))), (4, .int (nI (i + 1))), (2, .int (nI (j * 80))), (1, .int (nI j)), (0, .ref e0)]) hx hb d_El_number_64 rfl hl (by decide) rfl (fun ls hl => ?_)
          refine lv_iinc (k := 1) (v := nI (i + 1 + 1)) (lv' := [(4, .int (nI (i + 1 + 1))), (3, .int (numI x (x.getD 0 0) (i + 1))), (2, .int (nI (j * 80))), (1, .int (nI j)), (0, .ref e0)]) hx hb d_El_number_65 hl rfl (iincK (i + 1) 1) (by decide) rfl (fun ls hl => ?_)
          refine lv_goto hx hb d_El_number_68 rfl ?_
          exact ih35 (i + 1) H locs ls (by omega) (by omega) hP hD hS (lv_sub hl [0, 1, 2, 3, 4] rfl)
    exact hloop35 (x.length + 1) 0 H locs ls (by omega) (by omega) hP hD hS (lv_sub hl [0, 1, 2, 4, 3] rfl)
  · refine lv_iconst (v := nI 0) hx hb d_El_number_17 (by decide) ?_
    exact kret (nI 0) [(e0, .inr (1, [.ref eb, .ref es, .int (nI n)])), (eb, .inl (E.2.1, 1920, .inl f)), (es, .inl (E.2.2.1, 24, .inl sz))] _ _ _ _ d_El_number_18 (⟨by rw [List.length_eq_zero_iff.mp (by omega : x.length = 0)]; rfl, rfl⟩) rfl hP hS

set_option maxHeartbeats 4000000 in
set_option maxRecDepth 100000 in
theorem c_El_number_long (l : Launch) (E : En) (e0 eb es n : Nat) (f sz : Nat → Int32) (j : Nat) (x : List Int32) (hj : j < n) (hn : n ≤ 24) (hz : sz j = nI x.length) (hx80 : x.length ≤ 80) (hla : lay f (j * 80) x) (hx4 : 4 < x.length) : CtI l y_El_number b_El_number 5 .int (rmd 2) E [.ref e0, .int (nI j)] [(e0, .inr (1, [.ref eb, .ref es, .int (nI n)])), (eb, .inl (E.2.1, 1920, .inl f)), (es, .inl (E.2.2.1, 24, .inl sz))] (fun r w => r = nI 0 ∧ w = [(e0, .inr (1, [.ref eb, .ref es, .int (nI n)])), (eb, .inl (E.2.1, 1920, .inl f)), (es, .inl (E.2.2.1, 24, .inl sz))]) := by
  refine CtI.of (by decide) (Nat.le_of_ble_eq_true rfl) (fun _ _ _ => rfl) ?_
  intro p e s m args below meth c A Q H locs ls C hP hD hS hl kret
  have hx := C.1
  have hb := C.2.1
  have hl : lv_has ls 5 [(0, .ref e0), (1, .int (nI j))] := hl
  refine lv_aload_n hx hb d_El_number_0 rfl (lv_at hl 0 rfl) ?_
  refine lv_iload_n hx hb d_El_number_1 rfl (lv_at hl 1 rfl) ?_
  refine cal_I (As := [.int (nI j)]) (rest := []) C lk_El_49 (c_El_isNumber l E e0 eb es n f sz j x.length (by omega) (by omega) (hz) (by omega)) (by decide) hP hD hS 0 1 rfl rfl [0, 1, 2] rfl (by decide) hl.1 rfl (Nat.le_of_ble_eq_true rfl) d_El_number_2 (fun r1 w1 H locs hp2 hP hD hS => ?_)
  obtain ⟨rfl, rfl⟩ := hp2
  have hP : va_P E.1 clz [(e0, .inr (1, [.ref eb, .ref es, .int (nI n)])), (eb, .inl (E.2.1, 1920, .inl f)), (es, .inl (E.2.2.1, 24, .inl sz))] H := hP
  have hD : va_D A [(e0, .inr (1, [.ref eb, .ref es, .int (nI n)])), (eb, .inl (E.2.1, 1920, .inl f)), (es, .inl (E.2.2.1, 24, .inl sz))] := hD
  refine tope (z := b2 false) (congrArg b2 (decide_eq_false (by omega))) ?_
  refine zb_eq C false rfl d_El_number_5 rfl (fun h3 => ?_) (fun h3 => absurd h3 (by simp_all))
  refine lv_iconst (v := nI 0) hx hb d_El_number_17 (by decide) ?_
  exact kret (nI 0) [(e0, .inr (1, [.ref eb, .ref es, .int (nI n)])), (eb, .inl (E.2.1, 1920, .inl f)), (es, .inl (E.2.2.1, 24, .inl sz))] _ _ _ _ d_El_number_18 (⟨rfl, rfl⟩) rfl hP hS

set_option maxHeartbeats 4000000 in
set_option maxRecDepth 100000 in
theorem c_El_number_no (l : Launch) (E : En) (e0 eb es n : Nat) (f sz : Nat → Int32) (k : Int32) (hk : hasB k n = false) : CtI l y_El_number b_El_number 5 .int (rmd 2) E [.ref e0, .int k] [(e0, .inr (1, [.ref eb, .ref es, .int (nI n)])), (eb, .inl (E.2.1, 1920, .inl f)), (es, .inl (E.2.2.1, 24, .inl sz))] (fun r w => r = nI 0 ∧ w = [(e0, .inr (1, [.ref eb, .ref es, .int (nI n)])), (eb, .inl (E.2.1, 1920, .inl f)), (es, .inl (E.2.2.1, 24, .inl sz))]) := by
  refine CtI.of (by decide) (Nat.le_of_ble_eq_true rfl) (fun _ _ _ => rfl) ?_
  intro p e s m args below meth c A Q H locs ls C hP hD hS hl kret
  have hx := C.1
  have hb := C.2.1
  have hl : lv_has ls 5 [(0, .ref e0), (1, .int k)] := hl
  refine lv_aload_n hx hb d_El_number_0 rfl (lv_at hl 0 rfl) ?_
  refine lv_iload_n hx hb d_El_number_1 rfl (lv_at hl 1 rfl) ?_
  refine cal_I (As := [.int k]) (rest := []) C lk_El_49 (c_El_isNumber_no l E e0 eb es n f sz k (hk)) (by decide) hP hD hS 0 1 rfl rfl [0, 1, 2] rfl (by decide) hl.1 rfl (Nat.le_of_ble_eq_true rfl) d_El_number_2 (fun r1 w1 H locs hp2 hP hD hS => ?_)
  obtain ⟨rfl, rfl⟩ := hp2
  have hP : va_P E.1 clz [(e0, .inr (1, [.ref eb, .ref es, .int (nI n)])), (eb, .inl (E.2.1, 1920, .inl f)), (es, .inl (E.2.2.1, 24, .inl sz))] H := hP
  have hD : va_D A [(e0, .inr (1, [.ref eb, .ref es, .int (nI n)])), (eb, .inl (E.2.1, 1920, .inl f)), (es, .inl (E.2.2.1, 24, .inl sz))] := hD
  refine zb_eq C false rfl d_El_number_5 rfl (fun h3 => ?_) (fun h3 => absurd h3 (by simp_all))
  refine lv_iconst (v := nI 0) hx hb d_El_number_17 (by decide) ?_
  exact kret (nI 0) [(e0, .inr (1, [.ref eb, .ref es, .int (nI n)])), (eb, .inl (E.2.1, 1920, .inl f)), (es, .inl (E.2.2.1, 24, .inl sz))] _ _ _ _ d_El_number_18 (⟨rfl, rfl⟩) rfl hP hS

set_option maxHeartbeats 4000000 in
set_option maxRecDepth 100000 in
theorem c_El_holds (l : Launch) (E : En) (e0 eb es n : Nat) (f sz : Nat → Int32) (j : Nat) (x : List Int32) (hj : j < n) (hn : n ≤ 24) (hz : sz j = nI x.length) (hx80 : x.length ≤ 80) (hla : lay f (j * 80) x) (y : List Int32) (o : Nat) (g0 Mg : Nat) (g : Nat → Int32) (hlb : lay g o y) (hy : o + y.length ≤ Mg) (hM : Mg < 2 ^ 31) : CtI l y_El_holds b_El_holds 7 .boolean (rmd 1) E [.ref e0, .int (nI j), .ref g0, .int (nI o), .int (nI y.length)] [(e0, .inr (1, [.ref eb, .ref es, .int (nI n)])), (eb, .inl (E.2.1, 1920, .inl f)), (es, .inl (E.2.2.1, 24, .inl sz)), (g0, .inl (E.2.1, Mg, .inl g))] (fun r w => r = b2 (decide (x = y)) ∧ w = [(e0, .inr (1, [.ref eb, .ref es, .int (nI n)])), (eb, .inl (E.2.1, 1920, .inl f)), (es, .inl (E.2.2.1, 24, .inl sz)), (g0, .inl (E.2.1, Mg, .inl g))]) := by
  refine CtI.of (by decide) (Nat.le_of_ble_eq_true rfl) (fun r w h => by obtain ⟨rfl, _⟩ := h; exact b2_nar _) ?_
  intro p e s m args below meth c A Q H locs ls C hP hD hS hl kret
  have hx := C.1
  have hb := C.2.1
  have hl : lv_has ls 7 [(0, .ref e0), (1, .int (nI j)), (2, .ref g0), (3, .int (nI o)), (4, .int (nI y.length))] := hl
  refine lv_aload_n hx hb d_El_holds_0 rfl (lv_at hl 0 rfl) ?_
  refine lv_iload_n hx hb d_El_holds_1 rfl (lv_at hl 1 rfl) ?_
  refine cal_I (As := [.int (nI j)]) (rest := []) C lk_El_31 (c_El_has l E e0 eb es n (nI j)) (by decide) hP hD hS 0 1 rfl rfl [0] rfl (by decide) hl.1 rfl (Nat.le_of_ble_eq_true rfl) d_El_holds_2 (fun r1 w1 H locs hp2 hP hD hS => ?_)
  obtain ⟨rfl, rfl⟩ := hp2
  have hP : va_P E.1 clz [(e0, .inr (1, [.ref eb, .ref es, .int (nI n)])), (eb, .inl (E.2.1, 1920, .inl f)), (es, .inl (E.2.2.1, 24, .inl sz)), (g0, .inl (E.2.1, Mg, .inl g))] H := hP
  have hD : va_D A [(e0, .inr (1, [.ref eb, .ref es, .int (nI n)])), (eb, .inl (E.2.1, 1920, .inl f)), (es, .inl (E.2.2.1, 24, .inl sz)), (g0, .inl (E.2.1, Mg, .inl g))] := hD
  refine tope (z := b2 true) (congrArg b2 ((hasB_nI (by omega) (by omega)).trans (decide_eq_true (by omega)))) ?_
  refine zb_eq C true rfl d_El_holds_5 rfl (fun h3 => absurd h3 (by simp_all)) (fun h3 => ?_)
  refine lv_aload_n hx hb d_El_holds_8 rfl (lv_at hl 0 rfl) ?_
  refine n_get C fg_El_13 hP 0 rfl rfl d_El_holds_9 ?_
  refine lv_iload_n hx hb d_El_holds_12 rfl (lv_at hl 1 rfl) ?_
  refine n_iald C hP 2 rfl j rfl (by omega) (by omega) d_El_holds_13 ?_
  refine tope (z := nI x.length) (hz) ?_
  refine lv_iload hx hb d_El_holds_14 (lv_at hl 4 rfl) ?_
  refine j_eq C x.length y.length rfl rfl (by omega) (by omega) d_El_holds_16 rfl (fun h4 => ?_) (fun h4 => ?_)
  · refine lv_aload_n hx hb d_El_holds_21 rfl (lv_at hl 0 rfl) ?_
    refine lv_iload_n hx hb d_El_holds_22 rfl (lv_at hl 1 rfl) ?_
    refine cal_I (As := [.int (nI j)]) (rest := []) C lk_El_21 (c_El_place l E e0 j) (by decide) hP hD hS 0 1 rfl rfl [] rfl (by decide) hl.1 rfl (Nat.le_of_ble_eq_true rfl) d_El_holds_23 (fun r5 w1 H locs hp6 hP hD hS => ?_)
    obtain ⟨rfl, rfl⟩ := hp6
    have hP : va_P E.1 clz [(e0, .inr (1, [.ref eb, .ref es, .int (nI n)])), (eb, .inl (E.2.1, 1920, .inl f)), (es, .inl (E.2.2.1, 24, .inl sz)), (g0, .inl (E.2.1, Mg, .inl g))] H := hP
    have hD : va_D A [(e0, .inr (1, [.ref eb, .ref es, .int (nI n)])), (eb, .inl (E.2.1, 1920, .inl f)), (es, .inl (E.2.2.1, 24, .inl sz)), (g0, .inl (E.2.1, Mg, .inl g))] := hD
    refine lv_istore (lv' := [(5, .int (nI (j * 80))), (0, .ref e0), (1, .int (nI j)), (2, .ref g0), (3, .int (nI o)), (4, .int (nI y.length))]) hx hb d_El_holds_26 hl (by decide) rfl (fun ls hl => ?_)
    refine lv_iconst (v := nI 0) hx hb d_El_holds_28 (by decide) ?_
    refine lv_istore (lv' := [(6, .int (nI 0)), (5, .int (nI (j * 80))), (0, .ref e0), (1, .int (nI j)), (2, .ref g0), (3, .int (nI o)), (4, .int (nI y.length))]) hx hb d_El_holds_29 hl (by decide) rfl (fun ls hl => ?_)
    have hloop31 : ∀ (dd : Nat) (i : Nat) (H : Heap) (locs : List Loc) (ls : Array Slot), y.length - i < dd → (i ≤ y.length) → (∀ q, q < i → x.getD q 0 = y.getD q 0) → va_P E.1 clz [(e0, .inr (1, [.ref eb, .ref es, .int (nI n)])), (eb, .inl (E.2.1, 1920, .inl f)), (es, .inl (E.2.2.1, 24, .inl sz)), (g0, .inl (E.2.1, Mg, .inl g))] H → va_D A [(e0, .inr (1, [.ref eb, .ref es, .int (nI n)])), (eb, .inl (E.2.1, 1920, .inl f)), (es, .inl (E.2.2.1, 24, .inl sz)), (g0, .inl (E.2.1, Mg, .inl g))] → va_S A s.heap H locs → lv_has ls 7 [(6, .int (nI i)), (5, .int (nI (j * 80))), (4, .int (nI y.length)), (3, .int (nI o)), (2, .ref g0), (1, .int (nI j)), (0, .ref e0)] → W p l e (rmd 1) s m args below meth c H locs 0 0 Q (F0 m 31 ls []) := by
      intro dd
      induction dd with
      | zero => intro i H locs ls hm; exact absurd hm (Nat.not_lt_zero _)
      | succ dd ih31 =>
        intro i H locs ls hm hi hi2 hP hD hS hl
        refine lv_iload hx hb d_El_holds_31 (lv_at hl 0 rfl) ?_
        refine lv_iload hx hb d_El_holds_33 (lv_at hl 2 rfl) ?_
        refine j_ge C i y.length rfl rfl (by omega) (by omega) d_El_holds_35 rfl (fun h7 => ?_) (fun h7 => ?_)
        · refine lv_iconst (v := nI 1) hx hb d_El_holds_65 (by decide) ?_
          exact kret (nI 1) [(e0, .inr (1, [.ref eb, .ref es, .int (nI n)])), (eb, .inl (E.2.1, 1920, .inl f)), (es, .inl (E.2.2.1, 24, .inl sz)), (g0, .inl (E.2.1, Mg, .inl g))] _ _ _ _ d_El_holds_66 (⟨b2_t (decide_eq_true (list_eq_of (by omega) (fun q hq => hi2 q (by omega)))), rfl⟩) rfl hP hS
        · refine lv_aload_n hx hb d_El_holds_38 rfl (lv_at hl 6 rfl) ?_
          refine n_get C fg_El_9 hP 0 rfl rfl d_El_holds_39 ?_
          refine lv_iload hx hb d_El_holds_42 (lv_at hl 1 rfl) ?_
          refine lv_iload hx hb d_El_holds_44 (lv_at hl 0 rfl) ?_
          refine lv_iadd hx hb d_El_holds_46 ?_
          refine tope (z := nI ((j * 80) + i)) (nI_add _ _) ?_
          refine n_bald C hP 1 rfl ((j * 80) + i) rfl (by omega) (by omega) d_El_holds_47 ?_
          refine lv_aload_n hx hb d_El_holds_48 rfl (lv_at hl 4 rfl) ?_
          refine lv_iload_n hx hb d_El_holds_49 rfl (lv_at hl 3 rfl) ?_
          refine lv_iload hx hb d_El_holds_50 (lv_at hl 0 rfl) ?_
          refine lv_iadd hx hb d_El_holds_52 ?_
          refine tope (z := nI (o + i)) (nI_add _ _) ?_
          refine n_bald C hP 3 rfl (o + i) rfl (by omega) (by omega) d_El_holds_53 ?_
          refine lv_icmp_eq hx hb d_El_holds_54 rfl (fun h8 => ?_) (fun h8 => ?_)
          · refine lv_iinc (k := 0) (v := nI (i + 1)) (lv' := [(6, .int (nI (i + 1))), (5, .int (nI (j * 80))), (4, .int (nI y.length)), (3, .int (nI o)), (2, .ref g0), (1, .int (nI j)), (0, .ref e0)]) hx hb d_El_holds_59 hl rfl (iincK i 1) (by decide) rfl (fun ls hl => ?_)
            refine lv_goto hx hb d_El_holds_62 rfl ?_
            exact ih31 (i + 1) H locs ls (by omega) (by omega) (fun q hq => by rcases Nat.lt_or_ge q i with h9 | h9; exact hi2 q h9; obtain rfl : q = i := (by omega); rw [← hla q (by omega), ← hlb q (by omega)]; assumption) hP hD hS (lv_sub hl [0, 1, 2, 3, 4, 5, 6] rfl)
          · refine lv_iconst (v := nI 0) hx hb d_El_holds_57 (by decide) ?_
            exact kret (nI 0) [(e0, .inr (1, [.ref eb, .ref es, .int (nI n)])), (eb, .inl (E.2.1, 1920, .inl f)), (es, .inl (E.2.2.1, 24, .inl sz)), (g0, .inl (E.2.1, Mg, .inl g))] _ _ _ _ d_El_holds_58 (⟨b2_f (decide_eq_false (fun h9 => by have h8 := hla i (by omega); have h7 := hlb i (by omega); rw [h9] at h8; exact absurd (h8.trans h7.symm) (by assumption))), rfl⟩) rfl hP hS
    exact hloop31 (y.length + 1) 0 H locs ls (by omega) (by omega) (fun q hq => absurd hq (Nat.not_lt_zero q)) hP hD hS (lv_sub hl [0, 1, 6, 5, 4, 3, 2] rfl)
  · refine lv_iconst (v := nI 0) hx hb d_El_holds_19 (by decide) ?_
    exact kret (nI 0) [(e0, .inr (1, [.ref eb, .ref es, .int (nI n)])), (eb, .inl (E.2.1, 1920, .inl f)), (es, .inl (E.2.2.1, 24, .inl sz)), (g0, .inl (E.2.1, Mg, .inl g))] _ _ _ _ d_El_holds_20 (⟨b2_f (decide_eq_false (fun h9 => by have h8 := congrArg List.length h9; omega)), rfl⟩) rfl hP hS

set_option maxHeartbeats 4000000 in
set_option maxRecDepth 100000 in
theorem c_El_holdsA (l : Launch) (E : En) (e0 eb es n : Nat) (f sz : Nat → Int32) (j : Nat) (x : List Int32) (hj : j < n) (hn : n ≤ 24) (hz : sz j = nI x.length) (hx80 : x.length ≤ 80) (hla : lay f (j * 80) x) (y : List Int32) (o : Nat) (hlb : lay f o y) (hy : o + y.length ≤ 1920) : CtI l y_El_holds b_El_holds 7 .boolean (rmd 1) E [.ref e0, .int (nI j), .ref eb, .int (nI o), .int (nI y.length)] [(e0, .inr (1, [.ref eb, .ref es, .int (nI n)])), (eb, .inl (E.2.1, 1920, .inl f)), (es, .inl (E.2.2.1, 24, .inl sz))] (fun r w => r = b2 (decide (x = y)) ∧ w = [(e0, .inr (1, [.ref eb, .ref es, .int (nI n)])), (eb, .inl (E.2.1, 1920, .inl f)), (es, .inl (E.2.2.1, 24, .inl sz))]) := by
  refine CtI.of (by decide) (Nat.le_of_ble_eq_true rfl) (fun r w h => by obtain ⟨rfl, _⟩ := h; exact b2_nar _) ?_
  intro p e s m args below meth c A Q H locs ls C hP hD hS hl kret
  have hx := C.1
  have hb := C.2.1
  have hl : lv_has ls 7 [(0, .ref e0), (1, .int (nI j)), (2, .ref eb), (3, .int (nI o)), (4, .int (nI y.length))] := hl
  refine lv_aload_n hx hb d_El_holds_0 rfl (lv_at hl 0 rfl) ?_
  refine lv_iload_n hx hb d_El_holds_1 rfl (lv_at hl 1 rfl) ?_
  refine cal_I (As := [.int (nI j)]) (rest := []) C lk_El_31 (c_El_has l E e0 eb es n (nI j)) (by decide) hP hD hS 0 1 rfl rfl [0] rfl (by decide) hl.1 rfl (Nat.le_of_ble_eq_true rfl) d_El_holds_2 (fun r1 w1 H locs hp2 hP hD hS => ?_)
  obtain ⟨rfl, rfl⟩ := hp2
  have hP : va_P E.1 clz [(e0, .inr (1, [.ref eb, .ref es, .int (nI n)])), (eb, .inl (E.2.1, 1920, .inl f)), (es, .inl (E.2.2.1, 24, .inl sz))] H := hP
  have hD : va_D A [(e0, .inr (1, [.ref eb, .ref es, .int (nI n)])), (eb, .inl (E.2.1, 1920, .inl f)), (es, .inl (E.2.2.1, 24, .inl sz))] := hD
  refine tope (z := b2 true) (congrArg b2 ((hasB_nI (by omega) (by omega)).trans (decide_eq_true (by omega)))) ?_
  refine zb_eq C true rfl d_El_holds_5 rfl (fun h3 => absurd h3 (by simp_all)) (fun h3 => ?_)
  refine lv_aload_n hx hb d_El_holds_8 rfl (lv_at hl 0 rfl) ?_
  refine n_get C fg_El_13 hP 0 rfl rfl d_El_holds_9 ?_
  refine lv_iload_n hx hb d_El_holds_12 rfl (lv_at hl 1 rfl) ?_
  refine n_iald C hP 2 rfl j rfl (by omega) (by omega) d_El_holds_13 ?_
  refine tope (z := nI x.length) (hz) ?_
  refine lv_iload hx hb d_El_holds_14 (lv_at hl 4 rfl) ?_
  refine j_eq C x.length y.length rfl rfl (by omega) (by omega) d_El_holds_16 rfl (fun h4 => ?_) (fun h4 => ?_)
  · refine lv_aload_n hx hb d_El_holds_21 rfl (lv_at hl 0 rfl) ?_
    refine lv_iload_n hx hb d_El_holds_22 rfl (lv_at hl 1 rfl) ?_
    refine cal_I (As := [.int (nI j)]) (rest := []) C lk_El_21 (c_El_place l E e0 j) (by decide) hP hD hS 0 1 rfl rfl [] rfl (by decide) hl.1 rfl (Nat.le_of_ble_eq_true rfl) d_El_holds_23 (fun r5 w1 H locs hp6 hP hD hS => ?_)
    obtain ⟨rfl, rfl⟩ := hp6
    have hP : va_P E.1 clz [(e0, .inr (1, [.ref eb, .ref es, .int (nI n)])), (eb, .inl (E.2.1, 1920, .inl f)), (es, .inl (E.2.2.1, 24, .inl sz))] H := hP
    have hD : va_D A [(e0, .inr (1, [.ref eb, .ref es, .int (nI n)])), (eb, .inl (E.2.1, 1920, .inl f)), (es, .inl (E.2.2.1, 24, .inl sz))] := hD
    refine lv_istore (lv' := [(5, .int (nI (j * 80))), (0, .ref e0), (1, .int (nI j)), (2, .ref eb), (3, .int (nI o)), (4, .int (nI y.length))]) hx hb d_El_holds_26 hl (by decide) rfl (fun ls hl => ?_)
    refine lv_iconst (v := nI 0) hx hb d_El_holds_28 (by decide) ?_
    refine lv_istore (lv' := [(6, .int (nI 0)), (5, .int (nI (j * 80))), (0, .ref e0), (1, .int (nI j)), (2, .ref eb), (3, .int (nI o)), (4, .int (nI y.length))]) hx hb d_El_holds_29 hl (by decide) rfl (fun ls hl => ?_)
    have hloop31 : ∀ (dd : Nat) (i : Nat) (H : Heap) (locs : List Loc) (ls : Array Slot), y.length - i < dd → (i ≤ y.length) → (∀ q, q < i → x.getD q 0 = y.getD q 0) → va_P E.1 clz [(e0, .inr (1, [.ref eb, .ref es, .int (nI n)])), (eb, .inl (E.2.1, 1920, .inl f)), (es, .inl (E.2.2.1, 24, .inl sz))] H → va_D A [(e0, .inr (1, [.ref eb, .ref es, .int (nI n)])), (eb, .inl (E.2.1, 1920, .inl f)), (es, .inl (E.2.2.1, 24, .inl sz))] → va_S A s.heap H locs → lv_has ls 7 [(6, .int (nI i)), (5, .int (nI (j * 80))), (4, .int (nI y.length)), (3, .int (nI o)), (2, .ref eb), (1, .int (nI j)), (0, .ref e0)] → W p l e (rmd 1) s m args below meth c H locs 0 0 Q (F0 m 31 ls []) := by
      intro dd
      induction dd with
      | zero => intro i H locs ls hm; exact absurd hm (Nat.not_lt_zero _)
      | succ dd ih31 =>
        intro i H locs ls hm hi hi2 hP hD hS hl
        refine lv_iload hx hb d_El_holds_31 (lv_at hl 0 rfl) ?_
        refine lv_iload hx hb d_El_holds_33 (lv_at hl 2 rfl) ?_
        refine j_ge C i y.length rfl rfl (by omega) (by omega) d_El_holds_35 rfl (fun h7 => ?_) (fun h7 => ?_)
        · refine lv_iconst (v := nI 1) hx hb d_El_holds_65 (by decide) ?_
          exact kret (nI 1) [(e0, .inr (1, [.ref eb, .ref es, .int (nI n)])), (eb, .inl (E.2.1, 1920, .inl f)), (es, .inl (E.2.2.1, 24, .inl sz))] _ _ _ _ d_El_holds_66 (⟨b2_t (decide_eq_true (list_eq_of (by omega) (fun q hq => hi2 q (by omega)))), rfl⟩) rfl hP hS
        · refine lv_aload_n hx hb d_El_holds_38 rfl (lv_at hl 6 rfl) ?_
          refine n_get C fg_El_9 hP 0 rfl rfl d_El_holds_39 ?_
          refine lv_iload hx hb d_El_holds_42 (lv_at hl 1 rfl) ?_
          refine lv_iload hx hb d_El_holds_44 (lv_at hl 0 rfl) ?_
          refine lv_iadd hx hb d_El_holds_46 ?_
          refine tope (z := nI ((j * 80) + i)) (nI_add _ _) ?_
          refine n_bald C hP 1 rfl ((j * 80) + i) rfl (by omega) (by omega) d_El_holds_47 ?_
          refine lv_aload_n hx hb d_El_holds_48 rfl (lv_at hl 4 rfl) ?_
          refine lv_iload_n hx hb d_El_holds_49 rfl (lv_at hl 3 rfl) ?_
          refine lv_iload hx hb d_El_holds_50 (lv_at hl 0 rfl) ?_
          refine lv_iadd hx hb d_El_holds_52 ?_
          refine tope (z := nI (o + i)) (nI_add _ _) ?_
          refine n_bald C hP 1 rfl (o + i) rfl (by omega) (by omega) d_El_holds_53 ?_
          refine lv_icmp_eq hx hb d_El_holds_54 rfl (fun h8 => ?_) (fun h8 => ?_)
          · refine lv_iinc (k := 0) (v := nI (i + 1)) (lv' := [(6, .int (nI (i + 1))), (5, .int (nI (j * 80))), (4, .int (nI y.length)), (3, .int (nI o)), (2, .ref eb), (1, .int (nI j)), (0, .ref e0)]) hx hb d_El_holds_59 hl rfl (iincK i 1) (by decide) rfl (fun ls hl => ?_)
            refine lv_goto hx hb d_El_holds_62 rfl ?_
            exact ih31 (i + 1) H locs ls (by omega) (by omega) (fun q hq => by rcases Nat.lt_or_ge q i with h9 | h9; exact hi2 q h9; obtain rfl : q = i := (by omega); rw [← hla q (by omega), ← hlb q (by omega)]; assumption) hP hD hS (lv_sub hl [0, 1, 2, 3, 4, 5, 6] rfl)
          · refine lv_iconst (v := nI 0) hx hb d_El_holds_57 (by decide) ?_
            exact kret (nI 0) [(e0, .inr (1, [.ref eb, .ref es, .int (nI n)])), (eb, .inl (E.2.1, 1920, .inl f)), (es, .inl (E.2.2.1, 24, .inl sz))] _ _ _ _ d_El_holds_58 (⟨b2_f (decide_eq_false (fun h9 => by have h8 := hla i (by omega); have h7 := hlb i (by omega); rw [h9] at h8; exact absurd (h8.trans h7.symm) (by assumption))), rfl⟩) rfl hP hS
    exact hloop31 (y.length + 1) 0 H locs ls (by omega) (by omega) (fun q hq => absurd hq (Nat.not_lt_zero q)) hP hD hS (lv_sub hl [0, 1, 6, 5, 4, 3, 2] rfl)
  · refine lv_iconst (v := nI 0) hx hb d_El_holds_19 (by decide) ?_
    exact kret (nI 0) [(e0, .inr (1, [.ref eb, .ref es, .int (nI n)])), (eb, .inl (E.2.1, 1920, .inl f)), (es, .inl (E.2.2.1, 24, .inl sz))] _ _ _ _ d_El_holds_20 (⟨b2_f (decide_eq_false (fun h9 => by have h8 := congrArg List.length h9; omega)), rfl⟩) rfl hP hS
end
section
section XT
variable {p : Program} {l : Launch} {e : Env} {R : Room} {s : State} {m : MethodId} {args : Array Value} {below : List Frame} {meth : Method} {c : Code} {H : Heap} {locs : List Loc} {cells slots : Nat} {Q : State → Prop}
variable {cc : ByteArray} {pc nL index a : Nat} {ls : Array Slot} {rest : List Value} {E : En} {A : Nat → Prop} {own : String} {ws : va_W}
/-- System.arraycopy out of a table of constants, all of the first k places -/
theorem n_cpyT (C : Cx p c cc nL s m args own E A) (hlk : Cond.methodLink own index arraycopyName ∈ ALLW ∧ Cond.native arraycopyName ∈ ALLW ∧ Cond.static arraycopyName ∈ ALLW ∧ Cond.initialized "java/lang/System" ∈ ALLW) (hP : va_P E.1 clz ws H) (hD : va_D A ws) (hS : va_S A s.heap H locs) {b0 n0 : Nat} {f : Nat → Int32} (hX : va_T .int b0 n0 (fun j => .int (f j)) A s s.heap) (q1 : Nat) {n1 : Nat} {g : Nat → Int32} (ha1 : ws[q1]? = some (a, .inl (E.2.2.1, n1, .inl g)))
    {sp dp n : Int32} (k : Nat) (e1 : sp = nI 0) (e2 : dp = nI 0) (e3 : n = nI k) (h4 : k ≤ n0) (h5 : k ≤ n1) (hk : k < 2 ^ 31) (hls : ls.size = nL)
    (hframes : 1 ≤ R.frames) (hlocals : (rest.map fun v => v.category).sum + (nativeFrameWords "java/lang/System" "arraycopy" 5 + 11) ≤ R.locals) (hdg : decode cc pc = .ok (.invokestatic index, 3))
    (kk : ∀ (H1 : Heap) (locs1 : List Loc), va_P E.1 clz (ws.set q1 (a, .inl (E.2.2.1, n1, .inl (va_cpy f g 0 0 k)))) H1 → va_D A (ws.set q1 (a, .inl (E.2.2.1, n1, .inl (va_cpy f g 0 0 k)))) → va_S A s.heap H1 locs1 → W p l e R s m args below meth c H1 locs1 cells slots Q (F0 m (pc + 3) ls rest)) : W p l e R s m args below meth c H locs cells slots Q (F0 m pc ls (.int n :: .int dp :: .ref a :: .int sp :: .ref b0 :: rest)) := by
  subst e1 e2 e3
  obtain ⟨hexec, hb, hml, hown, hts, hK, -, -⟩ := C
  have c0 : (nI 0).toNatClampNeg = 0 := nI_clamp (by omega)
  have ck : (nI k).toNatClampNeg = k := nI_clamp hk
  have t0 : (nI 0).toInt = 0 := nI_toInt (by omega)
  have tk : (nI k).toInt = (k : Int) := nI_toInt hk
  intro T hT X
  obtain ⟨scr, hs1, hs2, hs3, hs4, -, hs5, hs7⟩ := hX
  have hc0 : H[b0]? = some scr := by rw [hS.2.1 b0 (Array.getElem?_eq_some_iff.mp hs1).1 hs7]; exact hs1
  have hc1 : H[a]? = some (vp_cell E.2.2.1 (n1, .inl g)) := hP q1 _ ha1
  obtain ⟨hs6, k0, hk0, cm0, hkk0⟩ := hs2
  obtain ⟨-, k1, hk1, cm1, hkk1⟩ := (hK.2 1 (E.2.2.1, .int) rfl).1 n1 (fun j => .int (g j))
  obtain ⟨vm', X', step⟩ := X.arraycopy hexec hown (hts _ hlk.1) (hts _ hlk.2.1) (hts _ hlk.2.2.1) (hts _ hlk.2.2.2) (src := b0) (dst := a) (cs := scr) (cd := vp_cell E.2.2.1 (n1, .inl g)) (srcPos := nI 0) (destPos := nI 0) (n := nI k) (by rw [hT]; exact hc0) (by rw [hT]; exact hc1)
    hs6 (fun _ h => by cases h) hs3 (fun h => by cases h) hk0 hk1 hkk0 hkk1 (by simp [refKind]) (nI_pos (by omega)) (nI_pos (by omega)) (nI_pos hk)
    (by rw [t0, tk]; omega)
    (by rw [t0, tk]; show ¬ _ > ((arrV E.2.2.1 n1 (fun j => .int (g j))).slots.size : Int); rw [arrV_size]; omega)
    (fun vm₁ _ i hi => by
      rw [ck] at hi
      have e : scr.slots.getD ((nI 0).toNatClampNeg + i) .null = .int (f i) := by
        rw [c0, Nat.zero_add, Array.getD_eq_getD_getElem?, hs5 _ (by omega)]
        rfl
      refine ⟨?_, ?_⟩
      · rw [e]
        rfl
      · rw [e]
        exact trivial)
    (g := F0 m pc ls (.int (nI k) :: .int (nI 0) :: .ref a :: .int (nI 0) :: .ref b0 :: rest)) rfl (by rw [hml, hls]) (rest := rest) rfl (by rw [hb]; exact hdg) hframes (by show 2 * 0 + _ + _ ≤ _; omega)
  have e1 : copied scr (vp_cell E.2.2.1 (n1, .inl g)) (nI 0) (nI 0) (nI k) = vp_cell E.2.2.1 (n1, .inl (va_cpy f g 0 0 k)) := by
    have := va_copiedX (n1 := n1) (fun z => Value.int z) scr E.2.2.1 f g (sp := (nI 0).toNatClampNeg) (dp := (nI 0).toNatClampNeg) (n := (nI k).toNatClampNeg) (n0 := n0) hs5 (by rw [c0, ck]; omega)
    rw [c0, ck] at this
    rw [vp_cell_i, vp_cell_i, ← this]
    show _ = _
    unfold copied
    rw [c0, ck]
  rw [e1] at X' step
  have hl : a < H.size := (Array.getElem?_eq_some_iff.mp hc1).1
  have hheap : ((T.setVm vm').setCell a (vp_cell E.2.2.1 (n1, .inl (va_cpy f g 0 0 k)))).heap = H.setIfInBounds a (vp_cell E.2.2.1 (n1, .inl (va_cpy f g 0 0 k))) := by rw [← hT]; rfl
  have oq : ∀ q : Nat, q ≠ a → (H.setIfInBounds a (vp_cell E.2.2.1 (n1, .inl (va_cpy f g 0 0 k))))[q]? = H[q]? := fun q hq => by simp [Array.getElem?_setIfInBounds, Ne.symm hq]
  obtain ⟨t, a1, b1⟩ := kk _ _ (hP.set hD ha1 (show (H.setIfInBounds a _)[a]? = some _ by simp [Array.getElem?_setIfInBounds, hl]) oq) (hD.set ha1) ⟨by simp; exact hS.1, fun q g1 g2 => by
      rw [oq q (fun e => g2 (by rw [e]; exact hD.2 q1 _ ha1))]
      exact hS.2.1 q g1 g2, fun q hq => by
      rcases List.mem_append.mp hq with h | h
      · exact hS.2.2 q h
      · obtain ⟨z, -, hz⟩ := List.mem_map.mp h
        rw [← hz]
        exact hD.2 q1 _ ha1⟩ _ hheap X'
  exact ⟨t, step t a1, b1⟩
end XT

theorem exW_z (w : Nat → Int32) : exW w 0 = w := rfl
theorem ldW_z (b : Nat → Int32) (n j : Nat) (w : Nat → Int32) : ldW b n j w 0 = w := rfl

set_option maxHeartbeats 4000000 in
set_option maxRecDepth 100000 in
theorem c_Sha_extend (l : Launch) (E : En) (h0 a1 a2 : Nat) (wv : Nat → Int32) : CtV l y_Sha_extendWords b_Sha_extendWords 6 (rmd 0) E [.ref h0] [(h0, .inr (4, [.ref a1, .ref a2])), (a2, .inl (E.2.2.1, 64, .inl wv))] (fun w => w = [(h0, .inr (4, [.ref a1, .ref a2])), (a2, .inl (E.2.2.1, 64, .inl (exW wv 48)))]) := by
  refine CtV.of (by decide) (Nat.le_of_ble_eq_true rfl) ?_
  intro p e s m args below meth c A Q H locs ls C hP hD hS hl kret
  have hx := C.1
  have hb := C.2.1
  have hl : lv_has ls 6 [(0, .ref h0)] := hl
  refine lv_bipush (v := nI 16) hx hb d_Sha_extendWords_0 (by decide) ?_
  refine lv_istore_n (lv' := [(1, .int (nI 16)), (0, .ref h0)]) hx hb d_Sha_extendWords_2 rfl hl (by decide) rfl (fun ls hl => ?_)
  have hloop3 : ∀ (dd : Nat) (i : Nat) (H : Heap) (locs : List Loc) (ls : Array Slot), 48 - i < dd → (i ≤ 48) → va_P E.1 clz [(h0, .inr (4, [.ref a1, .ref a2])), (a2, .inl (E.2.2.1, 64, .inl (exW wv i)))] H → va_D A [(h0, .inr (4, [.ref a1, .ref a2])), (a2, .inl (E.2.2.1, 64, .inl (exW wv i)))] → va_S A s.heap H locs → lv_has ls 6 [(1, .int (nI (16 + i))), (0, .ref h0)] → W p l e (rmd 0) s m args below meth c H locs 0 0 Q (F0 m 3 ls []) := by
    intro dd
    induction dd with
    | zero => intro i H locs ls hm; exact absurd hm (Nat.not_lt_zero _)
    | succ dd ih3 =>
      intro i H locs ls hm hi hP hD hS hl
      refine lv_iload_n hx hb d_Sha_extendWords_3 rfl (lv_at hl 0 rfl) ?_
      refine lv_bipush (v := nI 64) hx hb d_Sha_extendWords_4 (by decide) ?_
      refine j_ge C (16 + i) 64 rfl rfl (by omega) (by omega) d_Sha_extendWords_6 rfl (fun h1 => ?_) (fun h1 => ?_)
      · obtain rfl : i = 48 := by omega
        exact kret [(h0, .inr (4, [.ref a1, .ref a2])), (a2, .inl (E.2.2.1, 64, .inl (exW wv 48)))] _ _ _ _ d_Sha_extendWords_116 (rfl) rfl hP hS
      · refine lv_aload_n hx hb d_Sha_extendWords_9 rfl (lv_at hl 1 rfl) ?_
        refine n_get C fg_Sha_15 hP 0 rfl rfl d_Sha_extendWords_10 ?_
        refine lv_iload_n hx hb d_Sha_extendWords_13 rfl (lv_at hl 0 rfl) ?_
        refine lv_bipush (v := nI 15) hx hb d_Sha_extendWords_14 (by decide) ?_
        refine lv_isub hx hb d_Sha_extendWords_16 ?_
        refine tope (z := nI ((16 + i) - 15)) (pk_sub (by omega)) ?_
        refine tope (z := nI (i + 1)) (congrArg nI (by omega)) ?_
        refine n_iald C hP 1 rfl (i + 1) rfl (by omega) (by omega) d_Sha_extendWords_17 ?_
        refine lv_istore_n (lv' := [(2, .int ((exW wv i) (i + 1))), (1, .int (nI (16 + i))), (0, .ref h0)]) hx hb d_Sha_extendWords_18 rfl hl (by decide) rfl (fun ls hl => ?_)
        refine lv_aload_n hx hb d_Sha_extendWords_19 rfl (lv_at hl 2 rfl) ?_
        refine n_get C fg_Sha_15 hP 0 rfl rfl d_Sha_extendWords_20 ?_
        refine lv_iload_n hx hb d_Sha_extendWords_23 rfl (lv_at hl 1 rfl) ?_
        refine lv_iconst (v := nI 2) hx hb d_Sha_extendWords_24 (by decide) ?_
        refine lv_isub hx hb d_Sha_extendWords_25 ?_
        refine tope (z := nI ((16 + i) - 2)) (pk_sub (by omega)) ?_
        refine tope (z := nI (i + 14)) (congrArg nI (by omega)) ?_
        refine n_iald C hP 1 rfl (i + 14) rfl (by omega) (by omega) d_Sha_extendWords_26 ?_
        refine lv_istore_n (lv' := [(3, .int ((exW wv i) (i + 14))), (2, .int ((exW wv i) (i + 1))), (1, .int (nI (16 + i))), (0, .ref h0)]) hx hb d_Sha_extendWords_27 rfl hl (by decide) rfl (fun ls hl => ?_)
        refine lv_iload_n hx hb d_Sha_extendWords_28 rfl (lv_at hl 1 rfl) ?_
        refine lv_bipush (v := nI 7) hx hb d_Sha_extendWords_29 (by decide) ?_
        refine lv_iushr (v := us ((exW wv i) (i + 1)) (nI 7)) hx hb d_Sha_extendWords_31 rfl ?_
        refine lv_iload_n hx hb d_Sha_extendWords_32 rfl (lv_at hl 1 rfl) ?_
        refine lv_bipush (v := nI 25) hx hb d_Sha_extendWords_33 (by decide) ?_
        refine lv_ishl hx hb d_Sha_extendWords_35 ?_
        refine lv_ior hx hb d_Sha_extendWords_36 ?_
        refine lv_iload_n hx hb d_Sha_extendWords_37 rfl (lv_at hl 1 rfl) ?_
        refine lv_bipush (v := nI 18) hx hb d_Sha_extendWords_38 (by decide) ?_
        refine lv_iushr (v := us ((exW wv i) (i + 1)) (nI 18)) hx hb d_Sha_extendWords_40 rfl ?_
        refine lv_iload_n hx hb d_Sha_extendWords_41 rfl (lv_at hl 1 rfl) ?_
        refine lv_bipush (v := nI 14) hx hb d_Sha_extendWords_42 (by decide) ?_
        refine lv_ishl hx hb d_Sha_extendWords_44 ?_
        refine lv_ior hx hb d_Sha_extendWords_45 ?_
        refine lv_ixor hx hb d_Sha_extendWords_46 ?_
        refine lv_iload_n hx hb d_Sha_extendWords_47 rfl (lv_at hl 1 rfl) ?_
        refine lv_iconst (v := nI 3) hx hb d_Sha_extendWords_48 (by decide) ?_
        refine lv_iushr (v := us ((exW wv i) (i + 1)) (nI 3)) hx hb d_Sha_extendWords_49 rfl ?_
        refine lv_ixor hx hb d_Sha_extendWords_50 ?_
        refine tope (z := sg0 (exW wv i (i + 1))) (rfl) ?_
        refine lv_istore (lv' := [(4, .int (sg0 (exW wv i (i + 1)))), (3, .int ((exW wv i) (i + 14))), (2, .int ((exW wv i) (i + 1))), (1, .int (nI (16 + i))), (0, .ref h0)]) hx hb d_Sha_extendWords_51 hl (by decide) rfl (fun ls hl => ?_)
        refine lv_iload_n hx hb d_Sha_extendWords_53 rfl (lv_at hl 1 rfl) ?_
        refine lv_bipush (v := nI 17) hx hb d_Sha_extendWords_54 (by decide) ?_
        refine lv_iushr (v := us ((exW wv i) (i + 14)) (nI 17)) hx hb d_Sha_extendWords_56 rfl ?_
        refine lv_iload_n hx hb d_Sha_extendWords_57 rfl (lv_at hl 1 rfl) ?_
        refine lv_bipush (v := nI 15) hx hb d_Sha_extendWords_58 (by decide) ?_
        refine lv_ishl hx hb d_Sha_extendWords_60 ?_
        refine lv_ior hx hb d_Sha_extendWords_61 ?_
        refine lv_iload_n hx hb d_Sha_extendWords_62 rfl (lv_at hl 1 rfl) ?_
        refine lv_bipush (v := nI 19) hx hb d_Sha_extendWords_63 (by decide) ?_
        refine lv_iushr (v := us ((exW wv i) (i + 14)) (nI 19)) hx hb d_Sha_extendWords_65 rfl ?_
        refine lv_iload_n hx hb d_Sha_extendWords_66 rfl (lv_at hl 1 rfl) ?_
        refine lv_bipush (v := nI 13) hx hb d_Sha_extendWords_67 (by decide) ?_
        refine lv_ishl hx hb d_Sha_extendWords_69 ?_
        refine lv_ior hx hb d_Sha_extendWords_70 ?_
        refine lv_ixor hx hb d_Sha_extendWords_71 ?_
        refine lv_iload_n hx hb d_Sha_extendWords_72 rfl (lv_at hl 1 rfl) ?_
        refine lv_bipush (v := nI 10) hx hb d_Sha_extendWords_73 (by decide) ?_
        refine lv_iushr (v := us ((exW wv i) (i + 14)) (nI 10)) hx hb d_Sha_extendWords_75 rfl ?_
        refine lv_ixor hx hb d_Sha_extendWords_76 ?_
        refine tope (z := sg1 (exW wv i (i + 14))) (rfl) ?_
        refine lv_istore (lv' := [(5, .int (sg1 (exW wv i (i + 14)))), (4, .int (sg0 (exW wv i (i + 1)))), (3, .int ((exW wv i) (i + 14))), (2, .int ((exW wv i) (i + 1))), (1, .int (nI (16 + i))), (0, .ref h0)]) hx hb d_Sha_extendWords_77 hl (by decide) rfl (fun ls hl => ?_)
        refine lv_aload_n hx hb d_Sha_extendWords_79 rfl (lv_at hl 5 rfl) ?_
        refine n_get C fg_Sha_15 hP 0 rfl rfl d_Sha_extendWords_80 ?_
        refine lv_iload_n hx hb d_Sha_extendWords_83 rfl (lv_at hl 4 rfl) ?_
        refine lv_aload_n hx hb d_Sha_extendWords_84 rfl (lv_at hl 5 rfl) ?_
        refine n_get C fg_Sha_15 hP 0 rfl rfl d_Sha_extendWords_85 ?_
        refine lv_iload_n hx hb d_Sha_extendWords_88 rfl (lv_at hl 4 rfl) ?_
        refine lv_bipush (v := nI 16) hx hb d_Sha_extendWords_89 (by decide) ?_
        refine lv_isub hx hb d_Sha_extendWords_91 ?_
        refine tope (z := nI ((16 + i) - 16)) (pk_sub (by omega)) ?_
        refine tope (z := nI i) (congrArg nI (by omega)) ?_
        refine n_iald C hP 1 rfl i rfl (by omega) (by omega) d_Sha_extendWords_92 ?_
        refine lv_iload hx hb d_Sha_extendWords_93 (lv_at hl 1 rfl) ?_
        refine lv_iadd hx hb d_Sha_extendWords_95 ?_
        refine lv_aload_n hx hb d_Sha_extendWords_96 rfl (lv_at hl 5 rfl) ?_
        refine n_get C fg_Sha_15 hP 0 rfl rfl d_Sha_extendWords_97 ?_
        refine lv_iload_n hx hb d_Sha_extendWords_100 rfl (lv_at hl 4 rfl) ?_
        refine lv_bipush (v := nI 7) hx hb d_Sha_extendWords_101 (by decide) ?_
        refine lv_isub hx hb d_Sha_extendWords_103 ?_
        refine tope (z := nI ((16 + i) - 7)) (pk_sub (by omega)) ?_
        refine tope (z := nI (i + 9)) (congrArg nI (by omega)) ?_
        refine n_iald C hP 1 rfl (i + 9) rfl (by omega) (by omega) d_Sha_extendWords_104 ?_
        refine lv_iadd hx hb d_Sha_extendWords_105 ?_
        refine lv_iload hx hb d_Sha_extendWords_106 (lv_at hl 0 rfl) ?_
        refine lv_iadd hx hb d_Sha_extendWords_108 ?_
        refine n_iast C hP hD hS 1 rfl (16 + i) rfl (by omega) (by omega) d_Sha_extendWords_109 (fun H locs hP hD hS => ?_)
        have hP : va_P E.1 clz [(h0, .inr (4, [.ref a1, .ref a2])), (a2, .inl (E.2.2.1, 64, .inl (upd (exW wv i) (16 + i) (((((exW wv i) i) + (sg0 (exW wv i (i + 1)))) + ((exW wv i) (i + 9))) + (sg1 (exW wv i (i + 14)))))))] H := hP
        have hD : va_D A [(h0, .inr (4, [.ref a1, .ref a2])), (a2, .inl (E.2.2.1, 64, .inl (upd (exW wv i) (16 + i) (((((exW wv i) i) + (sg0 (exW wv i (i + 1)))) + ((exW wv i) (i + 9))) + (sg1 (exW wv i (i + 14)))))))] := hD
        have hP : va_P E.1 clz [(h0, .inr (4, [.ref a1, .ref a2])), (a2, .inl (E.2.2.1, 64, .inl (exW wv (i + 1))))] H := hP
        have hD : va_D A [(h0, .inr (4, [.ref a1, .ref a2])), (a2, .inl (E.2.2.1, 64, .inl (exW wv (i + 1))))] := hD
        refine lv_iinc (k := 4) (v := nI (16 + i + 1)) (lv' := [(1, .int (nI (16 + i + 1))), (5, .int (sg1 (exW wv i (i + 14)))), (4, .int (sg0 (exW wv i (i + 1)))), (3, .int ((exW wv i) (i + 14))), (2, .int ((exW wv i) (i + 1))), (0, .ref h0)]) hx hb d_Sha_extendWords_110 hl rfl (iincK (16 + i) 1) (by decide) rfl (fun ls hl => ?_)
        refine lv_goto hx hb d_Sha_extendWords_113 rfl ?_
        exact ih3 (i + 1) H locs ls (by omega) (by omega) hP hD hS (lv_sub hl [0, 5] rfl)
  exact hloop3 (48 + 1) 0 H locs ls (by omega) (by omega) hP hD hS (lv_sub hl [0, 1] rfl)

set_option maxHeartbeats 4000000 in
set_option maxRecDepth 100000 in
theorem c_Sha_mix (l : Launch) (E : En) (h0 a1 a2 : Nat) (st wv : Nat → Int32) : CtV l y_Sha_mixWords b_Sha_mixWords 16 (rmd 0) E [.ref h0] [(h0, .inr (4, [.ref a1, .ref a2])), (a1, .inl (E.2.2.1, 8, .inl st)), (a2, .inl (E.2.2.1, 64, .inl wv))] (fun w => w = [(h0, .inr (4, [.ref a1, .ref a2])), (a1, .inl (E.2.2.1, 8, .inl (blkF wv st))), (a2, .inl (E.2.2.1, 64, .inl wv))]) := by
  refine CtV.of (by decide) (Nat.le_of_ble_eq_true rfl) ?_
  intro p e s m args below meth c A Q H locs ls C hP hD hS hl kret
  have hx := C.1
  have hb := C.2.1
  have hl : lv_has ls 16 [(0, .ref h0)] := hl
  refine lv_aload_n hx hb d_Sha_mixWords_0 rfl (lv_at hl 0 rfl) ?_
  refine n_get C fg_Sha_9 hP 0 rfl rfl d_Sha_mixWords_1 ?_
  refine lv_iconst (v := nI 0) hx hb d_Sha_mixWords_4 (by decide) ?_
  refine n_iald C hP 1 rfl 0 rfl (by omega) (by omega) d_Sha_mixWords_5 ?_
  refine lv_istore_n (lv' := [(1, .int (st 0)), (0, .ref h0)]) hx hb d_Sha_mixWords_6 rfl hl (by decide) rfl (fun ls hl => ?_)
  refine lv_aload_n hx hb d_Sha_mixWords_7 rfl (lv_at hl 1 rfl) ?_
  refine n_get C fg_Sha_9 hP 0 rfl rfl d_Sha_mixWords_8 ?_
  refine lv_iconst (v := nI 1) hx hb d_Sha_mixWords_11 (by decide) ?_
  refine n_iald C hP 1 rfl 1 rfl (by omega) (by omega) d_Sha_mixWords_12 ?_
  refine lv_istore_n (lv' := [(2, .int (st 1)), (1, .int (st 0)), (0, .ref h0)]) hx hb d_Sha_mixWords_13 rfl hl (by decide) rfl (fun ls hl => ?_)
  refine lv_aload_n hx hb d_Sha_mixWords_14 rfl (lv_at hl 2 rfl) ?_
  refine n_get C fg_Sha_9 hP 0 rfl rfl d_Sha_mixWords_15 ?_
  refine lv_iconst (v := nI 2) hx hb d_Sha_mixWords_18 (by decide) ?_
  refine n_iald C hP 1 rfl 2 rfl (by omega) (by omega) d_Sha_mixWords_19 ?_
  refine lv_istore_n (lv' := [(3, .int (st 2)), (2, .int (st 1)), (1, .int (st 0)), (0, .ref h0)]) hx hb d_Sha_mixWords_20 rfl hl (by decide) rfl (fun ls hl => ?_)
  refine lv_aload_n hx hb d_Sha_mixWords_21 rfl (lv_at hl 3 rfl) ?_
  refine n_get C fg_Sha_9 hP 0 rfl rfl d_Sha_mixWords_22 ?_
  refine lv_iconst (v := nI 3) hx hb d_Sha_mixWords_25 (by decide) ?_
  refine n_iald C hP 1 rfl 3 rfl (by omega) (by omega) d_Sha_mixWords_26 ?_
  refine lv_istore (lv' := [(4, .int (st 3)), (3, .int (st 2)), (2, .int (st 1)), (1, .int (st 0)), (0, .ref h0)]) hx hb d_Sha_mixWords_27 hl (by decide) rfl (fun ls hl => ?_)
  refine lv_aload_n hx hb d_Sha_mixWords_29 rfl (lv_at hl 4 rfl) ?_
  refine n_get C fg_Sha_9 hP 0 rfl rfl d_Sha_mixWords_30 ?_
  refine lv_iconst (v := nI 4) hx hb d_Sha_mixWords_33 (by decide) ?_
  refine n_iald C hP 1 rfl 4 rfl (by omega) (by omega) d_Sha_mixWords_34 ?_
  refine lv_istore (lv' := [(5, .int (st 4)), (4, .int (st 3)), (3, .int (st 2)), (2, .int (st 1)), (1, .int (st 0)), (0, .ref h0)]) hx hb d_Sha_mixWords_35 hl (by decide) rfl (fun ls hl => ?_)
  refine lv_aload_n hx hb d_Sha_mixWords_37 rfl (lv_at hl 5 rfl) ?_
  refine n_get C fg_Sha_9 hP 0 rfl rfl d_Sha_mixWords_38 ?_
  refine lv_iconst (v := nI 5) hx hb d_Sha_mixWords_41 (by decide) ?_
  refine n_iald C hP 1 rfl 5 rfl (by omega) (by omega) d_Sha_mixWords_42 ?_
  refine lv_istore (lv' := [(6, .int (st 5)), (5, .int (st 4)), (4, .int (st 3)), (3, .int (st 2)), (2, .int (st 1)), (1, .int (st 0)), (0, .ref h0)]) hx hb d_Sha_mixWords_43 hl (by decide) rfl (fun ls hl => ?_)
  refine lv_aload_n hx hb d_Sha_mixWords_45 rfl (lv_at hl 6 rfl) ?_
  refine n_get C fg_Sha_9 hP 0 rfl rfl d_Sha_mixWords_46 ?_
  refine lv_bipush (v := nI 6) hx hb d_Sha_mixWords_49 (by decide) ?_
  refine n_iald C hP 1 rfl 6 rfl (by omega) (by omega) d_Sha_mixWords_51 ?_
  refine lv_istore (lv' := [(7, .int (st 6)), (6, .int (st 5)), (5, .int (st 4)), (4, .int (st 3)), (3, .int (st 2)), (2, .int (st 1)), (1, .int (st 0)), (0, .ref h0)]) hx hb d_Sha_mixWords_52 hl (by decide) rfl (fun ls hl => ?_)
  refine lv_aload_n hx hb d_Sha_mixWords_54 rfl (lv_at hl 7 rfl) ?_
  refine n_get C fg_Sha_9 hP 0 rfl rfl d_Sha_mixWords_55 ?_
  refine lv_bipush (v := nI 7) hx hb d_Sha_mixWords_58 (by decide) ?_
  refine n_iald C hP 1 rfl 7 rfl (by omega) (by omega) d_Sha_mixWords_60 ?_
  refine lv_istore (lv' := [(8, .int (st 7)), (7, .int (st 6)), (6, .int (st 5)), (5, .int (st 4)), (4, .int (st 3)), (3, .int (st 2)), (2, .int (st 1)), (1, .int (st 0)), (0, .ref h0)]) hx hb d_Sha_mixWords_61 hl (by decide) rfl (fun ls hl => ?_)
  refine lv_iconst (v := nI 0) hx hb d_Sha_mixWords_63 (by decide) ?_
  refine lv_istore (lv' := [(9, .int (nI 0)), (8, .int (st 7)), (7, .int (st 6)), (6, .int (st 5)), (5, .int (st 4)), (4, .int (st 3)), (3, .int (st 2)), (2, .int (st 1)), (1, .int (st 0)), (0, .ref h0)]) hx hb d_Sha_mixWords_64 hl (by decide) rfl (fun ls hl => ?_)
  have hloop66 : ∀ (dd : Nat) (i : Nat) (va : Int32) (vb : Int32) (vc : Int32) (vd : Int32) (ve : Int32) (vf : Int32) (vg : Int32) (vh : Int32) (H : Heap) (locs : List Loc) (ls : Array Slot), 64 - i < dd → (i ≤ 64) → (mx wv (st 0, st 1, st 2, st 3, st 4, st 5, st 6, st 7) i = (va, vb, vc, vd, ve, vf, vg, vh)) → va_P E.1 clz [(h0, .inr (4, [.ref a1, .ref a2])), (a1, .inl (E.2.2.1, 8, .inl st)), (a2, .inl (E.2.2.1, 64, .inl wv))] H → va_D A [(h0, .inr (4, [.ref a1, .ref a2])), (a1, .inl (E.2.2.1, 8, .inl st)), (a2, .inl (E.2.2.1, 64, .inl wv))] → va_S A s.heap H locs → lv_has ls 16 [(9, .int (nI i)), (8, .int vh), (7, .int vg), (6, .int vf), (5, .int ve), (4, .int vd), (3, .int vc), (2, .int vb), (1, .int va), (0, .ref h0)] → W p l e (rmd 0) s m args below meth c H locs 0 0 Q (F0 m 66 ls []) := by
    intro dd
    induction dd with
    | zero => intro i va vb vc vd ve vf vg vh H locs ls hm; exact absurd hm (Nat.not_lt_zero _)
    | succ dd ih66 =>
      intro i va vb vc vd ve vf vg vh H locs ls hm hi hinv hP hD hS hl
      refine lv_iload hx hb d_Sha_mixWords_66 (lv_at hl 0 rfl) ?_
      refine lv_bipush (v := nI 64) hx hb d_Sha_mixWords_68 (by decide) ?_
      refine j_ge C i 64 rfl rfl (by omega) (by omega) d_Sha_mixWords_70 rfl (fun h1 => ?_) (fun h1 => ?_)
      · obtain rfl : i = 64 := by omega
        refine lv_aload_n hx hb d_Sha_mixWords_238 rfl (lv_at hl 9 rfl) ?_
        refine n_get C fg_Sha_9 hP 0 rfl rfl d_Sha_mixWords_239 ?_
        refine lv_iconst (v := nI 0) hx hb d_Sha_mixWords_242 (by decide) ?_
        refine lv_dup2_11 hx hb d_Sha_mixWords_243 rfl rfl ?_
        refine n_iald C hP 1 rfl 0 rfl (by omega) (by omega) d_Sha_mixWords_244 ?_
        refine tope (z := st 0) (rfl) ?_
        refine lv_iload_n hx hb d_Sha_mixWords_245 rfl (lv_at hl 8 rfl) ?_
        refine lv_iadd hx hb d_Sha_mixWords_246 ?_
        refine n_iast C hP hD hS 1 rfl 0 rfl (by omega) (by omega) d_Sha_mixWords_247 (fun H locs hP hD hS => ?_)
        have hP : va_P E.1 clz [(h0, .inr (4, [.ref a1, .ref a2])), (a1, .inl (E.2.2.1, 8, .inl (upd st 0 ((st 0) + va)))), (a2, .inl (E.2.2.1, 64, .inl wv))] H := hP
        have hD : va_D A [(h0, .inr (4, [.ref a1, .ref a2])), (a1, .inl (E.2.2.1, 8, .inl (upd st 0 ((st 0) + va)))), (a2, .inl (E.2.2.1, 64, .inl wv))] := hD
        refine lv_aload_n hx hb d_Sha_mixWords_248 rfl (lv_at hl 9 rfl) ?_
        refine n_get C fg_Sha_9 hP 0 rfl rfl d_Sha_mixWords_249 ?_
        refine lv_iconst (v := nI 1) hx hb d_Sha_mixWords_252 (by decide) ?_
        refine lv_dup2_11 hx hb d_Sha_mixWords_253 rfl rfl ?_
        refine n_iald C hP 1 rfl 1 rfl (by omega) (by omega) d_Sha_mixWords_254 ?_
        refine tope (z := st 1) (rfl) ?_
        refine lv_iload_n hx hb d_Sha_mixWords_255 rfl (lv_at hl 7 rfl) ?_
        refine lv_iadd hx hb d_Sha_mixWords_256 ?_
        refine n_iast C hP hD hS 1 rfl 1 rfl (by omega) (by omega) d_Sha_mixWords_257 (fun H locs hP hD hS => ?_)
        have hP : va_P E.1 clz [(h0, .inr (4, [.ref a1, .ref a2])), (a1, .inl (E.2.2.1, 8, .inl (upd (upd st 0 ((st 0) + va)) 1 ((st 1) + vb)))), (a2, .inl (E.2.2.1, 64, .inl wv))] H := hP
        have hD : va_D A [(h0, .inr (4, [.ref a1, .ref a2])), (a1, .inl (E.2.2.1, 8, .inl (upd (upd st 0 ((st 0) + va)) 1 ((st 1) + vb)))), (a2, .inl (E.2.2.1, 64, .inl wv))] := hD
        refine lv_aload_n hx hb d_Sha_mixWords_258 rfl (lv_at hl 9 rfl) ?_
        refine n_get C fg_Sha_9 hP 0 rfl rfl d_Sha_mixWords_259 ?_
        refine lv_iconst (v := nI 2) hx hb d_Sha_mixWords_262 (by decide) ?_
        refine lv_dup2_11 hx hb d_Sha_mixWords_263 rfl rfl ?_
        refine n_iald C hP 1 rfl 2 rfl (by omega) (by omega) d_Sha_mixWords_264 ?_
        refine tope (z := st 2) (rfl) ?_
        refine lv_iload_n hx hb d_Sha_mixWords_265 rfl (lv_at hl 6 rfl) ?_
        refine lv_iadd hx hb d_Sha_mixWords_266 ?_
        refine n_iast C hP hD hS 1 rfl 2 rfl (by omega) (by omega) d_Sha_mixWords_267 (fun H locs hP hD hS => ?_)
        have hP : va_P E.1 clz [(h0, .inr (4, [.ref a1, .ref a2])), (a1, .inl (E.2.2.1, 8, .inl (upd (upd (upd st 0 ((st 0) + va)) 1 ((st 1) + vb)) 2 ((st 2) + vc)))), (a2, .inl (E.2.2.1, 64, .inl wv))] H := hP
        have hD : va_D A [(h0, .inr (4, [.ref a1, .ref a2])), (a1, .inl (E.2.2.1, 8, .inl (upd (upd (upd st 0 ((st 0) + va)) 1 ((st 1) + vb)) 2 ((st 2) + vc)))), (a2, .inl (E.2.2.1, 64, .inl wv))] := hD
        refine lv_aload_n hx hb d_Sha_mixWords_268 rfl (lv_at hl 9 rfl) ?_
        refine n_get C fg_Sha_9 hP 0 rfl rfl d_Sha_mixWords_269 ?_
        refine lv_iconst (v := nI 3) hx hb d_Sha_mixWords_272 (by decide) ?_
        refine lv_dup2_11 hx hb d_Sha_mixWords_273 rfl rfl ?_
        refine n_iald C hP 1 rfl 3 rfl (by omega) (by omega) d_Sha_mixWords_274 ?_
        refine tope (z := st 3) (rfl) ?_
        refine lv_iload hx hb d_Sha_mixWords_275 (lv_at hl 5 rfl) ?_
        refine lv_iadd hx hb d_Sha_mixWords_277 ?_
        refine n_iast C hP hD hS 1 rfl 3 rfl (by omega) (by omega) d_Sha_mixWords_278 (fun H locs hP hD hS => ?_)
        have hP : va_P E.1 clz [(h0, .inr (4, [.ref a1, .ref a2])), (a1, .inl (E.2.2.1, 8, .inl (upd (upd (upd (upd st 0 ((st 0) + va)) 1 ((st 1) + vb)) 2 ((st 2) + vc)) 3 ((st 3) + vd)))), (a2, .inl (E.2.2.1, 64, .inl wv))] H := hP
        have hD : va_D A [(h0, .inr (4, [.ref a1, .ref a2])), (a1, .inl (E.2.2.1, 8, .inl (upd (upd (upd (upd st 0 ((st 0) + va)) 1 ((st 1) + vb)) 2 ((st 2) + vc)) 3 ((st 3) + vd)))), (a2, .inl (E.2.2.1, 64, .inl wv))] := hD
        refine lv_aload_n hx hb d_Sha_mixWords_279 rfl (lv_at hl 9 rfl) ?_
        refine n_get C fg_Sha_9 hP 0 rfl rfl d_Sha_mixWords_280 ?_
        refine lv_iconst (v := nI 4) hx hb d_Sha_mixWords_283 (by decide) ?_
        refine lv_dup2_11 hx hb d_Sha_mixWords_284 rfl rfl ?_
        refine n_iald C hP 1 rfl 4 rfl (by omega) (by omega) d_Sha_mixWords_285 ?_
        refine tope (z := st 4) (rfl) ?_
        refine lv_iload hx hb d_Sha_mixWords_286 (lv_at hl 4 rfl) ?_
        refine lv_iadd hx hb d_Sha_mixWords_288 ?_
        refine n_iast C hP hD hS 1 rfl 4 rfl (by omega) (by omega) d_Sha_mixWords_289 (fun H locs hP hD hS => ?_)
        have hP : va_P E.1 clz [(h0, .inr (4, [.ref a1, .ref a2])), (a1, .inl (E.2.2.1, 8, .inl (upd (upd (upd (upd (upd st 0 ((st 0) + va)) 1 ((st 1) + vb)) 2 ((st 2) + vc)) 3 ((st 3) + vd)) 4 ((st 4) + ve)))), (a2, .inl (E.2.2.1, 64, .inl wv))] H := hP
        have hD : va_D A [(h0, .inr (4, [.ref a1, .ref a2])), (a1, .inl (E.2.2.1, 8, .inl (upd (upd (upd (upd (upd st 0 ((st 0) + va)) 1 ((st 1) + vb)) 2 ((st 2) + vc)) 3 ((st 3) + vd)) 4 ((st 4) + ve)))), (a2, .inl (E.2.2.1, 64, .inl wv))] := hD
        refine lv_aload_n hx hb d_Sha_mixWords_290 rfl (lv_at hl 9 rfl) ?_
        refine n_get C fg_Sha_9 hP 0 rfl rfl d_Sha_mixWords_291 ?_
        refine lv_iconst (v := nI 5) hx hb d_Sha_mixWords_294 (by decide) ?_
        refine lv_dup2_11 hx hb d_Sha_mixWords_295 rfl rfl ?_
        refine n_iald C hP 1 rfl 5 rfl (by omega) (by omega) d_Sha_mixWords_296 ?_
        refine tope (z := st 5) (rfl) ?_
        refine lv_iload hx hb d_Sha_mixWords_297 (lv_at hl 3 rfl) ?_
        refine lv_iadd hx hb d_Sha_mixWords_299 ?_
        refine n_iast C hP hD hS 1 rfl 5 rfl (by omega) (by omega) d_Sha_mixWords_300 (fun H locs hP hD hS => ?_)
        have hP : va_P E.1 clz [(h0, .inr (4, [.ref a1, .ref a2])), (a1, .inl (E.2.2.1, 8, .inl (upd (upd (upd (upd (upd (upd st 0 ((st 0) + va)) 1 ((st 1) + vb)) 2 ((st 2) + vc)) 3 ((st 3) + vd)) 4 ((st 4) + ve)) 5 ((st 5) + vf)))), (a2, .inl (E.2.2.1, 64, .inl wv))] H := hP
        have hD : va_D A [(h0, .inr (4, [.ref a1, .ref a2])), (a1, .inl (E.2.2.1, 8, .inl (upd (upd (upd (upd (upd (upd st 0 ((st 0) + va)) 1 ((st 1) + vb)) 2 ((st 2) + vc)) 3 ((st 3) + vd)) 4 ((st 4) + ve)) 5 ((st 5) + vf)))), (a2, .inl (E.2.2.1, 64, .inl wv))] := hD
        refine lv_aload_n hx hb d_Sha_mixWords_301 rfl (lv_at hl 9 rfl) ?_
        refine n_get C fg_Sha_9 hP 0 rfl rfl d_Sha_mixWords_302 ?_
        refine lv_bipush (v := nI 6) hx hb d_Sha_mixWords_305 (by decide) ?_
        refine lv_dup2_11 hx hb d_Sha_mixWords_307 rfl rfl ?_
        refine n_iald C hP 1 rfl 6 rfl (by omega) (by omega) d_Sha_mixWords_308 ?_
        refine tope (z := st 6) (rfl) ?_
        refine lv_iload hx hb d_Sha_mixWords_309 (lv_at hl 2 rfl) ?_
        refine lv_iadd hx hb d_Sha_mixWords_311 ?_
        refine n_iast C hP hD hS 1 rfl 6 rfl (by omega) (by omega) d_Sha_mixWords_312 (fun H locs hP hD hS => ?_)
        have hP : va_P E.1 clz [(h0, .inr (4, [.ref a1, .ref a2])), (a1, .inl (E.2.2.1, 8, .inl (upd (upd (upd (upd (upd (upd (upd st 0 ((st 0) + va)) 1 ((st 1) + vb)) 2 ((st 2) + vc)) 3 ((st 3) + vd)) 4 ((st 4) + ve)) 5 ((st 5) + vf)) 6 ((st 6) + vg)))), (a2, .inl (E.2.2.1, 64, .inl wv))] H := hP
        have hD : va_D A [(h0, .inr (4, [.ref a1, .ref a2])), (a1, .inl (E.2.2.1, 8, .inl (upd (upd (upd (upd (upd (upd (upd st 0 ((st 0) + va)) 1 ((st 1) + vb)) 2 ((st 2) + vc)) 3 ((st 3) + vd)) 4 ((st 4) + ve)) 5 ((st 5) + vf)) 6 ((st 6) + vg)))), (a2, .inl (E.2.2.1, 64, .inl wv))] := hD
        refine lv_aload_n hx hb d_Sha_mixWords_313 rfl (lv_at hl 9 rfl) ?_
        refine n_get C fg_Sha_9 hP 0 rfl rfl d_Sha_mixWords_314 ?_
        refine lv_bipush (v := nI 7) hx hb d_Sha_mixWords_317 (by decide) ?_
        refine lv_dup2_11 hx hb d_Sha_mixWords_319 rfl rfl ?_
        refine n_iald C hP 1 rfl 7 rfl (by omega) (by omega) d_Sha_mixWords_320 ?_
        refine tope (z := st 7) (rfl) ?_
        refine lv_iload hx hb d_Sha_mixWords_321 (lv_at hl 1 rfl) ?_
        refine lv_iadd hx hb d_Sha_mixWords_323 ?_
        refine n_iast C hP hD hS 1 rfl 7 rfl (by omega) (by omega) d_Sha_mixWords_324 (fun H locs hP hD hS => ?_)
        have hP : va_P E.1 clz [(h0, .inr (4, [.ref a1, .ref a2])), (a1, .inl (E.2.2.1, 8, .inl (upd (upd (upd (upd (upd (upd (upd (upd st 0 ((st 0) + va)) 1 ((st 1) + vb)) 2 ((st 2) + vc)) 3 ((st 3) + vd)) 4 ((st 4) + ve)) 5 ((st 5) + vf)) 6 ((st 6) + vg)) 7 ((st 7) + vh)))), (a2, .inl (E.2.2.1, 64, .inl wv))] H := hP
        have hD : va_D A [(h0, .inr (4, [.ref a1, .ref a2])), (a1, .inl (E.2.2.1, 8, .inl (upd (upd (upd (upd (upd (upd (upd (upd st 0 ((st 0) + va)) 1 ((st 1) + vb)) 2 ((st 2) + vc)) 3 ((st 3) + vd)) 4 ((st 4) + ve)) 5 ((st 5) + vf)) 6 ((st 6) + vg)) 7 ((st 7) + vh)))), (a2, .inl (E.2.2.1, 64, .inl wv))] := hD
        exact kret [(h0, .inr (4, [.ref a1, .ref a2])), (a1, .inl (E.2.2.1, 8, .inl (upd (upd (upd (upd (upd (upd (upd (upd st 0 ((st 0) + va)) 1 ((st 1) + vb)) 2 ((st 2) + vc)) 3 ((st 3) + vd)) 4 ((st 4) + ve)) 5 ((st 5) + vf)) 6 ((st 6) + vg)) 7 ((st 7) + vh)))), (a2, .inl (E.2.2.1, 64, .inl wv))] _ _ _ _ d_Sha_mixWords_325 (by unfold blkF; rw [hinv]; rfl) rfl hP hS
      · refine lv_iload hx hb d_Sha_mixWords_73 (lv_at hl 4 rfl) ?_
        refine lv_bipush (v := nI 6) hx hb d_Sha_mixWords_75 (by decide) ?_
        refine lv_iushr (v := us ve (nI 6)) hx hb d_Sha_mixWords_77 rfl ?_
        refine lv_iload hx hb d_Sha_mixWords_78 (lv_at hl 4 rfl) ?_
        refine lv_bipush (v := nI 26) hx hb d_Sha_mixWords_80 (by decide) ?_
        refine lv_ishl hx hb d_Sha_mixWords_82 ?_
        refine lv_ior hx hb d_Sha_mixWords_83 ?_
        refine lv_iload hx hb d_Sha_mixWords_84 (lv_at hl 4 rfl) ?_
        refine lv_bipush (v := nI 11) hx hb d_Sha_mixWords_86 (by decide) ?_
        refine lv_iushr (v := us ve (nI 11)) hx hb d_Sha_mixWords_88 rfl ?_
        refine lv_iload hx hb d_Sha_mixWords_89 (lv_at hl 4 rfl) ?_
        refine lv_bipush (v := nI 21) hx hb d_Sha_mixWords_91 (by decide) ?_
        refine lv_ishl hx hb d_Sha_mixWords_93 ?_
        refine lv_ior hx hb d_Sha_mixWords_94 ?_
        refine lv_ixor hx hb d_Sha_mixWords_95 ?_
        refine lv_iload hx hb d_Sha_mixWords_96 (lv_at hl 4 rfl) ?_
        refine lv_bipush (v := nI 25) hx hb d_Sha_mixWords_98 (by decide) ?_
        refine lv_iushr (v := us ve (nI 25)) hx hb d_Sha_mixWords_100 rfl ?_
        refine lv_iload hx hb d_Sha_mixWords_101 (lv_at hl 4 rfl) ?_
        refine lv_bipush (v := nI 7) hx hb d_Sha_mixWords_103 (by decide) ?_
        refine lv_ishl hx hb d_Sha_mixWords_105 ?_
        refine lv_ior hx hb d_Sha_mixWords_106 ?_
        refine lv_ixor hx hb d_Sha_mixWords_107 ?_
        refine tope (z := bg1 ve) (rfl) ?_
        refine lv_istore (lv' := [(10, .int (bg1 ve)), (9, .int (nI i)), (8, .int vh), (7, .int vg), (6, .int vf), (5, .int ve), (4, .int vd), (3, .int vc), (2, .int vb), (1, .int va), (0, .ref h0)]) hx hb d_Sha_mixWords_108 hl (by decide) rfl (fun ls hl => ?_)
        refine lv_iload hx hb d_Sha_mixWords_110 (lv_at hl 5 rfl) ?_
        refine lv_iload hx hb d_Sha_mixWords_112 (lv_at hl 4 rfl) ?_
        refine lv_iand hx hb d_Sha_mixWords_114 ?_
        refine lv_iload hx hb d_Sha_mixWords_115 (lv_at hl 5 rfl) ?_
        refine lv_iconst (v := (-1)) hx hb d_Sha_mixWords_117 (by decide) ?_
        refine lv_ixor hx hb d_Sha_mixWords_118 ?_
        refine lv_iload hx hb d_Sha_mixWords_119 (lv_at hl 3 rfl) ?_
        refine lv_iand hx hb d_Sha_mixWords_121 ?_
        refine lv_ixor hx hb d_Sha_mixWords_122 ?_
        refine tope (z := chs ve vf vg) (rfl) ?_
        refine lv_istore (lv' := [(11, .int (chs ve vf vg)), (10, .int (bg1 ve)), (9, .int (nI i)), (8, .int vh), (7, .int vg), (6, .int vf), (5, .int ve), (4, .int vd), (3, .int vc), (2, .int vb), (1, .int va), (0, .ref h0)]) hx hb d_Sha_mixWords_123 hl (by decide) rfl (fun ls hl => ?_)
        refine lv_iload hx hb d_Sha_mixWords_125 (lv_at hl 3 rfl) ?_
        refine lv_iload hx hb d_Sha_mixWords_127 (lv_at hl 1 rfl) ?_
        refine lv_iadd hx hb d_Sha_mixWords_129 ?_
        refine lv_iload hx hb d_Sha_mixWords_130 (lv_at hl 0 rfl) ?_
        refine lv_iadd hx hb d_Sha_mixWords_132 ?_
        refine n_gets C fl_Sha_41 C.2.2.2.2.2.2.1.2.1.1 hS d_Sha_mixWords_133 ?_
        refine lv_iload hx hb d_Sha_mixWords_136 (lv_at hl 2 rfl) ?_
        refine n_tab (t := E.2.2.2.2.2.1) C (C.2.2.2.2.2.2.1.2.1.2) i rfl (by omega) (by omega) hS d_Sha_mixWords_138 ?_
        refine lv_iadd hx hb d_Sha_mixWords_139 ?_
        refine lv_aload_n hx hb d_Sha_mixWords_140 rfl (lv_at hl 11 rfl) ?_
        refine n_get C fg_Sha_15 hP 0 rfl rfl d_Sha_mixWords_141 ?_
        refine lv_iload hx hb d_Sha_mixWords_144 (lv_at hl 2 rfl) ?_
        refine n_iald C hP 2 rfl i rfl (by omega) (by omega) d_Sha_mixWords_146 ?_
        refine lv_iadd hx hb d_Sha_mixWords_147 ?_
        refine lv_istore (lv' := [(12, .int ((((vh + (bg1 ve)) + (chs ve vf vg)) + (shK i)) + (wv i))), (11, .int (chs ve vf vg)), (10, .int (bg1 ve)), (9, .int (nI i)), (8, .int vh), (7, .int vg), (6, .int vf), (5, .int ve), (4, .int vd), (3, .int vc), (2, .int vb), (1, .int va), (0, .ref h0)]) hx hb d_Sha_mixWords_148 hl (by decide) rfl (fun ls hl => ?_)
        refine lv_iload_n hx hb d_Sha_mixWords_150 rfl (lv_at hl 11 rfl) ?_
        refine lv_iconst (v := nI 2) hx hb d_Sha_mixWords_151 (by decide) ?_
        refine lv_iushr (v := us va (nI 2)) hx hb d_Sha_mixWords_152 rfl ?_
        refine lv_iload_n hx hb d_Sha_mixWords_153 rfl (lv_at hl 11 rfl) ?_
        refine lv_bipush (v := nI 30) hx hb d_Sha_mixWords_154 (by decide) ?_
        refine lv_ishl hx hb d_Sha_mixWords_156 ?_
        refine lv_ior hx hb d_Sha_mixWords_157 ?_
        refine lv_iload_n hx hb d_Sha_mixWords_158 rfl (lv_at hl 11 rfl) ?_
        refine lv_bipush (v := nI 13) hx hb d_Sha_mixWords_159 (by decide) ?_
        refine lv_iushr (v := us va (nI 13)) hx hb d_Sha_mixWords_161 rfl ?_
        refine lv_iload_n hx hb d_Sha_mixWords_162 rfl (lv_at hl 11 rfl) ?_
        refine lv_bipush (v := nI 19) hx hb d_Sha_mixWords_163 (by decide) ?_
        refine lv_ishl hx hb d_Sha_mixWords_165 ?_
        refine lv_ior hx hb d_Sha_mixWords_166 ?_
        refine lv_ixor hx hb d_Sha_mixWords_167 ?_
        refine lv_iload_n hx hb d_Sha_mixWords_168 rfl (lv_at hl 11 rfl) ?_
        refine lv_bipush (v := nI 22) hx hb d_Sha_mixWords_169 (by decide) ?_
        refine lv_iushr (v := us va (nI 22)) hx hb d_Sha_mixWords_171 rfl ?_
        refine lv_iload_n hx hb d_Sha_mixWords_172 rfl (lv_at hl 11 rfl) ?_
        refine lv_bipush (v := nI 10) hx hb d_Sha_mixWords_173 (by decide) ?_
        refine lv_ishl hx hb d_Sha_mixWords_175 ?_
        refine lv_ior hx hb d_Sha_mixWords_176 ?_
        refine lv_ixor hx hb d_Sha_mixWords_177 ?_
        refine tope (z := bg0 va) (rfl) ?_
        refine lv_istore (lv' := [(13, .int (bg0 va)), (12, .int ((((vh + (bg1 ve)) + (chs ve vf vg)) + (shK i)) + (wv i))), (11, .int (chs ve vf vg)), (10, .int (bg1 ve)), (9, .int (nI i)), (8, .int vh), (7, .int vg), (6, .int vf), (5, .int ve), (4, .int vd), (3, .int vc), (2, .int vb), (1, .int va), (0, .ref h0)]) hx hb d_Sha_mixWords_178 hl (by decide) rfl (fun ls hl => ?_)
        refine lv_iload_n hx hb d_Sha_mixWords_180 rfl (lv_at hl 12 rfl) ?_
        refine lv_iload_n hx hb d_Sha_mixWords_181 rfl (lv_at hl 11 rfl) ?_
        refine lv_iand hx hb d_Sha_mixWords_182 ?_
        refine lv_iload_n hx hb d_Sha_mixWords_183 rfl (lv_at hl 12 rfl) ?_
        refine lv_iload_n hx hb d_Sha_mixWords_184 rfl (lv_at hl 10 rfl) ?_
        refine lv_iand hx hb d_Sha_mixWords_185 ?_
        refine lv_ixor hx hb d_Sha_mixWords_186 ?_
        refine lv_iload_n hx hb d_Sha_mixWords_187 rfl (lv_at hl 11 rfl) ?_
        refine lv_iload_n hx hb d_Sha_mixWords_188 rfl (lv_at hl 10 rfl) ?_
        refine lv_iand hx hb d_Sha_mixWords_189 ?_
        refine lv_ixor hx hb d_Sha_mixWords_190 ?_
        refine tope (z := mjs va vb vc) (rfl) ?_
        refine lv_istore (lv' := [(14, .int (mjs va vb vc)), (13, .int (bg0 va)), (12, .int ((((vh + (bg1 ve)) + (chs ve vf vg)) + (shK i)) + (wv i))), (11, .int (chs ve vf vg)), (10, .int (bg1 ve)), (9, .int (nI i)), (8, .int vh), (7, .int vg), (6, .int vf), (5, .int ve), (4, .int vd), (3, .int vc), (2, .int vb), (1, .int va), (0, .ref h0)]) hx hb d_Sha_mixWords_191 hl (by decide) rfl (fun ls hl => ?_)
        refine lv_iload hx hb d_Sha_mixWords_193 (lv_at hl 1 rfl) ?_
        refine lv_iload hx hb d_Sha_mixWords_195 (lv_at hl 0 rfl) ?_
        refine lv_iadd hx hb d_Sha_mixWords_197 ?_
        refine lv_istore (lv' := [(15, .int ((bg0 va) + (mjs va vb vc))), (14, .int (mjs va vb vc)), (13, .int (bg0 va)), (12, .int ((((vh + (bg1 ve)) + (chs ve vf vg)) + (shK i)) + (wv i))), (11, .int (chs ve vf vg)), (10, .int (bg1 ve)), (9, .int (nI i)), (8, .int vh), (7, .int vg), (6, .int vf), (5, .int ve), (4, .int vd), (3, .int vc), (2, .int vb), (1, .int va), (0, .ref h0)]) hx hb d_Sha_mixWords_198 hl (by decide) rfl (fun ls hl => ?_)
        refine lv_iload hx hb d_Sha_mixWords_200 (lv_at hl 8 rfl) ?_
        refine lv_istore (lv' := [(8, .int vg), (15, .int ((bg0 va) + (mjs va vb vc))), (14, .int (mjs va vb vc)), (13, .int (bg0 va)), (12, .int ((((vh + (bg1 ve)) + (chs ve vf vg)) + (shK i)) + (wv i))), (11, .int (chs ve vf vg)), (10, .int (bg1 ve)), (9, .int (nI i)), (7, .int vg), (6, .int vf), (5, .int ve), (4, .int vd), (3, .int vc), (2, .int vb), (1, .int va), (0, .ref h0)]) hx hb d_Sha_mixWords_202 hl (by decide) rfl (fun ls hl => ?_)
        refine lv_iload hx hb d_Sha_mixWords_204 (lv_at hl 9 rfl) ?_
        refine lv_istore (lv' := [(7, .int vf), (8, .int vg), (15, .int ((bg0 va) + (mjs va vb vc))), (14, .int (mjs va vb vc)), (13, .int (bg0 va)), (12, .int ((((vh + (bg1 ve)) + (chs ve vf vg)) + (shK i)) + (wv i))), (11, .int (chs ve vf vg)), (10, .int (bg1 ve)), (9, .int (nI i)), (6, .int vf), (5, .int ve), (4, .int vd), (3, .int vc), (2, .int vb), (1, .int va), (0, .ref h0)]) hx hb d_Sha_mixWords_206 hl (by decide) rfl (fun ls hl => ?_)
        refine lv_iload hx hb d_Sha_mixWords_208 (lv_at hl 10 rfl) ?_
        refine lv_istore (lv' := [(6, .int ve), (7, .int vf), (8, .int vg), (15, .int ((bg0 va) + (mjs va vb vc))), (14, .int (mjs va vb vc)), (13, .int (bg0 va)), (12, .int ((((vh + (bg1 ve)) + (chs ve vf vg)) + (shK i)) + (wv i))), (11, .int (chs ve vf vg)), (10, .int (bg1 ve)), (9, .int (nI i)), (5, .int ve), (4, .int vd), (3, .int vc), (2, .int vb), (1, .int va), (0, .ref h0)]) hx hb d_Sha_mixWords_210 hl (by decide) rfl (fun ls hl => ?_)
        refine lv_iload hx hb d_Sha_mixWords_212 (lv_at hl 11 rfl) ?_
        refine lv_iload hx hb d_Sha_mixWords_214 (lv_at hl 6 rfl) ?_
        refine lv_iadd hx hb d_Sha_mixWords_216 ?_
        refine lv_istore (lv' := [(5, .int (vd + ((((vh + (bg1 ve)) + (chs ve vf vg)) + (shK i)) + (wv i)))), (6, .int ve), (7, .int vf), (8, .int vg), (15, .int ((bg0 va) + (mjs va vb vc))), (14, .int (mjs va vb vc)), (13, .int (bg0 va)), (12, .int ((((vh + (bg1 ve)) + (chs ve vf vg)) + (shK i)) + (wv i))), (11, .int (chs ve vf vg)), (10, .int (bg1 ve)), (9, .int (nI i)), (4, .int vd), (3, .int vc), (2, .int vb), (1, .int va), (0, .ref h0)]) hx hb d_Sha_mixWords_217 hl (by decide) rfl (fun ls hl => ?_)
        refine lv_iload_n hx hb d_Sha_mixWords_219 rfl (lv_at hl 12 rfl) ?_
        refine lv_istore (lv' := [(4, .int vc), (5, .int (vd + ((((vh + (bg1 ve)) + (chs ve vf vg)) + (shK i)) + (wv i)))), (6, .int ve), (7, .int vf), (8, .int vg), (15, .int ((bg0 va) + (mjs va vb vc))), (14, .int (mjs va vb vc)), (13, .int (bg0 va)), (12, .int ((((vh + (bg1 ve)) + (chs ve vf vg)) + (shK i)) + (wv i))), (11, .int (chs ve vf vg)), (10, .int (bg1 ve)), (9, .int (nI i)), (3, .int vc), (2, .int vb), (1, .int va), (0, .ref h0)]) hx hb d_Sha_mixWords_220 hl (by decide) rfl (fun ls hl => ?_)
        refine lv_iload_n hx hb d_Sha_mixWords_222 rfl (lv_at hl 13 rfl) ?_
        refine lv_istore_n (lv' := [(3, .int vb), (4, .int vc), (5, .int (vd + ((((vh + (bg1 ve)) + (chs ve vf vg)) + (shK i)) + (wv i)))), (6, .int ve), (7, .int vf), (8, .int vg), (15, .int ((bg0 va) + (mjs va vb vc))), (14, .int (mjs va vb vc)), (13, .int (bg0 va)), (12, .int ((((vh + (bg1 ve)) + (chs ve vf vg)) + (shK i)) + (wv i))), (11, .int (chs ve vf vg)), (10, .int (bg1 ve)), (9, .int (nI i)), (2, .int vb), (1, .int va), (0, .ref h0)]) hx hb d_Sha_mixWords_223 rfl hl (by decide) rfl (fun ls hl => ?_)
        refine lv_iload_n hx hb d_Sha_mixWords_224 rfl (lv_at hl 14 rfl) ?_
        refine lv_istore_n (lv' := [(2, .int va), (3, .int vb), (4, .int vc), (5, .int (vd + ((((vh + (bg1 ve)) + (chs ve vf vg)) + (shK i)) + (wv i)))), (6, .int ve), (7, .int vf), (8, .int vg), (15, .int ((bg0 va) + (mjs va vb vc))), (14, .int (mjs va vb vc)), (13, .int (bg0 va)), (12, .int ((((vh + (bg1 ve)) + (chs ve vf vg)) + (shK i)) + (wv i))), (11, .int (chs ve vf vg)), (10, .int (bg1 ve)), (9, .int (nI i)), (1, .int va), (0, .ref h0)]) hx hb d_Sha_mixWords_225 rfl hl (by decide) rfl (fun ls hl => ?_)
        refine lv_iload hx hb d_Sha_mixWords_226 (lv_at hl 10 rfl) ?_
        refine lv_iload hx hb d_Sha_mixWords_228 (lv_at hl 7 rfl) ?_
        refine lv_iadd hx hb d_Sha_mixWords_230 ?_
        refine lv_istore_n (lv' := [(1, .int (((((vh + (bg1 ve)) + (chs ve vf vg)) + (shK i)) + (wv i)) + ((bg0 va) + (mjs va vb vc)))), (2, .int va), (3, .int vb), (4, .int vc), (5, .int (vd + ((((vh + (bg1 ve)) + (chs ve vf vg)) + (shK i)) + (wv i)))), (6, .int ve), (7, .int vf), (8, .int vg), (15, .int ((bg0 va) + (mjs va vb vc))), (14, .int (mjs va vb vc)), (13, .int (bg0 va)), (12, .int ((((vh + (bg1 ve)) + (chs ve vf vg)) + (shK i)) + (wv i))), (11, .int (chs ve vf vg)), (10, .int (bg1 ve)), (9, .int (nI i)), (0, .ref h0)]) hx hb d_Sha_mixWords_231 rfl hl (by decide) rfl (fun ls hl => ?_)
        refine lv_iinc (k := 14) (v := nI (i + 1)) (lv' := [(9, .int (nI (i + 1))), (1, .int (((((vh + (bg1 ve)) + (chs ve vf vg)) + (shK i)) + (wv i)) + ((bg0 va) + (mjs va vb vc)))), (2, .int va), (3, .int vb), (4, .int vc), (5, .int (vd + ((((vh + (bg1 ve)) + (chs ve vf vg)) + (shK i)) + (wv i)))), (6, .int ve), (7, .int vf), (8, .int vg), (15, .int ((bg0 va) + (mjs va vb vc))), (14, .int (mjs va vb vc)), (13, .int (bg0 va)), (12, .int ((((vh + (bg1 ve)) + (chs ve vf vg)) + (shK i)) + (wv i))), (11, .int (chs ve vf vg)), (10, .int (bg1 ve)), (0, .ref h0)]) hx hb d_Sha_mixWords_232 hl rfl (iincK i 1) (by decide) rfl (fun ls hl => ?_)
        refine lv_goto hx hb d_Sha_mixWords_235 rfl ?_
        exact ih66 (i + 1) (((((vh + bg1 ve) + chs ve vf vg) + shK i) + wv i) + (bg0 va + mjs va vb vc)) va vb vc (vd + ((((vh + bg1 ve) + chs ve vf vg) + shK i) + wv i)) ve vf vg H locs ls (by omega) (by omega) (by show rd1 (shK i) (wv i) (mx wv (st 0, st 1, st 2, st 3, st 4, st 5, st 6, st 7) i) = _; rw [hinv]; rfl) hP hD hS (lv_sub hl [0, 8, 7, 6, 5, 4, 3, 2, 1, 15] rfl)
  exact hloop66 (64 + 1) 0 (st 0) (st 1) (st 2) (st 3) (st 4) (st 5) (st 6) (st 7) H locs ls (by omega) (by omega) (rfl) hP hD hS (lv_sub hl [0, 1, 2, 3, 4, 5, 6, 7, 8, 9] rfl)

theorem pv_lt {b : Nat → Int32} {n p : Nat} (h : p < n) : pv b n p = (b p &&& nI 255) := if_pos h
theorem pv_eq {b : Nat → Int32} {n p : Nat} (h : p = n) : pv b n p = nI 128 := by subst h; unfold pv; rw [if_neg (by omega), if_pos rfl]
theorem pv_gt {b : Nat → Int32} {n p : Nat} (h : n < p) : pv b n p = nI 0 := by unfold pv; rw [if_neg (by omega), if_neg (by omega)]

set_option maxHeartbeats 4000000 in
set_option maxRecDepth 100000 in
theorem c_Sha_load (l : Launch) (E : En) (h0 a1 a2 g0 Mg o n j : Nat) (wv g : Nat → Int32) (hn : o + n ≤ Mg) (hM : Mg < 2 ^ 30) (hj : j < 2 ^ 20) : CtV l y_Sha_loadWords b_Sha_loadWords 9 (rmd 0) E [.ref h0, .ref g0, .int (nI o), .int (nI n), .int (nI j)] [(h0, .inr (4, [.ref a1, .ref a2])), (a2, .inl (E.2.2.1, 64, .inl wv)), (g0, .inl (E.2.1, Mg, .inl g))] (fun w => w = [(h0, .inr (4, [.ref a1, .ref a2])), (a2, .inl (E.2.2.1, 64, .inl (ldW (fun q => g (o + q)) n j wv 64))), (g0, .inl (E.2.1, Mg, .inl g))]) := by
  refine CtV.of (by decide) (Nat.le_of_ble_eq_true rfl) ?_
  intro p e s m args below meth c A Q H locs ls C hP hD hS hl kret
  have hx := C.1
  have hb := C.2.1
  have hl : lv_has ls 9 [(0, .ref h0), (1, .ref g0), (2, .int (nI o)), (3, .int (nI n)), (4, .int (nI j))] := hl
  refine lv_iconst (v := nI 0) hx hb d_Sha_loadWords_0 (by decide) ?_
  refine lv_istore (lv' := [(5, .int (nI 0)), (0, .ref h0), (1, .ref g0), (2, .int (nI o)), (3, .int (nI n)), (4, .int (nI j))]) hx hb d_Sha_loadWords_1 hl (by decide) rfl (fun ls hl => ?_)
  have hloop3 : ∀ (dd : Nat) (i : Nat) (H : Heap) (locs : List Loc) (ls : Array Slot), 64 - i < dd → (i ≤ 64) → va_P E.1 clz [(h0, .inr (4, [.ref a1, .ref a2])), (a2, .inl (E.2.2.1, 64, .inl (ldW (fun q => g (o + q)) n j wv i))), (g0, .inl (E.2.1, Mg, .inl g))] H → va_D A [(h0, .inr (4, [.ref a1, .ref a2])), (a2, .inl (E.2.2.1, 64, .inl (ldW (fun q => g (o + q)) n j wv i))), (g0, .inl (E.2.1, Mg, .inl g))] → va_S A s.heap H locs → lv_has ls 9 [(5, .int (nI i)), (4, .int (nI j)), (3, .int (nI n)), (2, .int (nI o)), (1, .ref g0), (0, .ref h0)] → W p l e (rmd 0) s m args below meth c H locs 0 0 Q (F0 m 3 ls []) := by
    intro dd
    induction dd with
    | zero => intro i H locs ls hm; exact absurd hm (Nat.not_lt_zero _)
    | succ dd ih3 =>
      intro i H locs ls hm hi hP hD hS hl
      refine lv_iload hx hb d_Sha_loadWords_3 (lv_at hl 0 rfl) ?_
      refine lv_bipush (v := nI 64) hx hb d_Sha_loadWords_5 (by decide) ?_
      refine j_ge C i 64 rfl rfl (by omega) (by omega) d_Sha_loadWords_7 rfl (fun h1 => ?_) (fun h1 => ?_)
      · obtain rfl : i = 64 := by omega
        exact kret [(h0, .inr (4, [.ref a1, .ref a2])), (a2, .inl (E.2.2.1, 64, .inl (ldW (fun q => g (o + q)) n j wv 64))), (g0, .inl (E.2.1, Mg, .inl g))] _ _ _ _ d_Sha_loadWords_88 (rfl) rfl hP hS
      · refine lv_iload hx hb d_Sha_loadWords_10 (lv_at hl 1 rfl) ?_
        refine lv_bipush (v := nI 64) hx hb d_Sha_loadWords_12 (by decide) ?_
        refine lv_imul hx hb d_Sha_loadWords_14 ?_
        refine tope (z := nI (j * 64)) (pk_mul _ _) ?_
        refine lv_iload hx hb d_Sha_loadWords_15 (lv_at hl 0 rfl) ?_
        refine lv_iadd hx hb d_Sha_loadWords_17 ?_
        refine tope (z := nI ((j * 64) + i)) (nI_add _ _) ?_
        refine lv_istore (lv' := [(6, .int (nI ((j * 64) + i))), (5, .int (nI i)), (4, .int (nI j)), (3, .int (nI n)), (2, .int (nI o)), (1, .ref g0), (0, .ref h0)]) hx hb d_Sha_loadWords_18 hl (by decide) rfl (fun ls hl => ?_)
        refine lv_iload hx hb d_Sha_loadWords_20 (lv_at hl 0 rfl) ?_
        refine lv_iload_n hx hb d_Sha_loadWords_22 rfl (lv_at hl 3 rfl) ?_
        refine j_ne C ((j * 64) + i) n rfl rfl (by omega) (by omega) d_Sha_loadWords_23 rfl (fun h2 => ?_) (fun h2 => ?_)
        · refine lv_iconst (v := nI 0) hx hb d_Sha_loadWords_32 (by decide) ?_
          refine lv_istore (lv' := [(7, .int (nI 0)), (6, .int (nI ((j * 64) + i))), (5, .int (nI i)), (4, .int (nI j)), (3, .int (nI n)), (2, .int (nI o)), (1, .ref g0), (0, .ref h0)]) hx hb d_Sha_loadWords_33 hl (by decide) rfl (fun ls hl => ?_)
          refine lv_iload hx hb d_Sha_loadWords_35 (lv_at hl 1 rfl) ?_
          refine lv_iload_n hx hb d_Sha_loadWords_37 rfl (lv_at hl 4 rfl) ?_
          refine j_ge C ((j * 64) + i) n rfl rfl (by omega) (by omega) d_Sha_loadWords_38 rfl (fun h3 => ?_) (fun h3 => ?_)
          · refine lv_iload hx hb d_Sha_loadWords_54 (lv_at hl 0 rfl) ?_
            refine tope (z := pv (fun q => g (o + q)) n (j * 64 + i)) (by first | exact (pv_lt (b := (fun q => g (o + q))) (n := n) (p := j * 64 + i) (by omega)).symm | exact (pv_eq (b := (fun q => g (o + q))) (n := n) (p := j * 64 + i) (by omega)).symm | exact (pv_gt (b := (fun q => g (o + q))) (n := n) (p := j * 64 + i) (by omega)).symm) ?_
            refine lv_istore (lv' := [(8, .int (pv (fun q => g (o + q)) n (j * 64 + i))), (7, .int (nI 0)), (6, .int (nI ((j * 64) + i))), (5, .int (nI i)), (4, .int (nI j)), (3, .int (nI n)), (2, .int (nI o)), (1, .ref g0), (0, .ref h0)]) hx hb d_Sha_loadWords_56 hl (by decide) rfl (fun ls hl => ?_)
            refine lv_aload_n hx hb d_Sha_loadWords_58 rfl (lv_at hl 8 rfl) ?_
            refine n_get C fg_Sha_15 hP 0 rfl rfl d_Sha_loadWords_59 ?_
            refine lv_iload hx hb d_Sha_loadWords_62 (lv_at hl 3 rfl) ?_
            refine lv_iconst (v := nI 4) hx hb d_Sha_loadWords_64 (by decide) ?_
            refine lv_idiv hx hb d_Sha_loadWords_65 (nI_ne0 (by omega) (by omega)) ?_
            refine tope (z := nI (i / 4)) (pk_div (by omega) (by omega) (by omega)) ?_
            refine lv_aload_n hx hb d_Sha_loadWords_66 rfl (lv_at hl 8 rfl) ?_
            refine n_get C fg_Sha_15 hP 0 rfl rfl d_Sha_loadWords_67 ?_
            refine lv_iload hx hb d_Sha_loadWords_70 (lv_at hl 3 rfl) ?_
            refine lv_iconst (v := nI 4) hx hb d_Sha_loadWords_72 (by decide) ?_
            refine lv_idiv hx hb d_Sha_loadWords_73 (nI_ne0 (by omega) (by omega)) ?_
            refine tope (z := nI (i / 4)) (pk_div (by omega) (by omega) (by omega)) ?_
            refine n_iald C hP 1 rfl (i / 4) rfl (by omega) (by omega) d_Sha_loadWords_74 ?_
            refine lv_bipush (v := nI 8) hx hb d_Sha_loadWords_75 (by decide) ?_
            refine lv_ishl hx hb d_Sha_loadWords_77 ?_
            refine lv_iload hx hb d_Sha_loadWords_78 (lv_at hl 0 rfl) ?_
            refine lv_ior hx hb d_Sha_loadWords_80 ?_
            refine n_iast C hP hD hS 1 rfl (i / 4) rfl (by omega) (by omega) d_Sha_loadWords_81 (fun H locs hP hD hS => ?_)
            have hP : va_P E.1 clz [(h0, .inr (4, [.ref a1, .ref a2])), (a2, .inl (E.2.2.1, 64, .inl (upd (ldW (fun q => g (o + q)) n j wv i) (i / 4) ((sl ((ldW (fun q => g (o + q)) n j wv i) (i / 4)) (nI 8)) ||| (pv (fun q => g (o + q)) n (j * 64 + i)))))), (g0, .inl (E.2.1, Mg, .inl g))] H := hP
            have hD : va_D A [(h0, .inr (4, [.ref a1, .ref a2])), (a2, .inl (E.2.2.1, 64, .inl (upd (ldW (fun q => g (o + q)) n j wv i) (i / 4) ((sl ((ldW (fun q => g (o + q)) n j wv i) (i / 4)) (nI 8)) ||| (pv (fun q => g (o + q)) n (j * 64 + i)))))), (g0, .inl (E.2.1, Mg, .inl g))] := hD
            have hP : va_P E.1 clz [(h0, .inr (4, [.ref a1, .ref a2])), (a2, .inl (E.2.2.1, 64, .inl (ldW (fun q => g (o + q)) n j wv (i + 1)))), (g0, .inl (E.2.1, Mg, .inl g))] H := hP
            have hD : va_D A [(h0, .inr (4, [.ref a1, .ref a2])), (a2, .inl (E.2.2.1, 64, .inl (ldW (fun q => g (o + q)) n j wv (i + 1)))), (g0, .inl (E.2.1, Mg, .inl g))] := hD
            refine lv_iinc (k := 3) (v := nI (i + 1)) (lv' := [(5, .int (nI (i + 1))), (8, .int (pv (fun q => g (o + q)) n (j * 64 + i))), (7, .int (nI 0)), (6, .int (nI ((j * 64) + i))), (4, .int (nI j)), (3, .int (nI n)), (2, .int (nI o)), (1, .ref g0), (0, .ref h0)]) hx hb d_Sha_loadWords_82 hl rfl (iincK i 1) (by decide) rfl (fun ls hl => ?_)
            refine lv_goto hx hb d_Sha_loadWords_85 rfl ?_
            exact ih3 (i + 1) H locs ls (by omega) (by omega) hP hD hS (lv_sub hl [0, 4, 5, 6, 7, 8] rfl)
          · refine lv_aload_n hx hb d_Sha_loadWords_41 rfl (lv_at hl 6 rfl) ?_
            refine lv_iload_n hx hb d_Sha_loadWords_42 rfl (lv_at hl 5 rfl) ?_
            refine lv_iload hx hb d_Sha_loadWords_43 (lv_at hl 1 rfl) ?_
            refine lv_iadd hx hb d_Sha_loadWords_45 ?_
            refine tope (z := nI (o + ((j * 64) + i))) (nI_add _ _) ?_
            refine n_bald C hP 2 rfl (o + ((j * 64) + i)) rfl (by omega) (by omega) d_Sha_loadWords_46 ?_
            refine lv_sipush (v := nI 255) hx hb d_Sha_loadWords_47 (by decide) ?_
            refine lv_iand hx hb d_Sha_loadWords_50 ?_
            refine lv_goto hx hb d_Sha_loadWords_51 rfl ?_
            refine tope (z := pv (fun q => g (o + q)) n (j * 64 + i)) (by first | exact (pv_lt (b := (fun q => g (o + q))) (n := n) (p := j * 64 + i) (by omega)).symm | exact (pv_eq (b := (fun q => g (o + q))) (n := n) (p := j * 64 + i) (by omega)).symm | exact (pv_gt (b := (fun q => g (o + q))) (n := n) (p := j * 64 + i) (by omega)).symm) ?_
            refine lv_istore (lv' := [(8, .int (pv (fun q => g (o + q)) n (j * 64 + i))), (7, .int (nI 0)), (6, .int (nI ((j * 64) + i))), (5, .int (nI i)), (4, .int (nI j)), (3, .int (nI n)), (2, .int (nI o)), (1, .ref g0), (0, .ref h0)]) hx hb d_Sha_loadWords_56 hl (by decide) rfl (fun ls hl => ?_)
            refine lv_aload_n hx hb d_Sha_loadWords_58 rfl (lv_at hl 8 rfl) ?_
            refine n_get C fg_Sha_15 hP 0 rfl rfl d_Sha_loadWords_59 ?_
            refine lv_iload hx hb d_Sha_loadWords_62 (lv_at hl 3 rfl) ?_
            refine lv_iconst (v := nI 4) hx hb d_Sha_loadWords_64 (by decide) ?_
            refine lv_idiv hx hb d_Sha_loadWords_65 (nI_ne0 (by omega) (by omega)) ?_
            refine tope (z := nI (i / 4)) (pk_div (by omega) (by omega) (by omega)) ?_
            refine lv_aload_n hx hb d_Sha_loadWords_66 rfl (lv_at hl 8 rfl) ?_
            refine n_get C fg_Sha_15 hP 0 rfl rfl d_Sha_loadWords_67 ?_
            refine lv_iload hx hb d_Sha_loadWords_70 (lv_at hl 3 rfl) ?_
            refine lv_iconst (v := nI 4) hx hb d_Sha_loadWords_72 (by decide) ?_
            refine lv_idiv hx hb d_Sha_loadWords_73 (nI_ne0 (by omega) (by omega)) ?_
            refine tope (z := nI (i / 4)) (pk_div (by omega) (by omega) (by omega)) ?_
            refine n_iald C hP 1 rfl (i / 4) rfl (by omega) (by omega) d_Sha_loadWords_74 ?_
            refine lv_bipush (v := nI 8) hx hb d_Sha_loadWords_75 (by decide) ?_
            refine lv_ishl hx hb d_Sha_loadWords_77 ?_
            refine lv_iload hx hb d_Sha_loadWords_78 (lv_at hl 0 rfl) ?_
            refine lv_ior hx hb d_Sha_loadWords_80 ?_
            refine n_iast C hP hD hS 1 rfl (i / 4) rfl (by omega) (by omega) d_Sha_loadWords_81 (fun H locs hP hD hS => ?_)
            have hP : va_P E.1 clz [(h0, .inr (4, [.ref a1, .ref a2])), (a2, .inl (E.2.2.1, 64, .inl (upd (ldW (fun q => g (o + q)) n j wv i) (i / 4) ((sl ((ldW (fun q => g (o + q)) n j wv i) (i / 4)) (nI 8)) ||| (pv (fun q => g (o + q)) n (j * 64 + i)))))), (g0, .inl (E.2.1, Mg, .inl g))] H := hP
            have hD : va_D A [(h0, .inr (4, [.ref a1, .ref a2])), (a2, .inl (E.2.2.1, 64, .inl (upd (ldW (fun q => g (o + q)) n j wv i) (i / 4) ((sl ((ldW (fun q => g (o + q)) n j wv i) (i / 4)) (nI 8)) ||| (pv (fun q => g (o + q)) n (j * 64 + i)))))), (g0, .inl (E.2.1, Mg, .inl g))] := hD
            have hP : va_P E.1 clz [(h0, .inr (4, [.ref a1, .ref a2])), (a2, .inl (E.2.2.1, 64, .inl (ldW (fun q => g (o + q)) n j wv (i + 1)))), (g0, .inl (E.2.1, Mg, .inl g))] H := hP
            have hD : va_D A [(h0, .inr (4, [.ref a1, .ref a2])), (a2, .inl (E.2.2.1, 64, .inl (ldW (fun q => g (o + q)) n j wv (i + 1)))), (g0, .inl (E.2.1, Mg, .inl g))] := hD
            refine lv_iinc (k := 3) (v := nI (i + 1)) (lv' := [(5, .int (nI (i + 1))), (8, .int (pv (fun q => g (o + q)) n (j * 64 + i))), (7, .int (nI 0)), (6, .int (nI ((j * 64) + i))), (4, .int (nI j)), (3, .int (nI n)), (2, .int (nI o)), (1, .ref g0), (0, .ref h0)]) hx hb d_Sha_loadWords_82 hl rfl (iincK i 1) (by decide) rfl (fun ls hl => ?_)
            refine lv_goto hx hb d_Sha_loadWords_85 rfl ?_
            exact ih3 (i + 1) H locs ls (by omega) (by omega) hP hD hS (lv_sub hl [0, 4, 5, 6, 7, 8] rfl)
        · refine lv_sipush (v := nI 128) hx hb d_Sha_loadWords_26 (by decide) ?_
          refine lv_goto hx hb d_Sha_loadWords_29 rfl ?_
          refine lv_istore (lv' := [(7, .int (nI 128)), (6, .int (nI ((j * 64) + i))), (5, .int (nI i)), (4, .int (nI j)), (3, .int (nI n)), (2, .int (nI o)), (1, .ref g0), (0, .ref h0)]) hx hb d_Sha_loadWords_33 hl (by decide) rfl (fun ls hl => ?_)
          refine lv_iload hx hb d_Sha_loadWords_35 (lv_at hl 1 rfl) ?_
          refine lv_iload_n hx hb d_Sha_loadWords_37 rfl (lv_at hl 4 rfl) ?_
          refine j_ge C ((j * 64) + i) n rfl rfl (by omega) (by omega) d_Sha_loadWords_38 rfl (fun h4 => ?_) (fun h4 => absurd h4 (by omega))
          refine lv_iload hx hb d_Sha_loadWords_54 (lv_at hl 0 rfl) ?_
          refine tope (z := pv (fun q => g (o + q)) n (j * 64 + i)) (by first | exact (pv_lt (b := (fun q => g (o + q))) (n := n) (p := j * 64 + i) (by omega)).symm | exact (pv_eq (b := (fun q => g (o + q))) (n := n) (p := j * 64 + i) (by omega)).symm | exact (pv_gt (b := (fun q => g (o + q))) (n := n) (p := j * 64 + i) (by omega)).symm) ?_
          refine lv_istore (lv' := [(8, .int (pv (fun q => g (o + q)) n (j * 64 + i))), (7, .int (nI 128)), (6, .int (nI ((j * 64) + i))), (5, .int (nI i)), (4, .int (nI j)), (3, .int (nI n)), (2, .int (nI o)), (1, .ref g0), (0, .ref h0)]) hx hb d_Sha_loadWords_56 hl (by decide) rfl (fun ls hl => ?_)
          refine lv_aload_n hx hb d_Sha_loadWords_58 rfl (lv_at hl 8 rfl) ?_
          refine n_get C fg_Sha_15 hP 0 rfl rfl d_Sha_loadWords_59 ?_
          refine lv_iload hx hb d_Sha_loadWords_62 (lv_at hl 3 rfl) ?_
          refine lv_iconst (v := nI 4) hx hb d_Sha_loadWords_64 (by decide) ?_
          refine lv_idiv hx hb d_Sha_loadWords_65 (nI_ne0 (by omega) (by omega)) ?_
          refine tope (z := nI (i / 4)) (pk_div (by omega) (by omega) (by omega)) ?_
          refine lv_aload_n hx hb d_Sha_loadWords_66 rfl (lv_at hl 8 rfl) ?_
          refine n_get C fg_Sha_15 hP 0 rfl rfl d_Sha_loadWords_67 ?_
          refine lv_iload hx hb d_Sha_loadWords_70 (lv_at hl 3 rfl) ?_
          refine lv_iconst (v := nI 4) hx hb d_Sha_loadWords_72 (by decide) ?_
          refine lv_idiv hx hb d_Sha_loadWords_73 (nI_ne0 (by omega) (by omega)) ?_
          refine tope (z := nI (i / 4)) (pk_div (by omega) (by omega) (by omega)) ?_
          refine n_iald C hP 1 rfl (i / 4) rfl (by omega) (by omega) d_Sha_loadWords_74 ?_
          refine lv_bipush (v := nI 8) hx hb d_Sha_loadWords_75 (by decide) ?_
          refine lv_ishl hx hb d_Sha_loadWords_77 ?_
          refine lv_iload hx hb d_Sha_loadWords_78 (lv_at hl 0 rfl) ?_
          refine lv_ior hx hb d_Sha_loadWords_80 ?_
          refine n_iast C hP hD hS 1 rfl (i / 4) rfl (by omega) (by omega) d_Sha_loadWords_81 (fun H locs hP hD hS => ?_)
          have hP : va_P E.1 clz [(h0, .inr (4, [.ref a1, .ref a2])), (a2, .inl (E.2.2.1, 64, .inl (upd (ldW (fun q => g (o + q)) n j wv i) (i / 4) ((sl ((ldW (fun q => g (o + q)) n j wv i) (i / 4)) (nI 8)) ||| (pv (fun q => g (o + q)) n (j * 64 + i)))))), (g0, .inl (E.2.1, Mg, .inl g))] H := hP
          have hD : va_D A [(h0, .inr (4, [.ref a1, .ref a2])), (a2, .inl (E.2.2.1, 64, .inl (upd (ldW (fun q => g (o + q)) n j wv i) (i / 4) ((sl ((ldW (fun q => g (o + q)) n j wv i) (i / 4)) (nI 8)) ||| (pv (fun q => g (o + q)) n (j * 64 + i)))))), (g0, .inl (E.2.1, Mg, .inl g))] := hD
          have hP : va_P E.1 clz [(h0, .inr (4, [.ref a1, .ref a2])), (a2, .inl (E.2.2.1, 64, .inl (ldW (fun q => g (o + q)) n j wv (i + 1)))), (g0, .inl (E.2.1, Mg, .inl g))] H := hP
          have hD : va_D A [(h0, .inr (4, [.ref a1, .ref a2])), (a2, .inl (E.2.2.1, 64, .inl (ldW (fun q => g (o + q)) n j wv (i + 1)))), (g0, .inl (E.2.1, Mg, .inl g))] := hD
          refine lv_iinc (k := 3) (v := nI (i + 1)) (lv' := [(5, .int (nI (i + 1))), (8, .int (pv (fun q => g (o + q)) n (j * 64 + i))), (7, .int (nI 128)), (6, .int (nI ((j * 64) + i))), (4, .int (nI j)), (3, .int (nI n)), (2, .int (nI o)), (1, .ref g0), (0, .ref h0)]) hx hb d_Sha_loadWords_82 hl rfl (iincK i 1) (by decide) rfl (fun ls hl => ?_)
          refine lv_goto hx hb d_Sha_loadWords_85 rfl ?_
          exact ih3 (i + 1) H locs ls (by omega) (by omega) hP hD hS (lv_sub hl [0, 4, 5, 6, 7, 8] rfl)
  exact hloop3 (64 + 1) 0 H locs ls (by omega) (by omega) hP hD hS (lv_sub hl [0, 5, 4, 3, 2, 1] rfl)
end
section
theorem wds_last {b : Nat → Int32} {n j : Nat} {w : Nat → Int32} (h : j = (n + 8) / 64) : ∀ k, k < 16 → upd (ldW b n j w 64) 15 (nI (n * 8)) k = wds b n j k := by
  intro k hk
  unfold upd wds
  by_cases h2 : k = 15
  · rw [if_pos h2, if_pos ⟨h, h2⟩]
  · rw [if_neg h2, if_neg (fun q => h2 q.2)]
    exact ldW_all hk
theorem wds_not {b : Nat → Int32} {n j : Nat} {w : Nat → Int32} (h : ¬ j = (n + 8) / 64) : ∀ k, k < 16 → ldW b n j w 64 k = wds b n j k := by
  intro k hk
  unfold wds
  rw [if_neg (fun q => h q.1)]
  exact ldW_all hk
theorem st_step {b X st : Nat → Int32} {n j : Nat} (hX : ∀ k, k < 16 → X k = wds b n j k) (h : ∀ k, k < 8 → st k = stN b n j k) : ∀ k, k < 8 → blkF (exW X 48) st k = stN b n (j + 1) k :=
  blkF_congr (fun k hk => exW_congr hX 48 k hk) h
theorem st_0 {b st : Nat → Int32} {n : Nat} : ∀ k, k < 8 → va_cpy shS st 0 0 8 k = stN b n 0 k := by
  intro k hk
  rw [pk_cpy_in (by omega) (by omega), Nat.zero_add, Nat.sub_zero]
  rfl
theorem cpy_step {S t : Nat → Int32} {d i : Nat} {v : Int32} (h : v = S i) : upd (va_cpy S t 0 d i) (d + i) v = va_cpy S t 0 d (i + 1) := by
  have := cpy_succ S t 0 d i
  rw [Nat.zero_add] at this
  rw [h]; exact this
theorem cpy_cpy (f f' g : Nat → Int32) (d n : Nat) : va_cpy f (va_cpy f' g 0 d n) 0 d n = va_cpy f g 0 d n := by
  funext j
  unfold va_cpy
  split
  · rfl
  · rfl
def hashF (b : Nat → Int32) (n : Nat) : Nat → Int32 := shaF (shaF b n) 32
theorem hashF_B (b : Nat → Int32) (n : Nat) : fB (hashF b n) := shaF_B _ _
theorem hash_back (S t : Nat → Int32) (d : Nat) : va_cpy (shaF (fun q => va_cpy S t 0 d 32 (d + q)) 32) (va_cpy S t 0 d 32) 0 d 32 = va_cpy (shaF S 32) t 0 d 32 := by
  rw [cpy_cpy, shaF_congr (b' := S)]
  intro j hj
  rw [pk_cpy_in (by omega) (by omega)]
  congr 1
  omega

set_option maxHeartbeats 4000000 in
set_option maxRecDepth 100000 in
theorem c_Sha_digest (l : Launch) (E : En) (h0 a1 a2 g0 Mg o n ta : Nat) (st wv g : Nat → Int32) (t0 Mt : Nat) (t : Nat → Int32) (hn : o + n ≤ Mg) (hM : Mg < 2 ^ 20) (hta : ta + 32 ≤ Mt) (hMt : Mt < 2 ^ 20) : CtV l y_Sha_digest b_Sha_digest 8 (rmd 1) E [.ref h0, .ref g0, .int (nI o), .int (nI n), .ref t0, .int (nI ta)] [(h0, .inr (4, [.ref a1, .ref a2])), (a1, .inl (E.2.2.1, 8, .inl st)), (a2, .inl (E.2.2.1, 64, .inl wv)), (g0, .inl (E.2.1, Mg, .inl g)), (t0, .inl (E.2.1, Mt, .inl t))] (fun w => ∃ (s1 w1 : Nat → Int32), w = [(h0, .inr (4, [.ref a1, .ref a2])), (a1, .inl (E.2.2.1, 8, .inl s1)), (a2, .inl (E.2.2.1, 64, .inl w1)), (g0, .inl (E.2.1, Mg, .inl g)), (t0, .inl (E.2.1, Mt, .inl (va_cpy (shaF (fun q => g (o + q)) n) t 0 ta 32)))]) := by
  refine CtV.of (by decide) (Nat.le_of_ble_eq_true rfl) ?_
  intro p e s m args below meth c A Q H locs ls C hP hD hS hl kret
  have hx := C.1
  have hb := C.2.1
  have hl : lv_has ls 8 [(0, .ref h0), (1, .ref g0), (2, .int (nI o)), (3, .int (nI n)), (4, .ref t0), (5, .int (nI ta))] := hl
  refine n_gets C fl_Sha_22 C.2.2.2.2.2.2.1.1.1 hS d_Sha_digest_0 ?_
  refine lv_iconst (v := nI 0) hx hb d_Sha_digest_3 (by decide) ?_
  refine lv_aload_n hx hb d_Sha_digest_4 rfl (lv_at hl 0 rfl) ?_
  refine n_get C fg_Sha_9 hP 0 rfl rfl d_Sha_digest_5 ?_
  refine lv_iconst (v := nI 0) hx hb d_Sha_digest_8 (by decide) ?_
  refine lv_aload_n hx hb d_Sha_digest_9 rfl (lv_at hl 0 rfl) ?_
  refine n_get C fg_Sha_9 hP 0 rfl rfl d_Sha_digest_10 ?_
  refine n_alenI C hP 1 rfl d_Sha_digest_13 ?_
  refine n_cpyT C lk_Sha_25 hP hD hS (C.2.2.2.2.2.2.1.1.2) 1 rfl 8 rfl rfl rfl (by omega) (by omega) (by omega) hl.1 (by decide) (by decide) d_Sha_digest_14 (fun H locs hP hD hS => ?_)
  have hP : va_P E.1 clz [(h0, .inr (4, [.ref a1, .ref a2])), (a1, .inl (E.2.2.1, 8, .inl (va_cpy shS st 0 0 8))), (a2, .inl (E.2.2.1, 64, .inl wv)), (g0, .inl (E.2.1, Mg, .inl g)), (t0, .inl (E.2.1, Mt, .inl t))] H := hP
  have hD : va_D A [(h0, .inr (4, [.ref a1, .ref a2])), (a1, .inl (E.2.2.1, 8, .inl (va_cpy shS st 0 0 8))), (a2, .inl (E.2.2.1, 64, .inl wv)), (g0, .inl (E.2.1, Mg, .inl g)), (t0, .inl (E.2.1, Mt, .inl t))] := hD
  refine lv_iload_n hx hb d_Sha_digest_17 rfl (lv_at hl 3 rfl) ?_
  refine lv_bipush (v := nI 8) hx hb d_Sha_digest_18 (by decide) ?_
  refine lv_iadd hx hb d_Sha_digest_20 ?_
  refine tope (z := nI (n + 8)) (nI_add _ _) ?_
  refine lv_bipush (v := nI 64) hx hb d_Sha_digest_21 (by decide) ?_
  refine lv_idiv hx hb d_Sha_digest_23 (nI_ne0 (by omega) (by omega)) ?_
  refine tope (z := nI ((n + 8) / 64)) (pk_div (by omega) (by omega) (by omega)) ?_
  refine lv_istore (lv' := [(6, .int (nI ((n + 8) / 64))), (0, .ref h0), (1, .ref g0), (2, .int (nI o)), (3, .int (nI n)), (4, .ref t0), (5, .int (nI ta))]) hx hb d_Sha_digest_24 hl (by decide) rfl (fun ls hl => ?_)
  refine lv_iconst (v := nI 0) hx hb d_Sha_digest_26 (by decide) ?_
  refine lv_istore (lv' := [(7, .int (nI 0)), (6, .int (nI ((n + 8) / 64))), (0, .ref h0), (1, .ref g0), (2, .int (nI o)), (3, .int (nI n)), (4, .ref t0), (5, .int (nI ta))]) hx hb d_Sha_digest_27 hl (by decide) rfl (fun ls hl => ?_)
  have hloop29 : ∀ (dd : Nat) (j : Nat) (sv : Nat → Int32) (wy : Nat → Int32) (H : Heap) (locs : List Loc) (ls : Array Slot), (n + 8) / 64 + 1 - j < dd → (j ≤ (n + 8) / 64 + 1) → (∀ k, k < 8 → sv k = stN (fun q => g (o + q)) n j k) → va_P E.1 clz [(h0, .inr (4, [.ref a1, .ref a2])), (a1, .inl (E.2.2.1, 8, .inl sv)), (a2, .inl (E.2.2.1, 64, .inl wy)), (g0, .inl (E.2.1, Mg, .inl g)), (t0, .inl (E.2.1, Mt, .inl t))] H → va_D A [(h0, .inr (4, [.ref a1, .ref a2])), (a1, .inl (E.2.2.1, 8, .inl sv)), (a2, .inl (E.2.2.1, 64, .inl wy)), (g0, .inl (E.2.1, Mg, .inl g)), (t0, .inl (E.2.1, Mt, .inl t))] → va_S A s.heap H locs → lv_has ls 8 [(7, .int (nI j)), (6, .int (nI ((n + 8) / 64))), (5, .int (nI ta)), (4, .ref t0), (3, .int (nI n)), (2, .int (nI o)), (1, .ref g0), (0, .ref h0)] → W p l e (rmd 1) s m args below meth c H locs 0 0 Q (F0 m 29 ls []) := by
    intro dd
    induction dd with
    | zero => intro j sv wy H locs ls hm; exact absurd hm (Nat.not_lt_zero _)
    | succ dd ih29 =>
      intro j sv wy H locs ls hm hj hst hP hD hS hl
      refine lv_iload hx hb d_Sha_digest_29 (lv_at hl 0 rfl) ?_
      refine lv_iload hx hb d_Sha_digest_31 (lv_at hl 1 rfl) ?_
      refine j_gt C j ((n + 8) / 64) rfl rfl (by omega) (by omega) d_Sha_digest_33 rfl (fun h1 => ?_) (fun h1 => ?_)
      · refine lv_iconst (v := nI 0) hx hb d_Sha_digest_77 (by decide) ?_
        refine lv_istore (lv' := [(7, .int (nI 0)), (6, .int (nI ((n + 8) / 64))), (5, .int (nI ta)), (4, .ref t0), (3, .int (nI n)), (2, .int (nI o)), (1, .ref g0), (0, .ref h0)]) hx hb d_Sha_digest_78 hl (by decide) rfl (fun ls hl => ?_)
        have hst : ∀ k, k < 8 → sv k = stN (fun q => g (o + q)) n (lstB n + 1) k := by rw [show lstB n + 1 = j by unfold lstB; omega]; exact hst
        rw [← cpy_zero (shaF (fun q => g (o + q)) n) t 0 ta] at hP hD
        have hloop80 : ∀ (dd : Nat) (i : Nat) (H : Heap) (locs : List Loc) (ls : Array Slot), 32 - i < dd → (i ≤ 32) → va_P E.1 clz [(h0, .inr (4, [.ref a1, .ref a2])), (a1, .inl (E.2.2.1, 8, .inl sv)), (a2, .inl (E.2.2.1, 64, .inl wy)), (g0, .inl (E.2.1, Mg, .inl g)), (t0, .inl (E.2.1, Mt, .inl (va_cpy (shaF (fun q => g (o + q)) n) t 0 ta i)))] H → va_D A [(h0, .inr (4, [.ref a1, .ref a2])), (a1, .inl (E.2.2.1, 8, .inl sv)), (a2, .inl (E.2.2.1, 64, .inl wy)), (g0, .inl (E.2.1, Mg, .inl g)), (t0, .inl (E.2.1, Mt, .inl (va_cpy (shaF (fun q => g (o + q)) n) t 0 ta i)))] → va_S A s.heap H locs → lv_has ls 8 [(7, .int (nI i)), (5, .int (nI ta)), (4, .ref t0), (3, .int (nI n)), (2, .int (nI o)), (1, .ref g0), (0, .ref h0)] → W p l e (rmd 1) s m args below meth c H locs 0 0 Q (F0 m 80 ls []) := by
          intro dd
          induction dd with
          | zero => intro i H locs ls hm; exact absurd hm (Nat.not_lt_zero _)
          | succ dd ih80 =>
            intro i H locs ls hm hi hP hD hS hl
            refine lv_iload hx hb d_Sha_digest_80 (lv_at hl 0 rfl) ?_
            refine lv_bipush (v := nI 32) hx hb d_Sha_digest_82 (by decide) ?_
            refine j_ge C i 32 rfl rfl (by omega) (by omega) d_Sha_digest_84 rfl (fun h2 => ?_) (fun h2 => ?_)
            · obtain rfl : i = 32 := by omega
              exact kret [(h0, .inr (4, [.ref a1, .ref a2])), (a1, .inl (E.2.2.1, 8, .inl sv)), (a2, .inl (E.2.2.1, 64, .inl wy)), (g0, .inl (E.2.1, Mg, .inl g)), (t0, .inl (E.2.1, Mt, .inl (va_cpy (shaF (fun q => g (o + q)) n) t 0 ta 32)))] _ _ _ _ d_Sha_digest_122 (⟨_, _, rfl⟩) rfl hP hS
            · refine lv_aload hx hb d_Sha_digest_87 (lv_at hl 2 rfl) ?_
              refine lv_iload hx hb d_Sha_digest_89 (lv_at hl 1 rfl) ?_
              refine lv_iload hx hb d_Sha_digest_91 (lv_at hl 0 rfl) ?_
              refine lv_iadd hx hb d_Sha_digest_93 ?_
              refine tope (z := nI (ta + i)) (nI_add _ _) ?_
              refine lv_aload_n hx hb d_Sha_digest_94 rfl (lv_at hl 6 rfl) ?_
              refine n_get C fg_Sha_9 hP 0 rfl rfl d_Sha_digest_95 ?_
              refine lv_iload hx hb d_Sha_digest_98 (lv_at hl 0 rfl) ?_
              refine lv_iconst (v := nI 4) hx hb d_Sha_digest_100 (by decide) ?_
              refine lv_idiv hx hb d_Sha_digest_101 (nI_ne0 (by omega) (by omega)) ?_
              refine tope (z := nI (i / 4)) (pk_div (by omega) (by omega) (by omega)) ?_
              refine n_iald C hP 1 rfl (i / 4) rfl (by omega) (by omega) d_Sha_digest_102 ?_
              refine lv_bipush (v := nI 24) hx hb d_Sha_digest_103 (by decide) ?_
              refine lv_iload hx hb d_Sha_digest_105 (lv_at hl 0 rfl) ?_
              refine lv_iconst (v := nI 4) hx hb d_Sha_digest_107 (by decide) ?_
              refine lv_irem hx hb d_Sha_digest_108 (nI_ne0 (by omega) (by omega)) ?_
              refine tope (z := nI (i % 4)) (pk_rem (by omega) (by omega) (by omega)) ?_
              refine lv_bipush (v := nI 8) hx hb d_Sha_digest_109 (by decide) ?_
              refine lv_imul hx hb d_Sha_digest_111 ?_
              refine tope (z := nI ((i % 4) * 8)) (pk_mul _ _) ?_
              refine lv_isub hx hb d_Sha_digest_112 ?_
              refine tope (z := nI (24 - ((i % 4) * 8))) (pk_sub (by omega)) ?_
              refine lv_iushr (v := us (sv (i / 4)) (nI (24 - ((i % 4) * 8)))) hx hb d_Sha_digest_113 rfl ?_
              refine lv_i2b (v := nb (us (sv (i / 4)) (nI (24 - ((i % 4) * 8))))) hx hb d_Sha_digest_114 rfl ?_
              refine n_bast (z := nb (us (sv (i / 4)) (nI (24 - ((i % 4) * 8))))) C hP hD hS 4 rfl (ta + i) rfl (nb_nb _) (by omega) (by omega) d_Sha_digest_115 (fun H locs hP hD hS => ?_)
              have hP : va_P E.1 clz [(h0, .inr (4, [.ref a1, .ref a2])), (a1, .inl (E.2.2.1, 8, .inl sv)), (a2, .inl (E.2.2.1, 64, .inl wy)), (g0, .inl (E.2.1, Mg, .inl g)), (t0, .inl (E.2.1, Mt, .inl (upd (va_cpy (shaF (fun q => g (o + q)) n) t 0 ta i) (ta + i) (nb (us (sv (i / 4)) (nI (24 - ((i % 4) * 8))))))))] H := hP
              have hD : va_D A [(h0, .inr (4, [.ref a1, .ref a2])), (a1, .inl (E.2.2.1, 8, .inl sv)), (a2, .inl (E.2.2.1, 64, .inl wy)), (g0, .inl (E.2.1, Mg, .inl g)), (t0, .inl (E.2.1, Mt, .inl (upd (va_cpy (shaF (fun q => g (o + q)) n) t 0 ta i) (ta + i) (nb (us (sv (i / 4)) (nI (24 - ((i % 4) * 8))))))))] := hD
              rw [cpy_step (S := shaF (fun q => g (o + q)) n) (t := t) (d := ta) (i := i) (by show nb _ = nb _; rw [← hst (i / 4) (by omega)])] at hP hD
              have hP : va_P E.1 clz [(h0, .inr (4, [.ref a1, .ref a2])), (a1, .inl (E.2.2.1, 8, .inl sv)), (a2, .inl (E.2.2.1, 64, .inl wy)), (g0, .inl (E.2.1, Mg, .inl g)), (t0, .inl (E.2.1, Mt, .inl (va_cpy (shaF (fun q => g (o + q)) n) t 0 ta (i + 1))))] H := hP
              have hD : va_D A [(h0, .inr (4, [.ref a1, .ref a2])), (a1, .inl (E.2.2.1, 8, .inl sv)), (a2, .inl (E.2.2.1, 64, .inl wy)), (g0, .inl (E.2.1, Mg, .inl g)), (t0, .inl (E.2.1, Mt, .inl (va_cpy (shaF (fun q => g (o + q)) n) t 0 ta (i + 1))))] := hD
              refine lv_iinc (k := 0) (v := nI (i + 1)) (lv' := [(7, .int (nI (i + 1))), (5, .int (nI ta)), (4, .ref t0), (3, .int (nI n)), (2, .int (nI o)), (1, .ref g0), (0, .ref h0)]) hx hb d_Sha_digest_116 hl rfl (iincK i 1) (by decide) rfl (fun ls hl => ?_)
              refine lv_goto hx hb d_Sha_digest_119 rfl ?_
              exact ih80 (i + 1) H locs ls (by omega) (by omega) hP hD hS (lv_sub hl [0, 1, 2, 3, 4, 5, 6] rfl)
        exact hloop80 (32 + 1) 0 H locs ls (by omega) (by omega) hP hD hS (lv_sub hl [0, 2, 3, 4, 5, 6, 7] rfl)
      · refine lv_aload_n hx hb d_Sha_digest_36 rfl (lv_at hl 7 rfl) ?_
        refine lv_aload_n hx hb d_Sha_digest_37 rfl (lv_at hl 6 rfl) ?_
        refine lv_iload_n hx hb d_Sha_digest_38 rfl (lv_at hl 5 rfl) ?_
        refine lv_iload_n hx hb d_Sha_digest_39 rfl (lv_at hl 4 rfl) ?_
        refine lv_iload hx hb d_Sha_digest_40 (lv_at hl 0 rfl) ?_
        refine cal_V (As := [.ref g0, .int (nI o), .int (nI n), .int (nI j)]) (rest := []) C lk_Sha_31 (c_Sha_load l E h0 a1 a2 g0 Mg o n j wy g (by omega) (by omega) (by omega)) (by decide) hP hD hS 0 4 rfl rfl [0, 2, 3] rfl (by decide) hl.1 rfl (Nat.le_of_ble_eq_true rfl) d_Sha_digest_42 (fun w1 H locs hp4 hP hD hS => ?_)
        obtain rfl := hp4
        have hP : va_P E.1 clz [(h0, .inr (4, [.ref a1, .ref a2])), (a1, .inl (E.2.2.1, 8, .inl sv)), (a2, .inl (E.2.2.1, 64, .inl (ldW (fun q => g (o + q)) n j wy 64))), (g0, .inl (E.2.1, Mg, .inl g)), (t0, .inl (E.2.1, Mt, .inl t))] H := hP
        have hD : va_D A [(h0, .inr (4, [.ref a1, .ref a2])), (a1, .inl (E.2.2.1, 8, .inl sv)), (a2, .inl (E.2.2.1, 64, .inl (ldW (fun q => g (o + q)) n j wy 64))), (g0, .inl (E.2.1, Mg, .inl g)), (t0, .inl (E.2.1, Mt, .inl t))] := hD
        refine lv_iload hx hb d_Sha_digest_45 (lv_at hl 0 rfl) ?_
        refine lv_iload hx hb d_Sha_digest_47 (lv_at hl 1 rfl) ?_
        refine j_ne C j ((n + 8) / 64) rfl rfl (by omega) (by omega) d_Sha_digest_49 rfl (fun h5 => ?_) (fun h5 => ?_)
        · refine lv_aload_n hx hb d_Sha_digest_63 rfl (lv_at hl 7 rfl) ?_
          refine cal_V (As := []) (rest := []) C lk_Sha_35 (c_Sha_extend l E h0 a1 a2 (ldW (fun q => g (o + q)) n j wy 64)) (by decide) hP hD hS 0 4 rfl rfl [0, 2] rfl (by decide) hl.1 rfl (Nat.le_of_ble_eq_true rfl) d_Sha_digest_64 (fun w1 H locs hp7 hP hD hS => ?_)
          obtain rfl := hp7
          have hP : va_P E.1 clz [(h0, .inr (4, [.ref a1, .ref a2])), (a1, .inl (E.2.2.1, 8, .inl sv)), (a2, .inl (E.2.2.1, 64, .inl (exW (ldW (fun q => g (o + q)) n j wy 64) 48))), (g0, .inl (E.2.1, Mg, .inl g)), (t0, .inl (E.2.1, Mt, .inl t))] H := hP
          have hD : va_D A [(h0, .inr (4, [.ref a1, .ref a2])), (a1, .inl (E.2.2.1, 8, .inl sv)), (a2, .inl (E.2.2.1, 64, .inl (exW (ldW (fun q => g (o + q)) n j wy 64) 48))), (g0, .inl (E.2.1, Mg, .inl g)), (t0, .inl (E.2.1, Mt, .inl t))] := hD
          refine lv_aload_n hx hb d_Sha_digest_67 rfl (lv_at hl 7 rfl) ?_
          refine cal_V (As := []) (rest := []) C lk_Sha_38 (c_Sha_mix l E h0 a1 a2 sv (exW (ldW (fun q => g (o + q)) n j wy 64) 48)) (by decide) hP hD hS 0 4 rfl rfl [0, 1, 2] rfl (by decide) hl.1 rfl (Nat.le_of_ble_eq_true rfl) d_Sha_digest_68 (fun w1 H locs hp9 hP hD hS => ?_)
          obtain rfl := hp9
          have hP : va_P E.1 clz [(h0, .inr (4, [.ref a1, .ref a2])), (a1, .inl (E.2.2.1, 8, .inl (blkF (exW (ldW (fun q => g (o + q)) n j wy 64) 48) sv))), (a2, .inl (E.2.2.1, 64, .inl (exW (ldW (fun q => g (o + q)) n j wy 64) 48))), (g0, .inl (E.2.1, Mg, .inl g)), (t0, .inl (E.2.1, Mt, .inl t))] H := hP
          have hD : va_D A [(h0, .inr (4, [.ref a1, .ref a2])), (a1, .inl (E.2.2.1, 8, .inl (blkF (exW (ldW (fun q => g (o + q)) n j wy 64) 48) sv))), (a2, .inl (E.2.2.1, 64, .inl (exW (ldW (fun q => g (o + q)) n j wy 64) 48))), (g0, .inl (E.2.1, Mg, .inl g)), (t0, .inl (E.2.1, Mt, .inl t))] := hD
          refine lv_iinc (k := 0) (v := nI (j + 1)) (lv' := [(7, .int (nI (j + 1))), (6, .int (nI ((n + 8) / 64))), (5, .int (nI ta)), (4, .ref t0), (3, .int (nI n)), (2, .int (nI o)), (1, .ref g0), (0, .ref h0)]) hx hb d_Sha_digest_71 hl rfl (iincK j 1) (by decide) rfl (fun ls hl => ?_)
          refine lv_goto hx hb d_Sha_digest_74 rfl ?_
          exact ih29 (j + 1) (blkF (exW (ldW (fun q => g (o + q)) n j wy 64) 48) sv) (exW (ldW (fun q => g (o + q)) n j wy 64) 48) H locs ls (by omega) (by omega) (st_step (wds_not (by omega)) hst) hP hD hS (lv_sub hl [0, 1, 2, 3, 4, 5, 6, 7] rfl)
        · refine lv_aload_n hx hb d_Sha_digest_52 rfl (lv_at hl 7 rfl) ?_
          refine n_get C fg_Sha_15 hP 0 rfl rfl d_Sha_digest_53 ?_
          refine lv_bipush (v := nI 15) hx hb d_Sha_digest_56 (by decide) ?_
          refine lv_iload_n hx hb d_Sha_digest_58 rfl (lv_at hl 4 rfl) ?_
          refine lv_bipush (v := nI 8) hx hb d_Sha_digest_59 (by decide) ?_
          refine lv_imul hx hb d_Sha_digest_61 ?_
          refine tope (z := nI (n * 8)) (pk_mul _ _) ?_
          refine n_iast C hP hD hS 2 rfl 15 rfl (by omega) (by omega) d_Sha_digest_62 (fun H locs hP hD hS => ?_)
          have hP : va_P E.1 clz [(h0, .inr (4, [.ref a1, .ref a2])), (a1, .inl (E.2.2.1, 8, .inl sv)), (a2, .inl (E.2.2.1, 64, .inl (upd (ldW (fun q => g (o + q)) n j wy 64) 15 (nI (n * 8))))), (g0, .inl (E.2.1, Mg, .inl g)), (t0, .inl (E.2.1, Mt, .inl t))] H := hP
          have hD : va_D A [(h0, .inr (4, [.ref a1, .ref a2])), (a1, .inl (E.2.2.1, 8, .inl sv)), (a2, .inl (E.2.2.1, 64, .inl (upd (ldW (fun q => g (o + q)) n j wy 64) 15 (nI (n * 8))))), (g0, .inl (E.2.1, Mg, .inl g)), (t0, .inl (E.2.1, Mt, .inl t))] := hD
          refine lv_aload_n hx hb d_Sha_digest_63 rfl (lv_at hl 7 rfl) ?_
          refine cal_V (As := []) (rest := []) C lk_Sha_35 (c_Sha_extend l E h0 a1 a2 (upd (ldW (fun q => g (o + q)) n j wy 64) 15 (nI (n * 8)))) (by decide) hP hD hS 0 4 rfl rfl [0, 2] rfl (by decide) hl.1 rfl (Nat.le_of_ble_eq_true rfl) d_Sha_digest_64 (fun w1 H locs hp11 hP hD hS => ?_)
          obtain rfl := hp11
          have hP : va_P E.1 clz [(h0, .inr (4, [.ref a1, .ref a2])), (a1, .inl (E.2.2.1, 8, .inl sv)), (a2, .inl (E.2.2.1, 64, .inl (exW (upd (ldW (fun q => g (o + q)) n j wy 64) 15 (nI (n * 8))) 48))), (g0, .inl (E.2.1, Mg, .inl g)), (t0, .inl (E.2.1, Mt, .inl t))] H := hP
          have hD : va_D A [(h0, .inr (4, [.ref a1, .ref a2])), (a1, .inl (E.2.2.1, 8, .inl sv)), (a2, .inl (E.2.2.1, 64, .inl (exW (upd (ldW (fun q => g (o + q)) n j wy 64) 15 (nI (n * 8))) 48))), (g0, .inl (E.2.1, Mg, .inl g)), (t0, .inl (E.2.1, Mt, .inl t))] := hD
          refine lv_aload_n hx hb d_Sha_digest_67 rfl (lv_at hl 7 rfl) ?_
          refine cal_V (As := []) (rest := []) C lk_Sha_38 (c_Sha_mix l E h0 a1 a2 sv (exW (upd (ldW (fun q => g (o + q)) n j wy 64) 15 (nI (n * 8))) 48)) (by decide) hP hD hS 0 4 rfl rfl [0, 1, 2] rfl (by decide) hl.1 rfl (Nat.le_of_ble_eq_true rfl) d_Sha_digest_68 (fun w1 H locs hp13 hP hD hS => ?_)
          obtain rfl := hp13
          have hP : va_P E.1 clz [(h0, .inr (4, [.ref a1, .ref a2])), (a1, .inl (E.2.2.1, 8, .inl (blkF (exW (upd (ldW (fun q => g (o + q)) n j wy 64) 15 (nI (n * 8))) 48) sv))), (a2, .inl (E.2.2.1, 64, .inl (exW (upd (ldW (fun q => g (o + q)) n j wy 64) 15 (nI (n * 8))) 48))), (g0, .inl (E.2.1, Mg, .inl g)), (t0, .inl (E.2.1, Mt, .inl t))] H := hP
          have hD : va_D A [(h0, .inr (4, [.ref a1, .ref a2])), (a1, .inl (E.2.2.1, 8, .inl (blkF (exW (upd (ldW (fun q => g (o + q)) n j wy 64) 15 (nI (n * 8))) 48) sv))), (a2, .inl (E.2.2.1, 64, .inl (exW (upd (ldW (fun q => g (o + q)) n j wy 64) 15 (nI (n * 8))) 48))), (g0, .inl (E.2.1, Mg, .inl g)), (t0, .inl (E.2.1, Mt, .inl t))] := hD
          refine lv_iinc (k := 0) (v := nI (j + 1)) (lv' := [(7, .int (nI (j + 1))), (6, .int (nI ((n + 8) / 64))), (5, .int (nI ta)), (4, .ref t0), (3, .int (nI n)), (2, .int (nI o)), (1, .ref g0), (0, .ref h0)]) hx hb d_Sha_digest_71 hl rfl (iincK j 1) (by decide) rfl (fun ls hl => ?_)
          refine lv_goto hx hb d_Sha_digest_74 rfl ?_
          exact ih29 (j + 1) (blkF (exW (upd (ldW (fun q => g (o + q)) n j wy 64) 15 (nI (n * 8))) 48) sv) (exW (upd (ldW (fun q => g (o + q)) n j wy 64) 15 (nI (n * 8))) 48) H locs ls (by omega) (by omega) (st_step (wds_last (by omega)) hst) hP hD hS (lv_sub hl [0, 1, 2, 3, 4, 5, 6, 7] rfl)
  exact hloop29 ((n + 8) / 64 + 1 + 1) 0 (va_cpy shS st 0 0 8) wv H locs ls (by omega) (by omega) (st_0) hP hD hS (lv_sub hl [0, 1, 7, 6, 5, 4, 3, 2] rfl)

set_option maxHeartbeats 4000000 in
set_option maxRecDepth 100000 in
theorem c_Sha_digestA (l : Launch) (E : En) (h0 a1 a2 g0 Mg o n ta : Nat) (st wv g : Nat → Int32) (hn : o + n ≤ Mg) (hM : Mg < 2 ^ 20) (hta : ta + 32 ≤ Mg) : CtV l y_Sha_digest b_Sha_digest 8 (rmd 1) E [.ref h0, .ref g0, .int (nI o), .int (nI n), .ref g0, .int (nI ta)] [(h0, .inr (4, [.ref a1, .ref a2])), (a1, .inl (E.2.2.1, 8, .inl st)), (a2, .inl (E.2.2.1, 64, .inl wv)), (g0, .inl (E.2.1, Mg, .inl g))] (fun w => ∃ (s1 w1 : Nat → Int32), w = [(h0, .inr (4, [.ref a1, .ref a2])), (a1, .inl (E.2.2.1, 8, .inl s1)), (a2, .inl (E.2.2.1, 64, .inl w1)), (g0, .inl (E.2.1, Mg, .inl (va_cpy (shaF (fun q => g (o + q)) n) g 0 ta 32)))]) := by
  refine CtV.of (by decide) (Nat.le_of_ble_eq_true rfl) ?_
  intro p e s m args below meth c A Q H locs ls C hP hD hS hl kret
  have hx := C.1
  have hb := C.2.1
  have hl : lv_has ls 8 [(0, .ref h0), (1, .ref g0), (2, .int (nI o)), (3, .int (nI n)), (4, .ref g0), (5, .int (nI ta))] := hl
  refine n_gets C fl_Sha_22 C.2.2.2.2.2.2.1.1.1 hS d_Sha_digest_0 ?_
  refine lv_iconst (v := nI 0) hx hb d_Sha_digest_3 (by decide) ?_
  refine lv_aload_n hx hb d_Sha_digest_4 rfl (lv_at hl 0 rfl) ?_
  refine n_get C fg_Sha_9 hP 0 rfl rfl d_Sha_digest_5 ?_
  refine lv_iconst (v := nI 0) hx hb d_Sha_digest_8 (by decide) ?_
  refine lv_aload_n hx hb d_Sha_digest_9 rfl (lv_at hl 0 rfl) ?_
  refine n_get C fg_Sha_9 hP 0 rfl rfl d_Sha_digest_10 ?_
  refine n_alenI C hP 1 rfl d_Sha_digest_13 ?_
  refine n_cpyT C lk_Sha_25 hP hD hS (C.2.2.2.2.2.2.1.1.2) 1 rfl 8 rfl rfl rfl (by omega) (by omega) (by omega) hl.1 (by decide) (by decide) d_Sha_digest_14 (fun H locs hP hD hS => ?_)
  have hP : va_P E.1 clz [(h0, .inr (4, [.ref a1, .ref a2])), (a1, .inl (E.2.2.1, 8, .inl (va_cpy shS st 0 0 8))), (a2, .inl (E.2.2.1, 64, .inl wv)), (g0, .inl (E.2.1, Mg, .inl g))] H := hP
  have hD : va_D A [(h0, .inr (4, [.ref a1, .ref a2])), (a1, .inl (E.2.2.1, 8, .inl (va_cpy shS st 0 0 8))), (a2, .inl (E.2.2.1, 64, .inl wv)), (g0, .inl (E.2.1, Mg, .inl g))] := hD
  refine lv_iload_n hx hb d_Sha_digest_17 rfl (lv_at hl 3 rfl) ?_
  refine lv_bipush (v := nI 8) hx hb d_Sha_digest_18 (by decide) ?_
  refine lv_iadd hx hb d_Sha_digest_20 ?_
  refine tope (z := nI (n + 8)) (nI_add _ _) ?_
  refine lv_bipush (v := nI 64) hx hb d_Sha_digest_21 (by decide) ?_
  refine lv_idiv hx hb d_Sha_digest_23 (nI_ne0 (by omega) (by omega)) ?_
  refine tope (z := nI ((n + 8) / 64)) (pk_div (by omega) (by omega) (by omega)) ?_
  refine lv_istore (lv' := [(6, .int (nI ((n + 8) / 64))), (0, .ref h0), (1, .ref g0), (2, .int (nI o)), (3, .int (nI n)), (4, .ref g0), (5, .int (nI ta))]) hx hb d_Sha_digest_24 hl (by decide) rfl (fun ls hl => ?_)
  refine lv_iconst (v := nI 0) hx hb d_Sha_digest_26 (by decide) ?_
  refine lv_istore (lv' := [(7, .int (nI 0)), (6, .int (nI ((n + 8) / 64))), (0, .ref h0), (1, .ref g0), (2, .int (nI o)), (3, .int (nI n)), (4, .ref g0), (5, .int (nI ta))]) hx hb d_Sha_digest_27 hl (by decide) rfl (fun ls hl => ?_)
  have hloop29 : ∀ (dd : Nat) (j : Nat) (sv : Nat → Int32) (wy : Nat → Int32) (H : Heap) (locs : List Loc) (ls : Array Slot), (n + 8) / 64 + 1 - j < dd → (j ≤ (n + 8) / 64 + 1) → (∀ k, k < 8 → sv k = stN (fun q => g (o + q)) n j k) → va_P E.1 clz [(h0, .inr (4, [.ref a1, .ref a2])), (a1, .inl (E.2.2.1, 8, .inl sv)), (a2, .inl (E.2.2.1, 64, .inl wy)), (g0, .inl (E.2.1, Mg, .inl g))] H → va_D A [(h0, .inr (4, [.ref a1, .ref a2])), (a1, .inl (E.2.2.1, 8, .inl sv)), (a2, .inl (E.2.2.1, 64, .inl wy)), (g0, .inl (E.2.1, Mg, .inl g))] → va_S A s.heap H locs → lv_has ls 8 [(7, .int (nI j)), (6, .int (nI ((n + 8) / 64))), (5, .int (nI ta)), (4, .ref g0), (3, .int (nI n)), (2, .int (nI o)), (1, .ref g0), (0, .ref h0)] → W p l e (rmd 1) s m args below meth c H locs 0 0 Q (F0 m 29 ls []) := by
    intro dd
    induction dd with
    | zero => intro j sv wy H locs ls hm; exact absurd hm (Nat.not_lt_zero _)
    | succ dd ih29 =>
      intro j sv wy H locs ls hm hj hst hP hD hS hl
      refine lv_iload hx hb d_Sha_digest_29 (lv_at hl 0 rfl) ?_
      refine lv_iload hx hb d_Sha_digest_31 (lv_at hl 1 rfl) ?_
      refine j_gt C j ((n + 8) / 64) rfl rfl (by omega) (by omega) d_Sha_digest_33 rfl (fun h1 => ?_) (fun h1 => ?_)
      · refine lv_iconst (v := nI 0) hx hb d_Sha_digest_77 (by decide) ?_
        refine lv_istore (lv' := [(7, .int (nI 0)), (6, .int (nI ((n + 8) / 64))), (5, .int (nI ta)), (4, .ref g0), (3, .int (nI n)), (2, .int (nI o)), (1, .ref g0), (0, .ref h0)]) hx hb d_Sha_digest_78 hl (by decide) rfl (fun ls hl => ?_)
        have hst : ∀ k, k < 8 → sv k = stN (fun q => g (o + q)) n (lstB n + 1) k := by rw [show lstB n + 1 = j by unfold lstB; omega]; exact hst
        rw [← cpy_zero (shaF (fun q => g (o + q)) n) g 0 ta] at hP hD
        have hloop80 : ∀ (dd : Nat) (i : Nat) (H : Heap) (locs : List Loc) (ls : Array Slot), 32 - i < dd → (i ≤ 32) → va_P E.1 clz [(h0, .inr (4, [.ref a1, .ref a2])), (a1, .inl (E.2.2.1, 8, .inl sv)), (a2, .inl (E.2.2.1, 64, .inl wy)), (g0, .inl (E.2.1, Mg, .inl (va_cpy (shaF (fun q => g (o + q)) n) g 0 ta i)))] H → va_D A [(h0, .inr (4, [.ref a1, .ref a2])), (a1, .inl (E.2.2.1, 8, .inl sv)), (a2, .inl (E.2.2.1, 64, .inl wy)), (g0, .inl (E.2.1, Mg, .inl (va_cpy (shaF (fun q => g (o + q)) n) g 0 ta i)))] → va_S A s.heap H locs → lv_has ls 8 [(7, .int (nI i)), (5, .int (nI ta)), (4, .ref g0), (3, .int (nI n)), (2, .int (nI o)), (1, .ref g0), (0, .ref h0)] → W p l e (rmd 1) s m args below meth c H locs 0 0 Q (F0 m 80 ls []) := by
          intro dd
          induction dd with
          | zero => intro i H locs ls hm; exact absurd hm (Nat.not_lt_zero _)
          | succ dd ih80 =>
            intro i H locs ls hm hi hP hD hS hl
            refine lv_iload hx hb d_Sha_digest_80 (lv_at hl 0 rfl) ?_
            refine lv_bipush (v := nI 32) hx hb d_Sha_digest_82 (by decide) ?_
            refine j_ge C i 32 rfl rfl (by omega) (by omega) d_Sha_digest_84 rfl (fun h2 => ?_) (fun h2 => ?_)
            · obtain rfl : i = 32 := by omega
              exact kret [(h0, .inr (4, [.ref a1, .ref a2])), (a1, .inl (E.2.2.1, 8, .inl sv)), (a2, .inl (E.2.2.1, 64, .inl wy)), (g0, .inl (E.2.1, Mg, .inl (va_cpy (shaF (fun q => g (o + q)) n) g 0 ta 32)))] _ _ _ _ d_Sha_digest_122 (⟨_, _, rfl⟩) rfl hP hS
            · refine lv_aload hx hb d_Sha_digest_87 (lv_at hl 2 rfl) ?_
              refine lv_iload hx hb d_Sha_digest_89 (lv_at hl 1 rfl) ?_
              refine lv_iload hx hb d_Sha_digest_91 (lv_at hl 0 rfl) ?_
              refine lv_iadd hx hb d_Sha_digest_93 ?_
              refine tope (z := nI (ta + i)) (nI_add _ _) ?_
              refine lv_aload_n hx hb d_Sha_digest_94 rfl (lv_at hl 6 rfl) ?_
              refine n_get C fg_Sha_9 hP 0 rfl rfl d_Sha_digest_95 ?_
              refine lv_iload hx hb d_Sha_digest_98 (lv_at hl 0 rfl) ?_
              refine lv_iconst (v := nI 4) hx hb d_Sha_digest_100 (by decide) ?_
              refine lv_idiv hx hb d_Sha_digest_101 (nI_ne0 (by omega) (by omega)) ?_
              refine tope (z := nI (i / 4)) (pk_div (by omega) (by omega) (by omega)) ?_
              refine n_iald C hP 1 rfl (i / 4) rfl (by omega) (by omega) d_Sha_digest_102 ?_
              refine lv_bipush (v := nI 24) hx hb d_Sha_digest_103 (by decide) ?_
              refine lv_iload hx hb d_Sha_digest_105 (lv_at hl 0 rfl) ?_
              refine lv_iconst (v := nI 4) hx hb d_Sha_digest_107 (by decide) ?_
              refine lv_irem hx hb d_Sha_digest_108 (nI_ne0 (by omega) (by omega)) ?_
              refine tope (z := nI (i % 4)) (pk_rem (by omega) (by omega) (by omega)) ?_
              refine lv_bipush (v := nI 8) hx hb d_Sha_digest_109 (by decide) ?_
              refine lv_imul hx hb d_Sha_digest_111 ?_
              refine tope (z := nI ((i % 4) * 8)) (pk_mul _ _) ?_
              refine lv_isub hx hb d_Sha_digest_112 ?_
              refine tope (z := nI (24 - ((i % 4) * 8))) (pk_sub (by omega)) ?_
              refine lv_iushr (v := us (sv (i / 4)) (nI (24 - ((i % 4) * 8)))) hx hb d_Sha_digest_113 rfl ?_
              refine lv_i2b (v := nb (us (sv (i / 4)) (nI (24 - ((i % 4) * 8))))) hx hb d_Sha_digest_114 rfl ?_
              refine n_bast (z := nb (us (sv (i / 4)) (nI (24 - ((i % 4) * 8))))) C hP hD hS 3 rfl (ta + i) rfl (nb_nb _) (by omega) (by omega) d_Sha_digest_115 (fun H locs hP hD hS => ?_)
              have hP : va_P E.1 clz [(h0, .inr (4, [.ref a1, .ref a2])), (a1, .inl (E.2.2.1, 8, .inl sv)), (a2, .inl (E.2.2.1, 64, .inl wy)), (g0, .inl (E.2.1, Mg, .inl (upd (va_cpy (shaF (fun q => g (o + q)) n) g 0 ta i) (ta + i) (nb (us (sv (i / 4)) (nI (24 - ((i % 4) * 8))))))))] H := hP
              have hD : va_D A [(h0, .inr (4, [.ref a1, .ref a2])), (a1, .inl (E.2.2.1, 8, .inl sv)), (a2, .inl (E.2.2.1, 64, .inl wy)), (g0, .inl (E.2.1, Mg, .inl (upd (va_cpy (shaF (fun q => g (o + q)) n) g 0 ta i) (ta + i) (nb (us (sv (i / 4)) (nI (24 - ((i % 4) * 8))))))))] := hD
              rw [cpy_step (S := shaF (fun q => g (o + q)) n) (t := g) (d := ta) (i := i) (by show nb _ = nb _; rw [← hst (i / 4) (by omega)])] at hP hD
              have hP : va_P E.1 clz [(h0, .inr (4, [.ref a1, .ref a2])), (a1, .inl (E.2.2.1, 8, .inl sv)), (a2, .inl (E.2.2.1, 64, .inl wy)), (g0, .inl (E.2.1, Mg, .inl (va_cpy (shaF (fun q => g (o + q)) n) g 0 ta (i + 1))))] H := hP
              have hD : va_D A [(h0, .inr (4, [.ref a1, .ref a2])), (a1, .inl (E.2.2.1, 8, .inl sv)), (a2, .inl (E.2.2.1, 64, .inl wy)), (g0, .inl (E.2.1, Mg, .inl (va_cpy (shaF (fun q => g (o + q)) n) g 0 ta (i + 1))))] := hD
              refine lv_iinc (k := 0) (v := nI (i + 1)) (lv' := [(7, .int (nI (i + 1))), (5, .int (nI ta)), (4, .ref g0), (3, .int (nI n)), (2, .int (nI o)), (1, .ref g0), (0, .ref h0)]) hx hb d_Sha_digest_116 hl rfl (iincK i 1) (by decide) rfl (fun ls hl => ?_)
              refine lv_goto hx hb d_Sha_digest_119 rfl ?_
              exact ih80 (i + 1) H locs ls (by omega) (by omega) hP hD hS (lv_sub hl [0, 1, 2, 3, 4, 5, 6] rfl)
        exact hloop80 (32 + 1) 0 H locs ls (by omega) (by omega) hP hD hS (lv_sub hl [0, 2, 3, 4, 5, 6, 7] rfl)
      · refine lv_aload_n hx hb d_Sha_digest_36 rfl (lv_at hl 7 rfl) ?_
        refine lv_aload_n hx hb d_Sha_digest_37 rfl (lv_at hl 6 rfl) ?_
        refine lv_iload_n hx hb d_Sha_digest_38 rfl (lv_at hl 5 rfl) ?_
        refine lv_iload_n hx hb d_Sha_digest_39 rfl (lv_at hl 4 rfl) ?_
        refine lv_iload hx hb d_Sha_digest_40 (lv_at hl 0 rfl) ?_
        refine cal_V (As := [.ref g0, .int (nI o), .int (nI n), .int (nI j)]) (rest := []) C lk_Sha_31 (c_Sha_load l E h0 a1 a2 g0 Mg o n j wy g (by omega) (by omega) (by omega)) (by decide) hP hD hS 0 4 rfl rfl [0, 2, 3] rfl (by decide) hl.1 rfl (Nat.le_of_ble_eq_true rfl) d_Sha_digest_42 (fun w1 H locs hp4 hP hD hS => ?_)
        obtain rfl := hp4
        have hP : va_P E.1 clz [(h0, .inr (4, [.ref a1, .ref a2])), (a1, .inl (E.2.2.1, 8, .inl sv)), (a2, .inl (E.2.2.1, 64, .inl (ldW (fun q => g (o + q)) n j wy 64))), (g0, .inl (E.2.1, Mg, .inl g))] H := hP
        have hD : va_D A [(h0, .inr (4, [.ref a1, .ref a2])), (a1, .inl (E.2.2.1, 8, .inl sv)), (a2, .inl (E.2.2.1, 64, .inl (ldW (fun q => g (o + q)) n j wy 64))), (g0, .inl (E.2.1, Mg, .inl g))] := hD
        refine lv_iload hx hb d_Sha_digest_45 (lv_at hl 0 rfl) ?_
        refine lv_iload hx hb d_Sha_digest_47 (lv_at hl 1 rfl) ?_
        refine j_ne C j ((n + 8) / 64) rfl rfl (by omega) (by omega) d_Sha_digest_49 rfl (fun h5 => ?_) (fun h5 => ?_)
        · refine lv_aload_n hx hb d_Sha_digest_63 rfl (lv_at hl 7 rfl) ?_
          refine cal_V (As := []) (rest := []) C lk_Sha_35 (c_Sha_extend l E h0 a1 a2 (ldW (fun q => g (o + q)) n j wy 64)) (by decide) hP hD hS 0 4 rfl rfl [0, 2] rfl (by decide) hl.1 rfl (Nat.le_of_ble_eq_true rfl) d_Sha_digest_64 (fun w1 H locs hp7 hP hD hS => ?_)
          obtain rfl := hp7
          have hP : va_P E.1 clz [(h0, .inr (4, [.ref a1, .ref a2])), (a1, .inl (E.2.2.1, 8, .inl sv)), (a2, .inl (E.2.2.1, 64, .inl (exW (ldW (fun q => g (o + q)) n j wy 64) 48))), (g0, .inl (E.2.1, Mg, .inl g))] H := hP
          have hD : va_D A [(h0, .inr (4, [.ref a1, .ref a2])), (a1, .inl (E.2.2.1, 8, .inl sv)), (a2, .inl (E.2.2.1, 64, .inl (exW (ldW (fun q => g (o + q)) n j wy 64) 48))), (g0, .inl (E.2.1, Mg, .inl g))] := hD
          refine lv_aload_n hx hb d_Sha_digest_67 rfl (lv_at hl 7 rfl) ?_
          refine cal_V (As := []) (rest := []) C lk_Sha_38 (c_Sha_mix l E h0 a1 a2 sv (exW (ldW (fun q => g (o + q)) n j wy 64) 48)) (by decide) hP hD hS 0 4 rfl rfl [0, 1, 2] rfl (by decide) hl.1 rfl (Nat.le_of_ble_eq_true rfl) d_Sha_digest_68 (fun w1 H locs hp9 hP hD hS => ?_)
          obtain rfl := hp9
          have hP : va_P E.1 clz [(h0, .inr (4, [.ref a1, .ref a2])), (a1, .inl (E.2.2.1, 8, .inl (blkF (exW (ldW (fun q => g (o + q)) n j wy 64) 48) sv))), (a2, .inl (E.2.2.1, 64, .inl (exW (ldW (fun q => g (o + q)) n j wy 64) 48))), (g0, .inl (E.2.1, Mg, .inl g))] H := hP
          have hD : va_D A [(h0, .inr (4, [.ref a1, .ref a2])), (a1, .inl (E.2.2.1, 8, .inl (blkF (exW (ldW (fun q => g (o + q)) n j wy 64) 48) sv))), (a2, .inl (E.2.2.1, 64, .inl (exW (ldW (fun q => g (o + q)) n j wy 64) 48))), (g0, .inl (E.2.1, Mg, .inl g))] := hD
          refine lv_iinc (k := 0) (v := nI (j + 1)) (lv' := [(7, .int (nI (j + 1))), (6, .int (nI ((n + 8) / 64))), (5, .int (nI ta)), (4, .ref g0), (3, .int (nI n)), (2, .int (nI o)), (1, .ref g0), (0, .ref h0)]) hx hb d_Sha_digest_71 hl rfl (iincK j 1) (by decide) rfl (fun ls hl => ?_)
          refine lv_goto hx hb d_Sha_digest_74 rfl ?_
          exact ih29 (j + 1) (blkF (exW (ldW (fun q => g (o + q)) n j wy 64) 48) sv) (exW (ldW (fun q => g (o + q)) n j wy 64) 48) H locs ls (by omega) (by omega) (st_step (wds_not (by omega)) hst) hP hD hS (lv_sub hl [0, 1, 2, 3, 4, 5, 6, 7] rfl)
        · refine lv_aload_n hx hb d_Sha_digest_52 rfl (lv_at hl 7 rfl) ?_
          refine n_get C fg_Sha_15 hP 0 rfl rfl d_Sha_digest_53 ?_
          refine lv_bipush (v := nI 15) hx hb d_Sha_digest_56 (by decide) ?_
          refine lv_iload_n hx hb d_Sha_digest_58 rfl (lv_at hl 4 rfl) ?_
          refine lv_bipush (v := nI 8) hx hb d_Sha_digest_59 (by decide) ?_
          refine lv_imul hx hb d_Sha_digest_61 ?_
          refine tope (z := nI (n * 8)) (pk_mul _ _) ?_
          refine n_iast C hP hD hS 2 rfl 15 rfl (by omega) (by omega) d_Sha_digest_62 (fun H locs hP hD hS => ?_)
          have hP : va_P E.1 clz [(h0, .inr (4, [.ref a1, .ref a2])), (a1, .inl (E.2.2.1, 8, .inl sv)), (a2, .inl (E.2.2.1, 64, .inl (upd (ldW (fun q => g (o + q)) n j wy 64) 15 (nI (n * 8))))), (g0, .inl (E.2.1, Mg, .inl g))] H := hP
          have hD : va_D A [(h0, .inr (4, [.ref a1, .ref a2])), (a1, .inl (E.2.2.1, 8, .inl sv)), (a2, .inl (E.2.2.1, 64, .inl (upd (ldW (fun q => g (o + q)) n j wy 64) 15 (nI (n * 8))))), (g0, .inl (E.2.1, Mg, .inl g))] := hD
          refine lv_aload_n hx hb d_Sha_digest_63 rfl (lv_at hl 7 rfl) ?_
          refine cal_V (As := []) (rest := []) C lk_Sha_35 (c_Sha_extend l E h0 a1 a2 (upd (ldW (fun q => g (o + q)) n j wy 64) 15 (nI (n * 8)))) (by decide) hP hD hS 0 4 rfl rfl [0, 2] rfl (by decide) hl.1 rfl (Nat.le_of_ble_eq_true rfl) d_Sha_digest_64 (fun w1 H locs hp11 hP hD hS => ?_)
          obtain rfl := hp11
          have hP : va_P E.1 clz [(h0, .inr (4, [.ref a1, .ref a2])), (a1, .inl (E.2.2.1, 8, .inl sv)), (a2, .inl (E.2.2.1, 64, .inl (exW (upd (ldW (fun q => g (o + q)) n j wy 64) 15 (nI (n * 8))) 48))), (g0, .inl (E.2.1, Mg, .inl g))] H := hP
          have hD : va_D A [(h0, .inr (4, [.ref a1, .ref a2])), (a1, .inl (E.2.2.1, 8, .inl sv)), (a2, .inl (E.2.2.1, 64, .inl (exW (upd (ldW (fun q => g (o + q)) n j wy 64) 15 (nI (n * 8))) 48))), (g0, .inl (E.2.1, Mg, .inl g))] := hD
          refine lv_aload_n hx hb d_Sha_digest_67 rfl (lv_at hl 7 rfl) ?_
          refine cal_V (As := []) (rest := []) C lk_Sha_38 (c_Sha_mix l E h0 a1 a2 sv (exW (upd (ldW (fun q => g (o + q)) n j wy 64) 15 (nI (n * 8))) 48)) (by decide) hP hD hS 0 4 rfl rfl [0, 1, 2] rfl (by decide) hl.1 rfl (Nat.le_of_ble_eq_true rfl) d_Sha_digest_68 (fun w1 H locs hp13 hP hD hS => ?_)
          obtain rfl := hp13
          have hP : va_P E.1 clz [(h0, .inr (4, [.ref a1, .ref a2])), (a1, .inl (E.2.2.1, 8, .inl (blkF (exW (upd (ldW (fun q => g (o + q)) n j wy 64) 15 (nI (n * 8))) 48) sv))), (a2, .inl (E.2.2.1, 64, .inl (exW (upd (ldW (fun q => g (o + q)) n j wy 64) 15 (nI (n * 8))) 48))), (g0, .inl (E.2.1, Mg, .inl g))] H := hP
          have hD : va_D A [(h0, .inr (4, [.ref a1, .ref a2])), (a1, .inl (E.2.2.1, 8, .inl (blkF (exW (upd (ldW (fun q => g (o + q)) n j wy 64) 15 (nI (n * 8))) 48) sv))), (a2, .inl (E.2.2.1, 64, .inl (exW (upd (ldW (fun q => g (o + q)) n j wy 64) 15 (nI (n * 8))) 48))), (g0, .inl (E.2.1, Mg, .inl g))] := hD
          refine lv_iinc (k := 0) (v := nI (j + 1)) (lv' := [(7, .int (nI (j + 1))), (6, .int (nI ((n + 8) / 64))), (5, .int (nI ta)), (4, .ref g0), (3, .int (nI n)), (2, .int (nI o)), (1, .ref g0), (0, .ref h0)]) hx hb d_Sha_digest_71 hl rfl (iincK j 1) (by decide) rfl (fun ls hl => ?_)
          refine lv_goto hx hb d_Sha_digest_74 rfl ?_
          exact ih29 (j + 1) (blkF (exW (upd (ldW (fun q => g (o + q)) n j wy 64) 15 (nI (n * 8))) 48) sv) (exW (upd (ldW (fun q => g (o + q)) n j wy 64) 15 (nI (n * 8))) 48) H locs ls (by omega) (by omega) (st_step (wds_last (by omega)) hst) hP hD hS (lv_sub hl [0, 1, 2, 3, 4, 5, 6, 7] rfl)
  exact hloop29 ((n + 8) / 64 + 1 + 1) 0 (va_cpy shS st 0 0 8) wv H locs ls (by omega) (by omega) (st_0) hP hD hS (lv_sub hl [0, 1, 7, 6, 5, 4, 3, 2] rfl)

set_option maxHeartbeats 4000000 in
set_option maxRecDepth 100000 in
theorem c_Sha_hash (l : Launch) (E : En) (h0 a1 a2 g0 Mg o n ta : Nat) (st wv g : Nat → Int32) (t0 Mt : Nat) (t : Nat → Int32) (hn : o + n ≤ Mg) (hM : Mg < 2 ^ 20) (hta : ta + 32 ≤ Mt) (hMt : Mt < 2 ^ 20) : CtV l y_Sha_hash b_Sha_hash 6 (rmd 2) E [.ref h0, .ref g0, .int (nI o), .int (nI n), .ref t0, .int (nI ta)] [(h0, .inr (4, [.ref a1, .ref a2])), (a1, .inl (E.2.2.1, 8, .inl st)), (a2, .inl (E.2.2.1, 64, .inl wv)), (g0, .inl (E.2.1, Mg, .inl g)), (t0, .inl (E.2.1, Mt, .inl t))] (fun w => ∃ (s1 w1 : Nat → Int32), w = [(h0, .inr (4, [.ref a1, .ref a2])), (a1, .inl (E.2.2.1, 8, .inl s1)), (a2, .inl (E.2.2.1, 64, .inl w1)), (g0, .inl (E.2.1, Mg, .inl g)), (t0, .inl (E.2.1, Mt, .inl (va_cpy (hashF (fun q => g (o + q)) n) t 0 ta 32)))]) := by
  refine CtV.of (by decide) (Nat.le_of_ble_eq_true rfl) ?_
  intro p e s m args below meth c A Q H locs ls C hP hD hS hl kret
  have hx := C.1
  have hb := C.2.1
  have hl : lv_has ls 6 [(0, .ref h0), (1, .ref g0), (2, .int (nI o)), (3, .int (nI n)), (4, .ref t0), (5, .int (nI ta))] := hl
  refine lv_aload_n hx hb d_Sha_hash_0 rfl (lv_at hl 0 rfl) ?_
  refine lv_aload_n hx hb d_Sha_hash_1 rfl (lv_at hl 1 rfl) ?_
  refine lv_iload_n hx hb d_Sha_hash_2 rfl (lv_at hl 2 rfl) ?_
  refine lv_iload_n hx hb d_Sha_hash_3 rfl (lv_at hl 3 rfl) ?_
  refine lv_aload hx hb d_Sha_hash_4 (lv_at hl 4 rfl) ?_
  refine lv_iload hx hb d_Sha_hash_6 (lv_at hl 5 rfl) ?_
  refine cal_V (As := [.ref g0, .int (nI o), .int (nI n), .ref t0, .int (nI ta)]) (rest := []) C lk_Sha_18 (c_Sha_digest l E h0 a1 a2 g0 Mg o n ta st wv g t0 Mt t (by omega) (by omega) (by omega) (by omega)) (by decide) hP hD hS 0 4 rfl rfl [0, 1, 2, 3, 4] rfl (by decide) hl.1 rfl (Nat.le_of_ble_eq_true rfl) d_Sha_hash_8 (fun w1 H locs hp4 hP hD hS => ?_)
  obtain ⟨sv1, wy2, rfl⟩ := hp4
  have hP : va_P E.1 clz [(h0, .inr (4, [.ref a1, .ref a2])), (a1, .inl (E.2.2.1, 8, .inl sv1)), (a2, .inl (E.2.2.1, 64, .inl wy2)), (g0, .inl (E.2.1, Mg, .inl g)), (t0, .inl (E.2.1, Mt, .inl (va_cpy (shaF (fun q => g (o + q)) n) t 0 ta 32)))] H := hP
  have hD : va_D A [(h0, .inr (4, [.ref a1, .ref a2])), (a1, .inl (E.2.2.1, 8, .inl sv1)), (a2, .inl (E.2.2.1, 64, .inl wy2)), (g0, .inl (E.2.1, Mg, .inl g)), (t0, .inl (E.2.1, Mt, .inl (va_cpy (shaF (fun q => g (o + q)) n) t 0 ta 32)))] := hD
  refine lv_aload_n hx hb d_Sha_hash_11 rfl (lv_at hl 0 rfl) ?_
  refine lv_aload hx hb d_Sha_hash_12 (lv_at hl 4 rfl) ?_
  refine lv_iload hx hb d_Sha_hash_14 (lv_at hl 5 rfl) ?_
  refine lv_bipush (v := nI 32) hx hb d_Sha_hash_16 (by decide) ?_
  refine lv_aload hx hb d_Sha_hash_18 (lv_at hl 4 rfl) ?_
  refine lv_iload hx hb d_Sha_hash_20 (lv_at hl 5 rfl) ?_
  refine cal_V (As := [.ref t0, .int (nI ta), .int (nI 32), .ref t0, .int (nI ta)]) (rest := []) C lk_Sha_18 (c_Sha_digestA l E h0 a1 a2 t0 Mt ta 32 ta sv1 wy2 (va_cpy (shaF (fun q => g (o + q)) n) t 0 ta 32) (by omega) (by omega) (by omega)) (by decide) hP hD hS 0 4 rfl rfl [0, 1, 2, 4] rfl (by decide) hl.1 rfl (Nat.le_of_ble_eq_true rfl) d_Sha_hash_22 (fun w1 H locs hp8 hP hD hS => ?_)
  obtain ⟨sv5, wy6, rfl⟩ := hp8
  have hP : va_P E.1 clz [(h0, .inr (4, [.ref a1, .ref a2])), (a1, .inl (E.2.2.1, 8, .inl sv5)), (a2, .inl (E.2.2.1, 64, .inl wy6)), (g0, .inl (E.2.1, Mg, .inl g)), (t0, .inl (E.2.1, Mt, .inl (va_cpy (shaF (fun q => (va_cpy (shaF (fun q => g (o + q)) n) t 0 ta 32) (ta + q)) 32) (va_cpy (shaF (fun q => g (o + q)) n) t 0 ta 32) 0 ta 32)))] H := hP
  have hD : va_D A [(h0, .inr (4, [.ref a1, .ref a2])), (a1, .inl (E.2.2.1, 8, .inl sv5)), (a2, .inl (E.2.2.1, 64, .inl wy6)), (g0, .inl (E.2.1, Mg, .inl g)), (t0, .inl (E.2.1, Mt, .inl (va_cpy (shaF (fun q => (va_cpy (shaF (fun q => g (o + q)) n) t 0 ta 32) (ta + q)) 32) (va_cpy (shaF (fun q => g (o + q)) n) t 0 ta 32) 0 ta 32)))] := hD
  rw [hash_back (shaF (fun q => g (o + q)) n) t ta] at hP hD
  have hP : va_P E.1 clz [(h0, .inr (4, [.ref a1, .ref a2])), (a1, .inl (E.2.2.1, 8, .inl sv5)), (a2, .inl (E.2.2.1, 64, .inl wy6)), (g0, .inl (E.2.1, Mg, .inl g)), (t0, .inl (E.2.1, Mt, .inl (va_cpy (hashF (fun q => g (o + q)) n) t 0 ta 32)))] H := hP
  have hD : va_D A [(h0, .inr (4, [.ref a1, .ref a2])), (a1, .inl (E.2.2.1, 8, .inl sv5)), (a2, .inl (E.2.2.1, 64, .inl wy6)), (g0, .inl (E.2.1, Mg, .inl g)), (t0, .inl (E.2.1, Mt, .inl (va_cpy (hashF (fun q => g (o + q)) n) t 0 ta 32)))] := hD
  exact kret [(h0, .inr (4, [.ref a1, .ref a2])), (a1, .inl (E.2.2.1, 8, .inl sv5)), (a2, .inl (E.2.2.1, 64, .inl wy6)), (g0, .inl (E.2.1, Mg, .inl g)), (t0, .inl (E.2.1, Mt, .inl (va_cpy (hashF (fun q => g (o + q)) n) t 0 ta 32)))] _ _ _ _ d_Sha_hash_25 (⟨_, _, rfl⟩) rfl hP hS

set_option maxHeartbeats 4000000 in
set_option maxRecDepth 100000 in
theorem c_Sha_hashA (l : Launch) (E : En) (h0 a1 a2 g0 Mg o n ta : Nat) (st wv g : Nat → Int32) (hn : o + n ≤ Mg) (hM : Mg < 2 ^ 20) (hta : ta + 32 ≤ Mg) : CtV l y_Sha_hash b_Sha_hash 6 (rmd 2) E [.ref h0, .ref g0, .int (nI o), .int (nI n), .ref g0, .int (nI ta)] [(h0, .inr (4, [.ref a1, .ref a2])), (a1, .inl (E.2.2.1, 8, .inl st)), (a2, .inl (E.2.2.1, 64, .inl wv)), (g0, .inl (E.2.1, Mg, .inl g))] (fun w => ∃ (s1 w1 : Nat → Int32), w = [(h0, .inr (4, [.ref a1, .ref a2])), (a1, .inl (E.2.2.1, 8, .inl s1)), (a2, .inl (E.2.2.1, 64, .inl w1)), (g0, .inl (E.2.1, Mg, .inl (va_cpy (hashF (fun q => g (o + q)) n) g 0 ta 32)))]) := by
  refine CtV.of (by decide) (Nat.le_of_ble_eq_true rfl) ?_
  intro p e s m args below meth c A Q H locs ls C hP hD hS hl kret
  have hx := C.1
  have hb := C.2.1
  have hl : lv_has ls 6 [(0, .ref h0), (1, .ref g0), (2, .int (nI o)), (3, .int (nI n)), (4, .ref g0), (5, .int (nI ta))] := hl
  refine lv_aload_n hx hb d_Sha_hash_0 rfl (lv_at hl 0 rfl) ?_
  refine lv_aload_n hx hb d_Sha_hash_1 rfl (lv_at hl 1 rfl) ?_
  refine lv_iload_n hx hb d_Sha_hash_2 rfl (lv_at hl 2 rfl) ?_
  refine lv_iload_n hx hb d_Sha_hash_3 rfl (lv_at hl 3 rfl) ?_
  refine lv_aload hx hb d_Sha_hash_4 (lv_at hl 4 rfl) ?_
  refine lv_iload hx hb d_Sha_hash_6 (lv_at hl 5 rfl) ?_
  refine cal_V (As := [.ref g0, .int (nI o), .int (nI n), .ref g0, .int (nI ta)]) (rest := []) C lk_Sha_18 (c_Sha_digestA l E h0 a1 a2 g0 Mg o n ta st wv g (by omega) (by omega) (by omega)) (by decide) hP hD hS 0 4 rfl rfl [0, 1, 2, 3] rfl (by decide) hl.1 rfl (Nat.le_of_ble_eq_true rfl) d_Sha_hash_8 (fun w1 H locs hp4 hP hD hS => ?_)
  obtain ⟨sv1, wy2, rfl⟩ := hp4
  have hP : va_P E.1 clz [(h0, .inr (4, [.ref a1, .ref a2])), (a1, .inl (E.2.2.1, 8, .inl sv1)), (a2, .inl (E.2.2.1, 64, .inl wy2)), (g0, .inl (E.2.1, Mg, .inl (va_cpy (shaF (fun q => g (o + q)) n) g 0 ta 32)))] H := hP
  have hD : va_D A [(h0, .inr (4, [.ref a1, .ref a2])), (a1, .inl (E.2.2.1, 8, .inl sv1)), (a2, .inl (E.2.2.1, 64, .inl wy2)), (g0, .inl (E.2.1, Mg, .inl (va_cpy (shaF (fun q => g (o + q)) n) g 0 ta 32)))] := hD
  refine lv_aload_n hx hb d_Sha_hash_11 rfl (lv_at hl 0 rfl) ?_
  refine lv_aload hx hb d_Sha_hash_12 (lv_at hl 4 rfl) ?_
  refine lv_iload hx hb d_Sha_hash_14 (lv_at hl 5 rfl) ?_
  refine lv_bipush (v := nI 32) hx hb d_Sha_hash_16 (by decide) ?_
  refine lv_aload hx hb d_Sha_hash_18 (lv_at hl 4 rfl) ?_
  refine lv_iload hx hb d_Sha_hash_20 (lv_at hl 5 rfl) ?_
  refine cal_V (As := [.ref g0, .int (nI ta), .int (nI 32), .ref g0, .int (nI ta)]) (rest := []) C lk_Sha_18 (c_Sha_digestA l E h0 a1 a2 g0 Mg ta 32 ta sv1 wy2 (va_cpy (shaF (fun q => g (o + q)) n) g 0 ta 32) (by omega) (by omega) (by omega)) (by decide) hP hD hS 0 4 rfl rfl [0, 1, 2, 3] rfl (by decide) hl.1 rfl (Nat.le_of_ble_eq_true rfl) d_Sha_hash_22 (fun w1 H locs hp8 hP hD hS => ?_)
  obtain ⟨sv5, wy6, rfl⟩ := hp8
  have hP : va_P E.1 clz [(h0, .inr (4, [.ref a1, .ref a2])), (a1, .inl (E.2.2.1, 8, .inl sv5)), (a2, .inl (E.2.2.1, 64, .inl wy6)), (g0, .inl (E.2.1, Mg, .inl (va_cpy (shaF (fun q => (va_cpy (shaF (fun q => g (o + q)) n) g 0 ta 32) (ta + q)) 32) (va_cpy (shaF (fun q => g (o + q)) n) g 0 ta 32) 0 ta 32)))] H := hP
  have hD : va_D A [(h0, .inr (4, [.ref a1, .ref a2])), (a1, .inl (E.2.2.1, 8, .inl sv5)), (a2, .inl (E.2.2.1, 64, .inl wy6)), (g0, .inl (E.2.1, Mg, .inl (va_cpy (shaF (fun q => (va_cpy (shaF (fun q => g (o + q)) n) g 0 ta 32) (ta + q)) 32) (va_cpy (shaF (fun q => g (o + q)) n) g 0 ta 32) 0 ta 32)))] := hD
  rw [hash_back (shaF (fun q => g (o + q)) n) g ta] at hP hD
  have hP : va_P E.1 clz [(h0, .inr (4, [.ref a1, .ref a2])), (a1, .inl (E.2.2.1, 8, .inl sv5)), (a2, .inl (E.2.2.1, 64, .inl wy6)), (g0, .inl (E.2.1, Mg, .inl (va_cpy (hashF (fun q => g (o + q)) n) g 0 ta 32)))] H := hP
  have hD : va_D A [(h0, .inr (4, [.ref a1, .ref a2])), (a1, .inl (E.2.2.1, 8, .inl sv5)), (a2, .inl (E.2.2.1, 64, .inl wy6)), (g0, .inl (E.2.1, Mg, .inl (va_cpy (hashF (fun q => g (o + q)) n) g 0 ta 32)))] := hD
  exact kret [(h0, .inr (4, [.ref a1, .ref a2])), (a1, .inl (E.2.2.1, 8, .inl sv5)), (a2, .inl (E.2.2.1, 64, .inl wy6)), (g0, .inl (E.2.1, Mg, .inl (va_cpy (hashF (fun q => g (o + q)) n) g 0 ta 32)))] _ _ _ _ d_Sha_hash_25 (⟨_, _, rfl⟩) rfl hP hS

set_option maxHeartbeats 4000000 in
set_option maxRecDepth 100000 in
theorem c_Sig_make (l : Launch) (E : En) (s0 m0 d0 x0 h0 a1 a2 g0 Mg o n : Nat) (mf df xf st wv g : Nat → Int32) (hn : o + n ≤ Mg) (hM : Mg < 2 ^ 20) (hn80 : n ≤ 80) (hB : fB g) (hBm : fB mf) : CtV l y_Sig_make b_Sig_make 4 (rmd 3) E [.ref s0, .ref g0, .int (nI o), .int (nI n)] [(s0, .inr (5, [.ref m0, .ref d0, .ref h0, .ref x0])), (m0, .inl (E.2.1, 32, .inl mf)), (d0, .inl (E.2.1, 32, .inl df)), (x0, .inl (E.2.1, 112, .inl xf)), (h0, .inr (4, [.ref a1, .ref a2])), (a1, .inl (E.2.2.1, 8, .inl st)), (a2, .inl (E.2.2.1, 64, .inl wv)), (g0, .inl (E.2.1, Mg, .inl g))] (fun w => ∃ (s1 w1 : Nat → Int32), w = [(s0, .inr (5, [.ref m0, .ref d0, .ref h0, .ref x0])), (m0, .inl (E.2.1, 32, .inl mf)), (d0, .inl (E.2.1, 32, .inl (va_cpy (hashF (fun q => (va_cpy mf (va_cpy g xf o 0 n) 0 n 32) (0 + q)) (n + 32)) df 0 0 32))), (x0, .inl (E.2.1, 112, .inl (va_cpy mf (va_cpy g xf o 0 n) 0 n 32))), (h0, .inr (4, [.ref a1, .ref a2])), (a1, .inl (E.2.2.1, 8, .inl s1)), (a2, .inl (E.2.2.1, 64, .inl w1)), (g0, .inl (E.2.1, Mg, .inl g))]) := by
  refine CtV.of (by decide) (Nat.le_of_ble_eq_true rfl) ?_
  intro p e s m args below meth c A Q H locs ls C hP hD hS hl kret
  have hx := C.1
  have hb := C.2.1
  have hl : lv_has ls 4 [(0, .ref s0), (1, .ref g0), (2, .int (nI o)), (3, .int (nI n))] := hl
  refine lv_aload_n hx hb d_Sig_make_0 rfl (lv_at hl 1 rfl) ?_
  refine lv_iload_n hx hb d_Sig_make_1 rfl (lv_at hl 2 rfl) ?_
  refine lv_aload_n hx hb d_Sig_make_2 rfl (lv_at hl 0 rfl) ?_
  refine n_get C fg_Sig_25 hP 0 rfl rfl d_Sig_make_3 ?_
  refine lv_iconst (v := nI 0) hx hb d_Sig_make_6 (by decide) ?_
  refine lv_iload_n hx hb d_Sig_make_7 rfl (lv_at hl 3 rfl) ?_
  refine n_cpy C lk_Sig_28 hP hD hS 7 3 rfl rfl o 0 n rfl rfl rfl (by omega) (by omega) ⟨by omega, by omega⟩ (hB) hl.1 (by decide) (by decide) d_Sig_make_8 (fun H locs hP hD hS => ?_)
  have hP : va_P E.1 clz [(s0, .inr (5, [.ref m0, .ref d0, .ref h0, .ref x0])), (m0, .inl (E.2.1, 32, .inl mf)), (d0, .inl (E.2.1, 32, .inl df)), (x0, .inl (E.2.1, 112, .inl (va_cpy g xf o 0 n))), (h0, .inr (4, [.ref a1, .ref a2])), (a1, .inl (E.2.2.1, 8, .inl st)), (a2, .inl (E.2.2.1, 64, .inl wv)), (g0, .inl (E.2.1, Mg, .inl g))] H := hP
  have hD : va_D A [(s0, .inr (5, [.ref m0, .ref d0, .ref h0, .ref x0])), (m0, .inl (E.2.1, 32, .inl mf)), (d0, .inl (E.2.1, 32, .inl df)), (x0, .inl (E.2.1, 112, .inl (va_cpy g xf o 0 n))), (h0, .inr (4, [.ref a1, .ref a2])), (a1, .inl (E.2.2.1, 8, .inl st)), (a2, .inl (E.2.2.1, 64, .inl wv)), (g0, .inl (E.2.1, Mg, .inl g))] := hD
  refine lv_aload_n hx hb d_Sig_make_11 rfl (lv_at hl 0 rfl) ?_
  refine n_get C fg_Sig_18 hP 0 rfl rfl d_Sig_make_12 ?_
  refine lv_iconst (v := nI 0) hx hb d_Sig_make_15 (by decide) ?_
  refine lv_aload_n hx hb d_Sig_make_16 rfl (lv_at hl 0 rfl) ?_
  refine n_get C fg_Sig_25 hP 0 rfl rfl d_Sig_make_17 ?_
  refine lv_iload_n hx hb d_Sig_make_20 rfl (lv_at hl 3 rfl) ?_
  refine lv_bipush (v := nI 32) hx hb d_Sig_make_21 (by decide) ?_
  refine n_cpy C lk_Sig_28 hP hD hS 1 3 rfl rfl 0 n 32 rfl rfl rfl (by omega) (by omega) ⟨by omega, by omega⟩ (hBm) hl.1 (by decide) (by decide) d_Sig_make_23 (fun H locs hP hD hS => ?_)
  have hP : va_P E.1 clz [(s0, .inr (5, [.ref m0, .ref d0, .ref h0, .ref x0])), (m0, .inl (E.2.1, 32, .inl mf)), (d0, .inl (E.2.1, 32, .inl df)), (x0, .inl (E.2.1, 112, .inl (va_cpy mf (va_cpy g xf o 0 n) 0 n 32))), (h0, .inr (4, [.ref a1, .ref a2])), (a1, .inl (E.2.2.1, 8, .inl st)), (a2, .inl (E.2.2.1, 64, .inl wv)), (g0, .inl (E.2.1, Mg, .inl g))] H := hP
  have hD : va_D A [(s0, .inr (5, [.ref m0, .ref d0, .ref h0, .ref x0])), (m0, .inl (E.2.1, 32, .inl mf)), (d0, .inl (E.2.1, 32, .inl df)), (x0, .inl (E.2.1, 112, .inl (va_cpy mf (va_cpy g xf o 0 n) 0 n 32))), (h0, .inr (4, [.ref a1, .ref a2])), (a1, .inl (E.2.2.1, 8, .inl st)), (a2, .inl (E.2.2.1, 64, .inl wv)), (g0, .inl (E.2.1, Mg, .inl g))] := hD
  refine lv_aload_n hx hb d_Sig_make_26 rfl (lv_at hl 0 rfl) ?_
  refine n_get C fg_Sig_12 hP 0 rfl rfl d_Sig_make_27 ?_
  refine lv_aload_n hx hb d_Sig_make_30 rfl (lv_at hl 0 rfl) ?_
  refine n_get C fg_Sig_25 hP 0 rfl rfl d_Sig_make_31 ?_
  refine lv_iconst (v := nI 0) hx hb d_Sig_make_34 (by decide) ?_
  refine lv_iload_n hx hb d_Sig_make_35 rfl (lv_at hl 3 rfl) ?_
  refine lv_bipush (v := nI 32) hx hb d_Sig_make_36 (by decide) ?_
  refine lv_iadd hx hb d_Sig_make_38 ?_
  refine tope (z := nI (n + 32)) (nI_add _ _) ?_
  refine lv_aload_n hx hb d_Sig_make_39 rfl (lv_at hl 0 rfl) ?_
  refine n_get C fg_Sig_22 hP 0 rfl rfl d_Sig_make_40 ?_
  refine lv_iconst (v := nI 0) hx hb d_Sig_make_43 (by decide) ?_
  refine cal_V (As := [.ref x0, .int (nI 0), .int (nI (n + 32)), .ref d0, .int (nI 0)]) (rest := []) C lk_Sig_34 (c_Sha_hash l E h0 a1 a2 x0 112 0 (n + 32) 0 st wv (va_cpy mf (va_cpy g xf o 0 n) 0 n 32) d0 32 df (by omega) (by omega) (by omega) (by omega)) (by decide) hP hD hS 4 4 rfl rfl [4, 5, 6, 3, 2] rfl (by decide) hl.1 rfl (Nat.le_of_ble_eq_true rfl) d_Sig_make_44 (fun w1 H locs hp4 hP hD hS => ?_)
  obtain ⟨sv1, wy2, rfl⟩ := hp4
  have hP : va_P E.1 clz [(s0, .inr (5, [.ref m0, .ref d0, .ref h0, .ref x0])), (m0, .inl (E.2.1, 32, .inl mf)), (d0, .inl (E.2.1, 32, .inl (va_cpy (hashF (fun q => (va_cpy mf (va_cpy g xf o 0 n) 0 n 32) (0 + q)) (n + 32)) df 0 0 32))), (x0, .inl (E.2.1, 112, .inl (va_cpy mf (va_cpy g xf o 0 n) 0 n 32))), (h0, .inr (4, [.ref a1, .ref a2])), (a1, .inl (E.2.2.1, 8, .inl sv1)), (a2, .inl (E.2.2.1, 64, .inl wy2)), (g0, .inl (E.2.1, Mg, .inl g))] H := hP
  have hD : va_D A [(s0, .inr (5, [.ref m0, .ref d0, .ref h0, .ref x0])), (m0, .inl (E.2.1, 32, .inl mf)), (d0, .inl (E.2.1, 32, .inl (va_cpy (hashF (fun q => (va_cpy mf (va_cpy g xf o 0 n) 0 n 32) (0 + q)) (n + 32)) df 0 0 32))), (x0, .inl (E.2.1, 112, .inl (va_cpy mf (va_cpy g xf o 0 n) 0 n 32))), (h0, .inr (4, [.ref a1, .ref a2])), (a1, .inl (E.2.2.1, 8, .inl sv1)), (a2, .inl (E.2.2.1, 64, .inl wy2)), (g0, .inl (E.2.1, Mg, .inl g))] := hD
  exact kret [(s0, .inr (5, [.ref m0, .ref d0, .ref h0, .ref x0])), (m0, .inl (E.2.1, 32, .inl mf)), (d0, .inl (E.2.1, 32, .inl (va_cpy (hashF (fun q => (va_cpy mf (va_cpy g xf o 0 n) 0 n 32) (0 + q)) (n + 32)) df 0 0 32))), (x0, .inl (E.2.1, 112, .inl (va_cpy mf (va_cpy g xf o 0 n) 0 n 32))), (h0, .inr (4, [.ref a1, .ref a2])), (a1, .inl (E.2.2.1, 8, .inl sv1)), (a2, .inl (E.2.2.1, 64, .inl wy2)), (g0, .inl (E.2.1, Mg, .inl g))] _ _ _ _ d_Sig_make_47 (⟨_, _, rfl⟩) rfl hP hS
end
section
/-! what the stack's methods do to the stack that lies in the rows -/
theorem fB_pn4 {f : Nat → Int32} {o : Nat} {v : Int32} (h : fB f) : fB (pn4 f o v) := fB_upd (fB_upd (fB_upd (fB_upd h (nb_nb _)) (nb_nb _)) (nb_nb _)) (nb_nb _)
theorem numB_len (v : Int32) : pnz v = nI (numB v).length := by
  unfold pnz numB
  have h0 : (nI 0 : Int32) = 0 := rfl
  by_cases h : v = 0
  · rw [if_pos h, h0, if_pos h]; rfl
  · rw [if_neg h, h0, if_neg h]; rfl
theorem numB_le (v : Int32) : (numB v).length ≤ 4 := by
  unfold numB
  split <;> simp
theorem pn4_lo {f : Nat → Int32} {o : Nat} {v : Int32} {j : Nat} (h : j < o) : pn4 f o v j = f j := by
  unfold pn4 upd
  rw [if_neg (by omega), if_neg (by omega), if_neg (by omega), if_neg (by omega)]
theorem pn4_lay (f : Nat → Int32) (o : Nat) (v : Int32) : lay (pn4 f o v) o (numB v) := by
  intro j hj
  unfold numB at hj ⊢
  by_cases h : v = nI 0
  · rw [if_pos h] at hj; simp at hj
  · rw [if_neg h] at hj ⊢
    simp only [List.length_cons, List.length_nil] at hj
    unfold pn4 upd
    rcases (by omega : j = 0 ∨ j = 1 ∨ j = 2 ∨ j = 3) with rfl | rfl | rfl | rfl
    · rw [if_neg (by omega), if_neg (by omega), if_neg (by omega), if_pos rfl]; rfl
    · rw [if_neg (by omega), if_neg (by omega), if_pos rfl]; rfl
    · rw [if_neg (by omega), if_pos rfl]; rfl
    · rw [if_pos rfl]; rfl
theorem upd_lt {sz : Nat → Int32} {n k : Nat} {v : Int32} (h : k < n) : upd sz n v k = sz k := by unfold upd; rw [if_neg (by omega)]
theorem rep_num {f sz : Nat → Int32} {S : Stk} {n : Nat} {v : Int32} (h : rep f sz S) (hn : n = S.length) : rep (pn4 f (n * 80) v) (upd sz n (pnz v)) (numB v :: S) := by
  subst hn
  refine rep_push (rep_congr h (fun k hk => upd_lt hk) (fun j hj => pn4_lo hj)) ?_ (by have := numB_le v; omega) (pn4_lay _ _ _)
  rw [← numB_len]
  exact pk_us
theorem rep_cpy {f g sz : Nat → Int32} {S : Stk} {n i k : Nat} {x : Byl} (h : rep f sz S) (hn : n = S.length) (hk : k = x.length) (hx : x.length ≤ 80) (hl : lay g i x) : rep (va_cpy g f i (n * 80) k) (upd sz n (nI k)) (x :: S) := by
  subst hn hk
  refine rep_push (rep_congr h (fun k hk => upd_lt hk) (fun j hj => pk_cpy_out (by omega))) pk_us hx (fun j hj => ?_)
  rw [pk_cpy_in (by omega) (by omega), ← hl j hj]
  congr 1
  omega
theorem swp_lo {f : Nat → Int32} {o i j : Nat} (h : j < o) : swp f o i j = f j := by
  unfold swp
  rw [if_neg (by omega), if_neg (by omega)]
theorem rep_swp {f sz : Nat → Int32} {S : Stk} {x y : Byl} (h : rep f sz (x :: y :: S)) : rep (swp f (S.length * 80) 80) (upd (upd sz S.length (sz (S.length + 1))) (S.length + 1) (sz S.length)) (y :: x :: S) := by
  obtain ⟨hx1, hx2, hx3⟩ := rep_top h
  obtain ⟨hy1, hy2, hy3⟩ := rep_top (rep_tail h)
  have h0 := rep_tail (rep_tail h)
  have hlen : (y :: S).length = S.length + 1 := rfl
  rw [hlen] at hx1 hx3
  refine rep_push (rep_push (rep_congr h0 (fun k hk => ?_) (fun j hj => swp_lo hj)) ?_ hx2 (fun j hj => ?_)) ?_ hy2 (fun j hj => ?_)
  · rw [upd_lt (by omega), upd_lt hk]
  · rw [upd_lt (by omega), pk_us, hx1]
  · unfold swp
    rw [if_pos (by omega), ← hx3 j hj]
    congr 1
    omega
  · show upd _ (S.length + 1) _ (S.length + 1) = _
    rw [pk_us, hy1]
  · show swp f (S.length * 80) 80 ((S.length + 1) * 80 + j) = _
    unfold swp
    rw [if_neg (by omega), if_pos (by omega), ← hy3 j hj]
    congr 1
    omega
theorem shaL_len (x : Byl) : (shaL x).length = 32 := by simp [shaL]
theorem shaL_at (x : Byl) {j : Nat} (hj : j < 32) : (shaL x).getD j 0 = shaF (fun i => x.getD i 0) x.length j := by
  unfold shaL
  rw [List.getD_eq_getElem?_getD, List.getElem?_map, List.getElem?_range hj]
  rfl
theorem sha_lay {g t : Nat → Int32} {o d n : Nat} {x : Byl} (hl : lay g o x) (hn : n = x.length) : lay (va_cpy (shaF (fun q => g (o + q)) n) t 0 d 32) d (shaL x) := by
  subst hn
  intro j hj
  rw [shaL_len] at hj
  rw [pk_cpy_in (by omega) (by omega), shaL_at x hj, shaF_congr hl]
  congr 1
  omega
theorem hash_lay {g t : Nat → Int32} {o d n : Nat} {x : Byl} (hl : lay g o x) (hn : n = x.length) : lay (va_cpy (hashF (fun q => g (o + q)) n) t 0 d 32) d (hashL x) := by
  subst hn
  intro j hj
  have hj : j < 32 := by rw [hashL, shaL_len] at hj; exact hj
  rw [pk_cpy_in (by omega) (by omega), hashL, shaL_at _ hj, shaL_len]
  unfold hashF
  rw [shaF_congr (n := 32) (b' := fun i => (shaL x).getD i 0) (fun i hi => by rw [shaL_at x hi, shaF_congr hl])]
  congr 1
  omega
theorem rep_dig {f f2 sz : Nat → Int32} {S : Stk} {n : Nat} {x y : Byl} {F : Nat → Int32} (h : rep f sz (x :: S)) (hn : n = S.length) (hf : f2 = va_cpy F f 0 (n * 80) 32) (hy : y.length = 32) (hl : lay f2 (n * 80) y) : rep f2 (upd sz n (nI 32)) (y :: S) := by
  subst hn hf
  exact rep_push (rep_congr (rep_tail h) (fun k hk => upd_lt hk) (fun j hj => pk_cpy_out (by omega))) (by rw [pk_us, hy]) (by omega) hl
theorem sigL_len (msg x : Byl) : (sigL msg x).length = 8 := by
  unfold sigL hashL
  rw [List.length_take, shaL_len]
  rfl
theorem sig_lay {g mf xf df : Nat → Int32} {o n : Nat} {x msg : Byl} (hl : lay g o x) (hn : n = x.length) (hm : lay mf 0 msg) (h32 : msg.length = 32) : lay (va_cpy (hashF (fun q => (va_cpy mf (va_cpy g xf o 0 n) 0 n 32) (0 + q)) (n + 32)) df 0 0 32) 0 (sigL msg x) := by
  subst hn
  have h1 : lay (va_cpy mf (va_cpy g xf o 0 x.length) 0 x.length 32) 0 (x ++ msg) := by
    intro j hj
    rw [List.length_append, h32] at hj
    rw [Nat.zero_add]
    by_cases c : j < x.length
    · rw [pk_cpy_out (by omega), pk_cpy_in (by omega) (by omega), Nat.sub_zero, hl j c, List.getD_eq_getElem?_getD, List.getD_eq_getElem?_getD, List.getElem?_append_left c]
    · rw [pk_cpy_in (by omega) (by omega), hm _ (by omega), List.getD_eq_getElem?_getD, List.getD_eq_getElem?_getD, List.getElem?_append_right (by omega)]
  have h2 := hash_lay (t := df) (d := 0) h1 (n := x.length + 32) (by rw [List.length_append, h32])
  intro j hj
  rw [sigL_len] at hj
  have h3 := h2 j (by rw [hashL, shaL_len]; omega)
  rw [h3]
  unfold sigL
  rw [List.getD_eq_getElem?_getD, List.getD_eq_getElem?_getD, List.getElem?_take_of_lt hj]
end
