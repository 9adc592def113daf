def Wn (E : En) (A : Nat → Prop) (w : va_W) (t : State) : Prop := va_P E.1 clz w t.heap ∧ va_K E.1 clz (tyE E) t ∧ va_D A w
/-- a constructor's contract: it makes mc cells of ms slots -/
def CtN (l : Launch) (y : MethodName) (cc : ByteArray) (maxL : Nat) (rm : Room) (E : En) (As : List Value) (wc : va_W) (post : va_W → Prop) (mc ms : Nat) : Prop :=
  ∀ sz : Nat, Met l y (.code y cc maxL none :: ALLW) rm (va_Pc As (Wi E wc sz)) (va_Qv post (Wn E (va_A wc sz)) (va_A wc sz)) mc ms (va_A wc sz)
theorem CtN.of {l : Launch} {y : MethodName} {cc : ByteArray} {maxL : Nat} {rm : Room} {E : En} {As : List Value} {wc : va_W} {post : va_W → Prop} {mc ms : Nat} (hy : plainName y.cls = true) (hlen : (lg_sl As).length ≤ maxL)
    (body : ∀ (p : Program) (e : Env) (s : State) (m : MethodId) (args : Array Value) (below : List Frame) (meth : Method) (c : Code) (A : Nat → Prop) (Q : State → Prop) (H : Heap) (locs : List Loc) (ls : Array Slot), Cx p c cc maxL s m args y.cls E A → meth.name = y.name → va_P E.1 clz wc H → va_D A wc → va_S A s.heap H locs → lv_has ls maxL (lv_args 0 As) →
      (∀ (w : va_W) (H : Heap) (locs : List Loc) (ls : Array Slot) (pc : Nat), decode cc pc = .ok (.return_, 1) → post w → va_P E.1 clz w H → va_D A w → va_S A s.heap H locs → W p l e rm s m args below meth c H locs mc ms Q (F0 m pc ls [])) →
      W p l e rm s m args below meth c H locs 0 0 Q (F0 m 0 ls [])) : CtN l y cc maxL rm E As wc post mc ms := by
  intro sz
  refine Met.ofW (cc := cc) (maxL := maxL) (ret := none) hy rfl ?_
  intro p e s m args below meth c s₁ B hml hv
  obtain ⟨rfl, hsz, hP, hK, hD0, hX⟩ := hv
  subst hsz
  have hlk := B.notSynchronized
  have hin : meth.name = y.name := (name_of_methodNamed B.named B.method).1
  rw [lg_entry_eq]
  refine body p e s m _ below meth c (va_A wc s.heap.size) _ _ _ _ ⟨B.exec, B.bytes, hml, findClass_of_methodNamed B.named, fun w hw => atoms_spec B.pre w (List.mem_cons_of_mem _ hw), hK, hX, fun q h => Or.inr h⟩ hin hP hD0.self va_S.rf (lv_entry As hlen) ?_
  intro w H locs ls pc hd hpost hP1 hD1 hS1
  exact W.vret B.exec B.bytes B.returns (fun t ht hW => ⟨⟨w, rfl, hpost, by rw [ht]; exact hP1, va_K.moved hW.alike hK, hD1⟩, hS1.F ht⟩) hS1.2.2 hd
/-- the one word of the tables that a step may move: the runner's link to its branches' constructor -/
def NL (U : State) : Prop := va_Nw (.methodLinkNest RRun 32 y_Br_init RSS) U
def CtNZ (l : Launch) (y : MethodName) (cc : ByteArray) (maxL : Nat) (rm : Room) (E : En) (As : List Value) (wc : va_W) (post : va_W → Prop) (mc ms : Nat) : Prop :=
  ∀ sz : Nat, Met l y (.code y cc maxL none :: ALLW) rm (va_Pc As (fun U => Wi E wc sz U ∧ NL U)) (va_Qv post (Wn E (va_A wc sz)) (va_A wc sz)) mc ms (va_A wc sz)
theorem CtNZ.of {l : Launch} {y : MethodName} {cc : ByteArray} {maxL : Nat} {rm : Room} {E : En} {As : List Value} {wc : va_W} {post : va_W → Prop} {mc ms : Nat} (hy : plainName y.cls = true) (hlen : (lg_sl As).length ≤ maxL)
    (body : ∀ (p : Program) (e : Env) (s : State) (m : MethodId) (args : Array Value) (below : List Frame) (meth : Method) (c : Code) (A : Nat → Prop) (Q : State → Prop) (H : Heap) (locs : List Loc) (ls : Array Slot), Cx p c cc maxL s m args y.cls E A → NL s → meth.name = y.name → va_P E.1 clz wc H → va_D A wc → va_S A s.heap H locs → lv_has ls maxL (lv_args 0 As) →
      (∀ (w : va_W) (H : Heap) (locs : List Loc) (ls : Array Slot) (pc : Nat), decode cc pc = .ok (.return_, 1) → post w → va_P E.1 clz w H → va_D A w → va_S A s.heap H locs → W p l e rm s m args below meth c H locs mc ms Q (F0 m pc ls [])) →
      W p l e rm s m args below meth c H locs 0 0 Q (F0 m 0 ls [])) : CtNZ l y cc maxL rm E As wc post mc ms := by
  intro sz
  refine Met.ofW (cc := cc) (maxL := maxL) (ret := none) hy rfl ?_
  intro p e s m args below meth c s₁ B hml hv
  obtain ⟨rfl, ⟨hsz, hP, hK, hD0, hX⟩, hN⟩ := hv
  subst hsz
  have hlk := B.notSynchronized
  have hin : meth.name = y.name := (name_of_methodNamed B.named B.method).1
  rw [lg_entry_eq]
  refine body p e s m _ below meth c (va_A wc s.heap.size) _ _ _ _ ⟨B.exec, B.bytes, hml, findClass_of_methodNamed B.named, fun w hw => atoms_spec B.pre w (List.mem_cons_of_mem _ hw), hK, hX, fun q h => Or.inr h⟩ hN hin hP hD0.self va_S.rf (lv_entry As hlen) ?_
  intro w H locs ls pc hd hpost hP1 hD1 hS1
  exact W.vret B.exec B.bytes B.returns (fun t ht hW => ⟨⟨w, rfl, hpost, by rw [ht]; exact hP1, va_K.moved hW.alike hK, hD1⟩, hS1.F ht⟩) hS1.2.2 hd
def FPF (own : String) (index ci k : Nat) (Cn : String) (T : u_T) (N : Nat) (ty : FieldType) : Prop := FG own index ci k Cn T N ∧ (T k).2.2.2 = true ∧ (∃ ty0 : Nat → FieldType, ∀ j, j < N → parseFieldDescriptor (T j).2.2.1 = some (ty0 j)) ∧ (∀ a, a < N → ∀ b, b < N → a ≠ b → (T a).2.1 ≠ (T b).2.1) ∧ parseFieldDescriptor (T k).2.2.1 = some ty ∧ Cn = own
def ICall (own : String) (index : Nat) (y : MethodName) (bytes : ByteArray) (maxL n : Nat) : Prop :=
  Cond.methodLink own index y ∈ ALLW ∧ Cond.instanceMethod y ∈ ALLW ∧ Cond.initialized y.cls ∈ ALLW ∧ Cond.code y bytes maxL none ∈ ALLW ∧ y.name = "<init>" ∧ (y.cls ≠ "java/lang/invoke/MethodHandle" ∧ y.cls ≠ "java/lang/invoke/VarHandle" ∧ (parseMethodDescriptor y.desc).map (fun d => d.parameters.length) = some n)
def ICallN (own : String) (index : Nat) (y : MethodName) (host : String) (bytes : ByteArray) (maxL n : Nat) : Prop :=
  Cond.instanceMethod y ∈ ALLW ∧ Cond.initialized y.cls ∈ ALLW ∧ Cond.code y bytes maxL none ∈ ALLW ∧ y.name = "<init>" ∧ (y.cls ≠ "java/lang/invoke/MethodHandle" ∧ y.cls ≠ "java/lang/invoke/VarHandle" ∧ (parseMethodDescriptor y.desc).map (fun d => d.parameters.length) = some n)
section XN
variable {p : Program} {l : Launch} {e : Env} {R : Room} {s : State} {m : MethodId} {args : Array Value} {below : List Frame} {meth : Method} {c : Code} {H : Heap} {locs : List Loc} {cells slots : Nat} {Q : State → Prop}
variable {cc bytes : ByteArray} {pc nL index ci k Nn a b maxL n mc ms : Nat} {ls : Array Slot} {rest fs As : List Value} {E : En} {A : Nat → Prop} {own Cn : String} {T : u_T} {ws wc wr : va_W} {v : Value} {ty : FieldType} {y : MethodName} {rm : Room}
theorem n_putF (C : Cx p c cc nL s m args own E A) (hin : meth.name = "<init>") (G : FPF own index ci k Cn T Nn ty) (hP : va_P E.1 clz ws H) (hD : va_D A ws) (hS : va_S A s.heap H locs) (q0 : Nat) (he : ws[q0]? = some (a, .inr (ci, fs))) (hn : narrow ty v = v) (hfit : fits ty v = true) (hl : k < fs.length) (hdg : decode cc pc = .ok (.putfield index, 3))
    (kk : ∀ (H1 : Heap) (locs1 : List Loc), va_P E.1 clz (ws.set q0 (a, .inr (ci, fs.set k v))) H1 → va_D A (ws.set q0 (a, .inr (ci, fs.set k v))) → va_S A s.heap H1 locs1 → W p l e R s m args below meth c H1 locs1 cells slots Q (F0 m (pc + 3) ls rest)) : W p l e R s m args below meth c H locs cells slots Q (F0 m pc ls (v :: .ref a :: rest)) := by
  obtain ⟨⟨g1, g2, g3, g4, g5⟩, g6, ⟨ty0, g7⟩, g8, g9, g10⟩ := G
  exact va_putF C.1 C.2.1 C.2.2.2.2.1 g1 ty0 g7 g8 C.2.2.2.1 C.2.2.2.2.2.1 hP hD hS q0 he g2 k g3 (C.2.2.2.2.1 _ g4) (fun x h => by rw [g5] at h; exact h) g6 hin (g5.trans g10) g9 hn hfit hl hdg kk
theorem n_obj (C : Cx p c cc nL s m args own E A) (hk : Cond.methodLink own index objectInit ∈ ALLW ∧ Cond.instanceMethod objectInit ∈ ALLW ∧ Cond.code objectInit ⟨#[0xb1]⟩ 1 none ∈ ALLW) (hls : ls.size = nL) (hdg : decode cc pc = .ok (.invokespecial index, 3)) (hf : 1 ≤ R.frames) (hlo : (rest.map fun v => v.category).sum + 12 ≤ R.locals)
    (kk : W p l e R s m args below meth c H locs cells slots Q (F0 m (pc + 3) ls rest)) : W p l e R s m args below meth c H locs cells slots Q (F0 m pc ls (.ref a :: rest)) :=
  W.objInit C.1 C.2.1 C.2.2.2.1 (C.2.2.2.2.1 _ hk.1) (C.2.2.2.2.1 _ hk.2.1) (C.2.2.2.2.1 _ hk.2.2) rfl (by show ls.size = c.maxLocals; rw [hls, C.2.2.1]) rfl hdg hf (by show 2 * 0 + _ + 12 ≤ _; omega) kk
theorem n_newa (C : Cx p c cc nL s m args own E A) (hP : va_P E.1 clz ws H) (hD : va_D A ws) (hS : va_S A s.heap H locs) {atype : ArrayType} {cX : ClassId} (t0 : Nat) (hty : newarray.typeOf atype = ty) (hprim : va_RA = va_RA → ∀ U cA, va_RA U cA ty = (U.vm.findClass ("[" ++ ty.toString) = some cA)) (ht0 : (tyE E)[t0]? = some (cX, ty)) (harr : Cond.arrayClass ty ∈ ALLW) (hdef : defaultValue ty = .int 0) {x : Int32} (k : Nat) (hx : x = nI k) (hk : k ≤ 4000) (hb4 : componentBytes ty ≤ 8) (hcells : cells + 1 ≤ R.cells) (hslots : slots + k ≤ R.slots) (hdg : decode cc pc = .ok (.newarray atype, 2))
    (kk : ∀ (q : Nat) (H1 : Heap), va_P E.1 clz (ws ++ [(q, .inl (cX, k, .inl (fun _ => 0)))]) H1 → va_D A (ws ++ [(q, .inl (cX, k, .inl (fun _ => 0)))]) → va_S A s.heap H1 locs → W p l e R s m args below meth c H1 locs (cells + 1) (slots + k) Q (F0 m (pc + 2) ls (.ref q :: rest))) : W p l e R s m args below meth c H locs cells slots Q (F0 m pc ls (.int x :: rest)) := by
  subst hx
  refine va_newa C.1 C.2.1 (by rw [hty]; exact C.2.2.2.2.1 _ harr) hty C.2.2.2.2.2.1 hP hD hS C.2.2.2.2.2.2.2 (N' := k) (a0 := (k, .inl (fun _ => 0))) (fun cA => by rw [vp_cell_i, hdef]) (nI_pos (by omega)) (nI_clamp (by omega)) (Nat.le_trans (Nat.mul_le_mul hk hb4) (by decide)) hcells hslots hdg ?_
  intro q cA H1 hK1 hP1 hD1 hS1
  have h1 := (hK1.2 3 (cA, ty) rfl).2
  have h2 := (C.2.2.2.2.2.1.2 t0 (cX, ty) ht0).2
  rw [hprim rfl] at h1 h2
  have e : cA = cX := Option.some.inj (h1.symm.trans h2)
  subst e
  exact kk q H1 hP1 hD1 hS1
theorem n_new (C : Cx p c cc nL s m args own E A) (hck : Cond.classLink own index Cn ∈ ALLW ∧ Cond.instantiable Cn Nn ∈ ALLW ∧ Cond.initialized Cn ∈ ALLW) (hin : ∀ w ∈ u_ws Cn T Nn, w ∈ ALLW) (ty0 : Nat → FieldType) (hty : ∀ k, k < Nn → parseFieldDescriptor (T k).2.2.1 = some (ty0 k)) (hc : clz[ci]? = some (Cn, T, Nn)) (hfs : ∀ j, j < Nn → defaultValue (ty0 j) = vp_V fs j) (hP : va_P E.1 clz ws H) (hD : va_D A ws) (hS : va_S A s.heap H locs) (hcells : cells + 1 ≤ R.cells) (hslots : slots + Nn ≤ R.slots) (hdg : decode cc pc = .ok (.new index, 3))
    (kk : ∀ (q : Nat) (H1 : Heap), va_P E.1 clz (ws ++ [(q, .inr (ci, fs))]) H1 → va_D A (ws ++ [(q, .inr (ci, fs))]) → va_S A s.heap H1 locs → W p l e R s m args below meth c H1 locs (cells + 1) (slots + Nn) Q (F0 m (pc + 3) ls (.ref q :: rest))) : W p l e R s m args below meth c H locs cells slots Q (F0 m pc ls rest) :=
  va_new C.1 C.2.1 C.2.2.2.2.1 hin ty0 hty C.2.2.2.1 (C.2.2.2.2.1 _ hck.1) (C.2.2.2.2.1 _ hck.2.1) (C.2.2.2.2.1 _ hck.2.2) C.2.2.2.2.2.1 hP hD hS C.2.2.2.2.2.2.2 hc hfs hcells hslots hdg kk
theorem cal_N {post : va_W → Prop} (C : Cx p c cc nL s m args own E A) (V : ICall own index y bytes maxL n) (hM : CtN l y bytes maxL rm E (.ref b :: As) wc post mc ms) (hR : rm.cells = mc ∧ rm.slots = ms ∧ rm.frames + 1 ≤ R.frames ∧ 8 + (maxL + 11) + rm.locals ≤ R.locals)
    (hP : va_P E.1 clz ws H) (hD : va_D A ws) (hS : va_S A s.heap H locs) (isC isR : List Nat) (hC : isC.map (fun i => ws[i]?) = wc.map some) (hnd : va_nd isC = true) (hRr : isR.map (fun i => ws[i]?) = wr.map some) (hnr : va_nd isR = true) (hdis : ∀ i ∈ isR, i ∉ isC)
    (hls : ls.size = nL) (hn : As.length = n) (hst : (rest.map fun v => v.category).sum ≤ 8) (hdg : decode cc pc = .ok (.invokespecial index, 3)) (hf : cells + mc ≤ R.cells ∧ slots + ms ≤ R.slots)
    (kk : ∀ (w1 : va_W) (H1 : Heap) (locs1 : List Loc), post w1 → va_P E.1 clz (wr ++ w1) H1 → va_D A (wr ++ w1) → va_S A s.heap H1 locs1 → W p l e R s m args below meth c H1 locs1 (cells + mc) (slots + ms) Q (F0 m (pc + 3) ls rest)) :
    W p l e R s m args below meth c H locs cells slots Q (F0 m pc ls (As.reverse ++ .ref b :: rest)) := by
  obtain ⟨hx, hb, hml, hown, hts, hK, hX, hA⟩ := C
  obtain ⟨v1, v2, v3, v4, v5, v6⟩ := V
  have hF := va_free (wc := wc) hD hS hA isC hC
  refine va_callv (va_runI (As := As) (rest := rest) ⟨hx, hb, hml, hown, hts⟩ (hM H.size) (cwI n hts (good_code v4) rfl hR.1 hR.2.1 (hts _ v3) (hts _ v1) (hts _ v2) v5 v6 hR.2.2) ⟨Wi.blind, Wi.here hK hX hA hP hD hS isC hC hnd⟩ rfl hn hls rfl (lv_room hst) hdg hf) hS (fun q _ h => hF q h) hF (fun w1 t H1 locs1 ht hvm hpost hB hz1 hk1 hS1 => ?_)
  obtain ⟨hP1, -, hD1⟩ := hB
  rw [ht] at hP1
  obtain ⟨hP2, hD2⟩ := va_join (wr := wr) (w1 := w1) hP hD isC isR hC hRr hnr hdis hk1 hF hP1 hD1
  exact kk w1 H1 locs1 hpost hP2 hD2 hS1
theorem cal_NN {post : va_W → Prop} {host : String} (C : Cx p c cc nL s m args own E A) (V : ICallN own index y host bytes maxL n) (hNw : va_Nw (.methodLinkNest own index y host) s) (hM : CtN l y bytes maxL rm E (.ref b :: As) wc post mc ms) (hR : rm.cells = mc ∧ rm.slots = ms ∧ rm.frames + 1 ≤ R.frames ∧ 8 + (maxL + 11) + rm.locals ≤ R.locals)
    (hP : va_P E.1 clz ws H) (hD : va_D A ws) (hS : va_S A s.heap H locs) (isC isR : List Nat) (hC : isC.map (fun i => ws[i]?) = wc.map some) (hnd : va_nd isC = true) (hRr : isR.map (fun i => ws[i]?) = wr.map some) (hnr : va_nd isR = true) (hdis : ∀ i ∈ isR, i ∉ isC)
    (hls : ls.size = nL) (hn : As.length = n) (hst : (rest.map fun v => v.category).sum ≤ 8) (hdg : decode cc pc = .ok (.invokespecial index, 3)) (hf : cells + mc ≤ R.cells ∧ slots + ms ≤ R.slots)
    (kk : ∀ (w1 : va_W) (H1 : Heap) (locs1 : List Loc), post w1 → va_P E.1 clz (wr ++ w1) H1 → va_D A (wr ++ w1) → va_S A s.heap H1 locs1 → W p l e R s m args below meth c H1 locs1 (cells + mc) (slots + ms) Q (F0 m (pc + 3) ls rest)) :
    W p l e R s m args below meth c H locs cells slots Q (F0 m pc ls (As.reverse ++ .ref b :: rest)) := by
  obtain ⟨hx, hb, hml, hown, hts, hK, hX, hA⟩ := C
  obtain ⟨v2, v3, v4, v5, v6⟩ := V
  have hF := va_free (wc := wc) hD hS hA isC hC
  refine va_callv (va_runIN (As := As) (rest := rest) ⟨hx, hb, hml, hown, hts⟩ (hM H.size) ⟨va_cnB n hts (good_code v4) rfl hR.1 hR.2.1 hNw (hts _ v3) v6 hR.2.2, v5, hts _ v2⟩ ⟨Wi.blind, Wi.here hK hX hA hP hD hS isC hC hnd⟩ rfl hn hls rfl (lv_room hst) hdg hf) hS (fun q _ h => hF q h) hF (fun w1 t H1 locs1 ht hvm hpost hB hz1 hk1 hS1 => ?_)
  obtain ⟨hP1, -, hD1⟩ := hB
  rw [ht] at hP1
  obtain ⟨hP2, hD2⟩ := va_join (wr := wr) (w1 := w1) hP hD isC isR hC hRr hnr hdis hk1 hF hP1 hD1
  exact kk w1 H1 locs1 hpost hP2 hD2 hS1
theorem cal_NZ {post : va_W → Prop} (C : Cx p c cc nL s m args own E A) (V : ICall own index y bytes maxL n) (hN : NL s) (hM : CtNZ l y bytes maxL rm E (.ref b :: As) wc post mc ms) (hR : rm.cells = mc ∧ rm.slots = ms ∧ rm.frames + 1 ≤ R.frames ∧ 8 + (maxL + 11) + rm.locals ≤ R.locals)
    (hP : va_P E.1 clz ws H) (hD : va_D A ws) (hS : va_S A s.heap H locs) (isC isR : List Nat) (hC : isC.map (fun i => ws[i]?) = wc.map some) (hnd : va_nd isC = true) (hRr : isR.map (fun i => ws[i]?) = wr.map some) (hnr : va_nd isR = true) (hdis : ∀ i ∈ isR, i ∉ isC)
    (hls : ls.size = nL) (hn : As.length = n) (hst : (rest.map fun v => v.category).sum ≤ 8) (hdg : decode cc pc = .ok (.invokespecial index, 3)) (hf : cells + mc ≤ R.cells ∧ slots + ms ≤ R.slots)
    (kk : ∀ (w1 : va_W) (H1 : Heap) (locs1 : List Loc), post w1 → va_P E.1 clz (wr ++ w1) H1 → va_D A (wr ++ w1) → va_S A s.heap H1 locs1 → W p l e R s m args below meth c H1 locs1 (cells + mc) (slots + ms) Q (F0 m (pc + 3) ls rest)) :
    W p l e R s m args below meth c H locs cells slots Q (F0 m pc ls (As.reverse ++ .ref b :: rest)) := by
  obtain ⟨hx, hb, hml, hown, hts, hK, hX, hA⟩ := C
  obtain ⟨v1, v2, v3, v4, v5, v6⟩ := V
  have hF := va_free (wc := wc) hD hS hA isC hC
  refine va_callv (va_runI (As := As) (rest := rest) ⟨hx, hb, hml, hown, hts⟩ (hM H.size) (cwI n hts (good_code v4) rfl hR.1 hR.2.1 (hts _ v3) (hts _ v1) (hts _ v2) v5 v6 hR.2.2) ⟨fun a9 U g mk q => ⟨q.1, (Wi.blind (As := .ref b :: As) a9 U g mk ⟨q.1, q.2.1⟩).2, va_Nw.same rfl (u := U) (U := U.calling g mk a9) rfl q.2.2⟩, fun U hU hW => ⟨rfl, (Wi.here (v := []) hK hX hA hP hD hS isC hC hnd U hU hW).2, va_Nw.warmM hW hN⟩⟩ rfl hn hls rfl (lv_room hst) hdg hf) hS (fun q _ h => hF q h) hF (fun w1 t H1 locs1 ht hvm hpost hB hz1 hk1 hS1 => ?_)
  obtain ⟨hP1, -, hD1⟩ := hB
  rw [ht] at hP1
  obtain ⟨hP2, hD2⟩ := va_join (wr := wr) (w1 := w1) hP hD isC isR hC hRr hnr hdis hk1 hF hP1 hD1
  exact kk w1 H1 locs1 hpost hP2 hD2 hS1
end XN
