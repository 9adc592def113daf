def kL : List Int32 := [1116352408, 1899447441, (-1245643825), (-373957723), 961987163, 1508970993, (-1841331548), (-1424204075), (-670586216), 310598401, 607225278, 1426881987, 1925078388, (-2132889090), (-1680079193), (-1046744716), (-459576895), (-272742522), 264347078, 604807628, 770255983, 1249150122, 1555081692, 1996064986, (-1740746414), (-1473132947), (-1341970488), (-1084653625), (-958395405), (-710438585), 113926993, 338241895, 666307205, 773529912, 1294757372, 1396182291, 1695183700, 1986661051, (-2117940946), (-1838011259), (-1564481375), (-1474664885), (-1035236496), (-949202525), (-778901479), (-694614492), (-200395387), 275423344, 430227734, 506948616, 659060556, 883997877, 958139571, 1322822218, 1537002063, 1747873779, 1955562222, 2024104815, (-2067236844), (-1933114872), (-1866530822), (-1538233109), (-1090935817), (-965641998)]
def sL : List Int32 := [1779033703, (-1150833019), 1013904242, (-1521486534), 1359893119, (-1694144372), 528734635, 1541459225]
def shK (j : Nat) : Int32 := kL.getD j 0
def shS (j : Nat) : Int32 := sL.getD j 0
/-- the room of a method that makes nothing: so many frames deep -/
abbrev rmd (d : Nat) : Room := { frames := d, cells := 0, slots := 0, locals := 48 * d }
/-! What a method's world and contract are here: the whole list of cells that a method can reach, given and given back in the same order -/
abbrev En : Type := va_G × ClassId × ClassId × ClassId × Nat × Nat × Nat × Nat
abbrev tyE (E : En) : List (ClassId × FieldType) := [(E.2.1, .byte), (E.2.2.1, .int), (E.2.2.2.1, .boolean)]
/-- the four tables of constants: the class's START and ROUND, the reference's K and START -/
def Sx (E : En) (A : Nat → Prop) (U : State) (H : Heap) : Prop :=
  (va_Z RSha "START" "[I" (.ref E.2.2.2.2.1) A U H ∧ va_T .int E.2.2.2.2.1 8 (fun j => .int (shS j)) A U H) ∧
  (va_Z RSha "ROUND" "[I" (.ref E.2.2.2.2.2.1) A U H ∧ va_T .int E.2.2.2.2.2.1 64 (fun j => .int (shK j)) A U H) ∧
  (va_Z RMod "K" "[I" (.ref E.2.2.2.2.2.2.1) A U H ∧ va_T .int E.2.2.2.2.2.2.1 64 (fun j => .int (shK j)) A U H) ∧
  (va_Z RMod "START" "[I" (.ref E.2.2.2.2.2.2.2) A U H ∧ va_T .int E.2.2.2.2.2.2.2 8 (fun j => .int (shS j)) A U H)
theorem Sx.moved {E : En} {A : Nat → Prop} {u U : State} {H : Heap} (hvm : u.vm.Alike U.vm) (h : Sx E A u H) : Sx E A U H :=
  ⟨⟨va_Z.moved hvm h.1.1, va_T.moved hvm h.1.2⟩, ⟨va_Z.moved hvm h.2.1.1, va_T.moved hvm h.2.1.2⟩, ⟨va_Z.moved hvm h.2.2.1.1, va_T.moved hvm h.2.2.1.2⟩, ⟨va_Z.moved hvm h.2.2.2.1, va_T.moved hvm h.2.2.2.2⟩⟩
theorem Sx.kept {E : En} {A : Nat → Prop} {U : State} {H H1 : Heap} (h : Sx E A U H) (hq : ∀ a : Nat, a < H.size → ¬ A a → H1[a]? = H[a]?) : Sx E A U H1 :=
  ⟨⟨va_Z.kept h.1.1 hq, va_T.kept h.1.2 hq⟩, ⟨va_Z.kept h.2.1.1 hq, va_T.kept h.2.1.2 hq⟩, ⟨va_Z.kept h.2.2.1.1 hq, va_T.kept h.2.2.1.2 hq⟩, ⟨va_Z.kept h.2.2.2.1 hq, va_T.kept h.2.2.2.2 hq⟩⟩
theorem Sx.narrow {E : En} {A B : Nat → Prop} {U : State} {H : Heap} (h : Sx E A U H) (hAB : ∀ q, B q → A q) : Sx E B U H :=
  ⟨⟨va_Z.narrow h.1.1 hAB, va_T.narrow h.1.2 hAB⟩, ⟨va_Z.narrow h.2.1.1 hAB, va_T.narrow h.2.1.2 hAB⟩, ⟨va_Z.narrow h.2.2.1.1 hAB, va_T.narrow h.2.2.1.2 hAB⟩, ⟨va_Z.narrow h.2.2.2.1 hAB, va_T.narrow h.2.2.2.2 hAB⟩⟩
def Wi (E : En) (wc : va_W) (sz : Nat) (U : State) : Prop := U.heap.size = sz ∧ va_P E.1 clz wc U.heap ∧ va_K E.1 clz (tyE E) U ∧ va_D (fun _ => True) wc ∧ Sx E (va_A wc sz) U U.heap
def Wo (E : En) (wc w : va_W) (t : State) : Prop := va_P E.1 clz w t.heap ∧ va_K E.1 clz (tyE E) t ∧ w.map Prod.fst = wc.map Prod.fst
def CtI (l : Launch) (y : MethodName) (cc : ByteArray) (maxL : Nat) (ret : FieldType) (rm : Room) (E : En) (As : List Value) (wc : va_W) (post : Int32 → va_W → Prop) : Prop :=
  ∀ sz : Nat, Met l y (.code y cc maxL (some ret) :: ALLW) rm (va_Pc As (Wi E wc sz)) (va_Qi post (Wo E wc) (va_A wc sz)) 0 0 (va_A wc sz)
def CtV (l : Launch) (y : MethodName) (cc : ByteArray) (maxL : Nat) (rm : Room) (E : En) (As : List Value) (wc : va_W) (post : va_W → Prop) : Prop :=
  ∀ sz : Nat, Met l y (.code y cc maxL none :: ALLW) rm (va_Pc As (Wi E wc sz)) (va_Qv post (Wo E wc) (va_A wc sz)) 0 0 (va_A wc sz)
/-- what stays the same all through a walk -/
def Cx (p : Program) (c : Code) (cc : ByteArray) (nL : Nat) (s : State) (m : MethodId) (args : Array Value) (own : String) (E : En) (A : Nat → Prop) : Prop :=
  p.tables.exec = Jvm.exec ∧ c.code = cc ∧ c.maxLocals = nL ∧ s.vm.findClass own = some m.cls ∧ (∀ w ∈ ALLW, w.before args s = true) ∧ va_K E.1 clz (tyE E) s ∧ Sx E A s s.heap ∧ (∀ q : Nat, s.heap.size ≤ q → A q)
theorem Wi.blind {E : En} {wc : va_W} {sz : Nat} {As : List Value} : FrameBlind (va_Pc As (Wi E wc sz)) := fun a U g mk q => by
  obtain ⟨q0, q1, qP, qK, qD, qX⟩ := q
  exact ⟨q0, q1, qP, va_K.moved (u := U) (U := U.calling g mk a) (Vm.Alike.refl U.vm) qK, qD, Sx.moved (u := U) (U := U.calling g mk a) (Vm.Alike.refl U.vm) qX⟩
theorem CtI.of {l : Launch} {y : MethodName} {cc : ByteArray} {maxL : Nat} {ret : FieldType} {rm : Room} {E : En} {As : List Value} {wc : va_W} {post : Int32 → va_W → Prop} (hy : plainName y.cls = true) (hlen : (lg_sl As).length ≤ maxL)
    (hnar : ∀ r w, post r w → narrow ret (.int r) = .int r)
    (body : ∀ (p : Program) (e : Env) (s : State) (m : MethodId) (args : Array Value) (below : List Frame) (meth : Method) (c : Code) (A : Nat → Prop) (Q : State → Prop) (H : Heap) (locs : List Loc) (ls : Array Slot), Cx p c cc maxL s m args y.cls E A → va_P E.1 clz wc H → va_D A wc → va_S A s.heap H locs → lv_has ls maxL (lv_args 0 As) →
      (∀ (r : Int32) (w : va_W) (H : Heap) (locs : List Loc) (ls : Array Slot) (pc : Nat), decode cc pc = .ok (.ireturn, 1) → post r w → w.map Prod.fst = wc.map Prod.fst → va_P E.1 clz w H → va_S A s.heap H locs → W p l e rm s m args below meth c H locs 0 0 Q (F0 m pc ls [.int r])) →
      W p l e rm s m args below meth c H locs 0 0 Q (F0 m 0 ls [])) : CtI l y cc maxL ret rm E As wc post := by
  intro sz
  refine Met.ofW (cc := cc) (maxL := maxL) (ret := some ret) hy rfl ?_
  intro p e s m args below meth c s₁ B hml hv
  obtain ⟨rfl, hsz, hP, hK, hD0, hX⟩ := hv
  subst hsz
  have hlk := B.notSynchronized
  rw [lg_entry_eq]
  refine body p e s m _ below meth c (va_A wc s.heap.size) _ _ _ _ ⟨B.exec, B.bytes, hml, findClass_of_methodNamed B.named, fun w hw => atoms_spec B.pre w (List.mem_cons_of_mem _ hw), hK, hX, fun q h => Or.inr h⟩ hP hD0.self va_S.rf (lv_entry As hlen) ?_
  intro r w H locs ls pc hd hpost hw hP1 hS1
  exact W.zret (v := r) (ty := ret) B.exec B.bytes B.returns (hnar r w hpost) (fun t ht hW => ⟨⟨r, w, rfl, hpost, by rw [ht]; exact hP1, va_K.moved hW.alike hK, hw⟩, hS1.F ht⟩) hS1.2.2 hd
theorem CtV.of {l : Launch} {y : MethodName} {cc : ByteArray} {maxL : Nat} {rm : Room} {E : En} {As : List Value} {wc : va_W} {post : va_W → Prop} (hy : plainName y.cls = true) (hlen : (lg_sl As).length ≤ maxL)
    (body : ∀ (p : Program) (e : Env) (s : State) (m : MethodId) (args : Array Value) (below : List Frame) (meth : Method) (c : Code) (A : Nat → Prop) (Q : State → Prop) (H : Heap) (locs : List Loc) (ls : Array Slot), Cx p c cc maxL s m args y.cls E A → va_P E.1 clz wc H → va_D A wc → va_S A s.heap H locs → lv_has ls maxL (lv_args 0 As) →
      (∀ (w : va_W) (H : Heap) (locs : List Loc) (ls : Array Slot) (pc : Nat), decode cc pc = .ok (.return_, 1) → post w → w.map Prod.fst = wc.map Prod.fst → va_P E.1 clz w H → va_S A s.heap H locs → W p l e rm s m args below meth c H locs 0 0 Q (F0 m pc ls [])) →
      W p l e rm s m args below meth c H locs 0 0 Q (F0 m 0 ls [])) : CtV l y cc maxL rm E As wc post := by
  intro sz
  refine Met.ofW (cc := cc) (maxL := maxL) (ret := none) hy rfl ?_
  intro p e s m args below meth c s₁ B hml hv
  obtain ⟨rfl, hsz, hP, hK, hD0, hX⟩ := hv
  subst hsz
  have hlk := B.notSynchronized
  rw [lg_entry_eq]
  refine body p e s m _ below meth c (va_A wc s.heap.size) _ _ _ _ ⟨B.exec, B.bytes, hml, findClass_of_methodNamed B.named, fun w hw => atoms_spec B.pre w (List.mem_cons_of_mem _ hw), hK, hX, fun q h => Or.inr h⟩ hP hD0.self va_S.rf (lv_entry As hlen) ?_
  intro w H locs ls pc hd hpost hw hP1 hS1
  exact W.vret B.exec B.bytes B.returns (fun t ht hW => ⟨⟨w, rfl, hpost, by rw [ht]; exact hP1, va_K.moved hW.alike hK, hw⟩, hS1.F ht⟩) hS1.2.2 hd
/-- cells put back in their places -/
def sm : va_W → List Nat → va_W → va_W
  | ws, i :: is, x :: xs => sm (ws.set i x) is xs
  | ws, _, _ => ws
theorem fm_of {α β : Type} (f : α → Option β) : ∀ (l : List α) (w : List β), l.map f = w.map some → l.filterMap f = w := by
  intro l
  induction l with
  | nil =>
    intro w h
    cases w with
    | nil => rfl
    | cons b w => simp at h
  | cons a l ih =>
    intro w h
    cases w with
    | nil => simp at h
    | cons b w =>
      simp only [List.map_cons, List.cons.injEq] at h
      rw [List.filterMap_cons, h.1, ih w h.2]
theorem sm_cases : ∀ (is : List Nat) (xs ws : va_W) (k : Nat) (q : Nat × va_E), is.length = xs.length → (sm ws is xs)[k]? = some q → (∃ j : Nat, xs[j]? = some q) ∨ (k ∉ is ∧ ws[k]? = some q) := by
  intro is
  induction is with
  | nil =>
    intro xs ws k q hl h
    exact Or.inr ⟨by simp, by simpa [sm] using h⟩
  | cons i is ih =>
    intro xs ws k q hl h
    cases xs with
    | nil => simp at hl
    | cons x xs =>
      rcases ih xs (ws.set i x) k q (by simpa using hl) (by simpa [sm] using h) with ⟨j, hj⟩ | ⟨h1, h2⟩
      · exact Or.inl ⟨j + 1, by simpa using hj⟩
      · by_cases hk : i = k
        · subst hk
          rw [List.getElem?_set] at h2
          simp only [if_true] at h2
          split at h2
          · exact Or.inl ⟨0, by simpa using h2⟩
          · cases h2
        · rw [List.getElem?_set_ne hk] at h2
          exact Or.inr ⟨by simp [h1, Ne.symm hk], h2⟩
theorem sm_fst : ∀ (is : List Nat) (xs wc ws : va_W), is.map (fun i => ws[i]?) = wc.map some → xs.map Prod.fst = wc.map Prod.fst → va_nd is = true → (sm ws is xs).map Prod.fst = ws.map Prod.fst := by
  intro is
  induction is with
  | nil => intro xs wc ws _ _ _; simp [sm]
  | cons i is ih =>
    intro xs wc ws hC hx hnd
    cases wc with
    | nil => simp at hC
    | cons b wc =>
      cases xs with
      | nil => simp at hx
      | cons x xs =>
        simp only [List.map_cons, List.cons.injEq] at hC hx
        have hi : i ∉ is := by
          intro hm
          simp [va_nd, hm] at hnd
        have hnd2 : va_nd is = true := by
          simp [va_nd] at hnd
          exact hnd.2
        have h1 : (ws.set i x).map Prod.fst = ws.map Prod.fst := by
          apply List.ext_getElem?
          intro n
          simp only [List.getElem?_map, List.getElem?_set]
          by_cases hn : i = n
          · subst hn
            rw [hC.1]
            split <;> rename_i hh
            · split
              · simp [hx.1]
              · rename_i h9
                have := (List.getElem?_eq_some_iff.mp hC.1).1
                exact absurd this h9
            · exact absurd rfl hh
          · simp [hn]
        show (sm (ws.set i x) is xs).map Prod.fst = _
        rw [ih xs wc (ws.set i x) ?_ hx.2 hnd2, h1]
        rw [← hC.2]
        apply List.map_congr_left
        intro j hj
        apply List.getElem?_set_ne
        intro e9
        subst e9
        exact hi hj
theorem va_D_fst {A : Nat → Prop} {w w' : va_W} (h : va_D A w) (he : w'.map Prod.fst = w.map Prod.fst) : va_D A w' := by
  have key : ∀ (k : Nat) (q : Nat × va_E), w'[k]? = some q → ∃ q' : Nat × va_E, w[k]? = some q' ∧ q'.1 = q.1 := by
    intro k q hk
    have h1 : (w'.map Prod.fst)[k]? = some q.1 := by rw [List.getElem?_map, hk]; rfl
    rw [he, List.getElem?_map] at h1
    cases hw : w[k]? with
    | none => rw [hw] at h1; cases h1
    | some q' => rw [hw] at h1; exact ⟨q', rfl, Option.some.inj h1⟩
  refine ⟨fun i j p q hi hj hpq => ?_, fun k q hk => ?_⟩
  · obtain ⟨p', h1, h2⟩ := key i p hi
    obtain ⟨q', h3, h4⟩ := key j q hj
    exact h.1 i j p' q' h1 h3 (by rw [h2, h4, hpq])
  · obtain ⟨q', h1, h2⟩ := key k q hk
    rw [← h2]; exact h.2 k q' h1
theorem sm_P {A0 : Nat → Prop} {D : va_G} {cl : List vw_C} {ws wc w1 : va_W} {H H1 : Heap} (hP : va_P D cl ws H) (hD : va_D A0 ws) (isC : List Nat) (hC : isC.map (fun i => ws[i]?) = wc.map some)
    (hk : ∀ q : Nat, q < H.size → ¬ va_A wc H.size q → H1[q]? = H[q]?) (hP1 : va_P D cl w1 H1) (hf : w1.map Prod.fst = wc.map Prod.fst) : va_P D cl (sm ws isC w1) H1 := by
  have hlen : isC.length = w1.length := by
    have h1 := congrArg List.length hC
    have h2 := congrArg List.length hf
    simp at h1 h2
    omega
  intro k q hq
  rcases sm_cases isC w1 ws k q hlen hq with ⟨j, hj⟩ | ⟨h1, h2⟩
  · exact hP1 j q hj
  · refine (hP k q h2).kept (hk q.1 ((hP k q h2).lt) ?_)
    intro h
    rcases h with ⟨j, e, h⟩ | h
    · have h3 : (isC.map (fun i => ws[i]?))[j]? = some (some (q.1, e)) := by rw [hC, List.getElem?_map, h]; rfl
      rw [List.getElem?_map] at h3
      cases hi : isC[j]? with
      | none => rw [hi] at h3; cases h3
      | some i =>
        rw [hi] at h3
        have h4 : ws[i]? = some (q.1, e) := Option.some.inj h3
        have := hD.1 k i q (q.1, e) h2 h4 rfl
        subst this
        exact h1 (List.mem_of_getElem? hi)
    · have := (hP k q h2).lt
      omega
/-! calls -/
def VCall (own : String) (index : Nat) (y : MethodName) (bytes : ByteArray) (maxL : Nat) (ret : Option FieldType) (n : Nat) : Prop :=
  Cond.methodLink own index y ∈ ALLW ∧ Cond.instanceMethod y ∈ ALLW ∧ Cond.selects y.cls y y ∈ ALLW ∧ Cond.initialized y.cls ∈ ALLW ∧ Cond.code y bytes maxL ret ∈ ALLW ∧ (y.cls ≠ "java/lang/invoke/MethodHandle" ∧ y.cls ≠ "java/lang/invoke/VarHandle" ∧ (parseMethodDescriptor y.desc).map (fun d => d.parameters.length) = some n)
theorem good_code {y : MethodName} {bytes : ByteArray} {maxL : Nat} {ret : Option FieldType} (h : Cond.code y bytes maxL ret ∈ ALLW) : GoodIn ALLW (.code y bytes maxL ret :: ALLW) := by
  intro w hw
  rcases List.mem_cons.mp hw with rfl | hw
  · exact ⟨h, good_of_word (ALLW_good _ h)⟩
  · exact ⟨hw, good_of_word (ALLW_good _ hw)⟩
theorem VCall.good {own : String} {index : Nat} {y : MethodName} {bytes : ByteArray} {maxL n : Nat} {ret : Option FieldType} (V : VCall own index y bytes maxL ret n) : GoodIn ALLW (wsV own index y.cls y (.code y bytes maxL ret :: ALLW)) := by
  obtain ⟨v1, v2, v3, v4, v5, v6⟩ := V
  intro w hw
  have hw : w ∈ ([.methodLink own index y, .instanceMethod y, .selects y.cls y y, .initialized y.cls] : List Cond) ++ (.code y bytes maxL ret :: ALLW) := hw
  rcases List.mem_append.mp hw with hw | hw
  · simp only [List.mem_cons, List.mem_nil_iff, or_false] at hw
    rcases hw with rfl | rfl | rfl | rfl
    · exact ⟨v1, good_of_word (ALLW_good _ v1)⟩
    · exact ⟨v2, good_of_word (ALLW_good _ v2)⟩
    · exact ⟨v3, good_of_word (ALLW_good _ v3)⟩
    · exact ⟨v4, good_of_word (ALLW_good _ v4)⟩
  · exact good_code v5 w hw
section XC
variable {p : Program} {l : Launch} {e : Env} {R : Room} {s : State} {m : MethodId} {args : Array Value} {below : List Frame} {meth : Method} {c : Code} {H : Heap} {locs : List Loc} {Q : State → Prop}
variable {cc bytes : ByteArray} {pc nL maxL index n : Nat} {ls : Array Slot} {rest As : List Value} {E : En} {A : Nat → Prop} {own : String} {y : MethodName} {ret : FieldType} {rm : Room} {ws wc : va_W} {b : Nat} {fs : List Value} {T : u_T} {N : Nat}
theorem Wi.here {v : List Value} (hK : va_K E.1 clz (tyE E) s) (hX : Sx E A s s.heap) (hA : ∀ q : Nat, s.heap.size ≤ q → A q) (hP : va_P E.1 clz ws H) (hD : va_D A ws) (hS : va_S A s.heap H locs) (isC : List Nat) (hC : isC.map (fun i => ws[i]?) = wc.map some) (hnd : va_nd isC = true) :
    ∀ U : State, U.heap = H → s.WarmedH U.vm → va_Pc v (Wi E wc H.size) v.toArray U := by
  intro U hU hW
  have hF := va_free (wc := wc) hD hS hA isC hC
  refine ⟨rfl, by rw [hU], by rw [hU]; exact hP.sub isC (fm_of _ _ _ hC), va_K.moved hW.alike hK, (hD.sub isC hnd hC).weaken (fun _ _ _ _ => trivial), ?_⟩
  rw [hU]
  exact Sx.moved hW.alike ((hX.kept (fun a h1 h2 => hS.2.1 a h1 h2)).narrow hF)
theorem cal_I {post : Int32 → va_W → Prop} (C : Cx p c cc nL s m args own E A) (V : VCall own index y bytes maxL (some ret) n) (hM : CtI l y bytes maxL ret rm E (.ref b :: As) wc post) (hR : rm.cells = 0 ∧ rm.slots = 0 ∧ rm.frames + 1 ≤ R.frames ∧ 8 + (maxL + 11) + rm.locals ≤ R.locals)
    (hP : va_P E.1 clz ws H) (hD : va_D A ws) (hS : va_S A s.heap H locs) (q0 ci : Nat) (he : ws[q0]? = some (b, .inr (ci, fs))) (hc : clz[ci]? = some (y.cls, T, N)) (isC : List Nat) (hC : isC.map (fun i => ws[i]?) = wc.map some) (hnd : va_nd isC = true)
    (hls : ls.size = nL) (hn : As.length = n) (hst : (rest.map fun v => v.category).sum ≤ 8) (hdg : decode cc pc = .ok (.invokevirtual index, 3))
    (kk : ∀ (r : Int32) (w1 : va_W) (H1 : Heap) (locs1 : List Loc), post r w1 → va_P E.1 clz (sm ws isC w1) H1 → va_D A (sm ws isC w1) → va_S A s.heap H1 locs1 → W p l e R s m args below meth c H1 locs1 0 0 Q (F0 m (pc + 3) ls (.int r :: rest))) :
    W p l e R s m args below meth c H locs 0 0 Q (F0 m pc ls (As.reverse ++ .ref b :: rest)) := by
  obtain ⟨hx, hb, hml, hown, hts, hK, hX, hA⟩ := C
  have hF := va_free (wc := wc) hD hS hA isC hC
  refine va_calli (va_runV (C := y.cls) (As := As) (rest := rest) ⟨hx, hb, hml, hown, hts⟩ (hM H.size) (cwV n hts V.good rfl hR.1 hR.2.1 ⟨rfl, V.2.2.2.2.2⟩ hR.2.2) ⟨Wi.blind, va_recv hK hP hc he, Wi.here hK hX hA hP hD hS isC hC hnd⟩ rfl hn hls rfl (lv_room hst) hdg ⟨Nat.zero_le _, Nat.zero_le _⟩) hS (fun q _ h => hF q h) hF (fun r w1 t H1 locs1 ht hvm hpost hB hz1 hk1 hS1 => ?_)
  obtain ⟨hP1, -, hf⟩ := hB
  rw [ht] at hP1
  exact kk r w1 H1 locs1 hpost (sm_P hP hD isC hC hk1 hP1 hf) (va_D_fst hD (sm_fst isC w1 wc ws hC hf hnd)) hS1
theorem cal_V {post : va_W → Prop} (C : Cx p c cc nL s m args own E A) (V : VCall own index y bytes maxL none n) (hM : CtV l y bytes maxL rm E (.ref b :: As) wc post) (hR : rm.cells = 0 ∧ rm.slots = 0 ∧ rm.frames + 1 ≤ R.frames ∧ 8 + (maxL + 11) + rm.locals ≤ R.locals)
    (hP : va_P E.1 clz ws H) (hD : va_D A ws) (hS : va_S A s.heap H locs) (q0 ci : Nat) (he : ws[q0]? = some (b, .inr (ci, fs))) (hc : clz[ci]? = some (y.cls, T, N)) (isC : List Nat) (hC : isC.map (fun i => ws[i]?) = wc.map some) (hnd : va_nd isC = true)
    (hls : ls.size = nL) (hn : As.length = n) (hst : (rest.map fun v => v.category).sum ≤ 8) (hdg : decode cc pc = .ok (.invokevirtual index, 3))
    (kk : ∀ (w1 : va_W) (H1 : Heap) (locs1 : List Loc), post w1 → va_P E.1 clz (sm ws isC w1) H1 → va_D A (sm ws isC w1) → va_S A s.heap H1 locs1 → W p l e R s m args below meth c H1 locs1 0 0 Q (F0 m (pc + 3) ls rest)) :
    W p l e R s m args below meth c H locs 0 0 Q (F0 m pc ls (As.reverse ++ .ref b :: rest)) := by
  obtain ⟨hx, hb, hml, hown, hts, hK, hX, hA⟩ := C
  have hF := va_free (wc := wc) hD hS hA isC hC
  refine va_callv (va_runV (C := y.cls) (As := As) (rest := rest) ⟨hx, hb, hml, hown, hts⟩ (hM H.size) (cwV n hts V.good rfl hR.1 hR.2.1 ⟨rfl, V.2.2.2.2.2⟩ hR.2.2) ⟨Wi.blind, va_recv hK hP hc he, Wi.here hK hX hA hP hD hS isC hC hnd⟩ rfl hn hls rfl (lv_room hst) hdg ⟨Nat.zero_le _, Nat.zero_le _⟩) hS (fun q _ h => hF q h) hF (fun w1 t H1 locs1 ht hvm hpost hB hz1 hk1 hS1 => ?_)
  obtain ⟨hP1, -, hf⟩ := hB
  rw [ht] at hP1
  exact kk w1 H1 locs1 hpost (sm_P hP hD isC hC hk1 hP1 hf) (va_D_fst hD (sm_fst isC w1 wc ws hC hf hnd)) hS1
def SCall (own : String) (index : Nat) (y : MethodName) (bytes : ByteArray) (maxL : Nat) (ret : Option FieldType) (n : Nat) : Prop :=
  Cond.methodLink own index y ∈ ALLW ∧ Cond.static y ∈ ALLW ∧ Cond.initialized y.cls ∈ ALLW ∧ Cond.code y bytes maxL ret ∈ ALLW ∧ (y.cls ≠ "java/lang/invoke/MethodHandle" ∧ y.cls ≠ "java/lang/invoke/VarHandle" ∧ (parseMethodDescriptor y.desc).map (fun d => d.parameters.length) = some n)
theorem SCall.good {ret : Option FieldType} (V : SCall own index y bytes maxL ret n) : GoodIn ALLW (va_wsS own index y (.code y bytes maxL ret :: ALLW)) := by
  obtain ⟨v1, v2, v4, v5, v6⟩ := V
  intro w hw
  have hw : w ∈ ([.methodLink own index y, .static y, .initialized y.cls] : List Cond) ++ (.code y bytes maxL ret :: ALLW) := hw
  rcases List.mem_append.mp hw with hw | hw
  · simp only [List.mem_cons, List.mem_nil_iff, or_false] at hw
    rcases hw with rfl | rfl | rfl
    · exact ⟨v1, good_of_word (ALLW_good _ v1)⟩
    · exact ⟨v2, good_of_word (ALLW_good _ v2)⟩
    · exact ⟨v4, good_of_word (ALLW_good _ v4)⟩
  · exact good_code v5 w hw
theorem cal_S {post : Int32 → va_W → Prop} (C : Cx p c cc nL s m args own E A) (V : SCall own index y bytes maxL (some ret) n) (hM : CtI l y bytes maxL ret rm E As wc post) (hR : rm.cells = 0 ∧ rm.slots = 0 ∧ rm.frames + 1 ≤ R.frames ∧ 8 + (maxL + 11) + rm.locals ≤ R.locals)
    (hP : va_P E.1 clz ws H) (hD : va_D A ws) (hS : va_S A s.heap H locs) (isC : List Nat) (hC : isC.map (fun i => ws[i]?) = wc.map some) (hnd : va_nd isC = true)
    (hls : ls.size = nL) (hn : As.length = n) (hst : (rest.map fun v => v.category).sum ≤ 8) (hdg : decode cc pc = .ok (.invokestatic index, 3))
    (kk : ∀ (r : Int32) (w1 : va_W) (H1 : Heap) (locs1 : List Loc), post r w1 → va_P E.1 clz (sm ws isC w1) H1 → va_D A (sm ws isC w1) → va_S A s.heap H1 locs1 → W p l e R s m args below meth c H1 locs1 0 0 Q (F0 m (pc + 3) ls (.int r :: rest))) :
    W p l e R s m args below meth c H locs 0 0 Q (F0 m pc ls (As.reverse ++ rest)) := by
  obtain ⟨hx, hb, hml, hown, hts, hK, hX, hA⟩ := C
  have hF := va_free (wc := wc) hD hS hA isC hC
  refine va_calli (va_runS (As := As) (rest := rest) ⟨hx, hb, hml, hown, hts⟩ (hM H.size) (va_cwS n hts V.good rfl hR.1 hR.2.1 V.2.2.2.2 hR.2.2) ⟨Wi.blind, Wi.here hK hX hA hP hD hS isC hC hnd⟩ rfl hn hls rfl (lv_room hst) hdg ⟨Nat.zero_le _, Nat.zero_le _⟩) hS (fun q _ h => hF q h) hF (fun r w1 t H1 locs1 ht hvm hpost hB hz1 hk1 hS1 => ?_)
  obtain ⟨hP1, -, hf⟩ := hB
  rw [ht] at hP1
  exact kk r w1 H1 locs1 hpost (sm_P hP hD isC hC hk1 hP1 hf) (va_D_fst hD (sm_fst isC w1 wc ws hC hf hnd)) hS1
/-! rows with numbers that are places -/
theorem tope {x z : Int32} (h : x = z) (k : W p l e R s m args below meth c H locs 0 0 Q (F0 m pc ls (.int z :: rest))) : W p l e R s m args below meth c H locs 0 0 Q (F0 m pc ls (.int x :: rest)) := h ▸ k
theorem n_bald (C : Cx p c cc nL s m args own E A) (hP : va_P E.1 clz ws H) (q0 : Nat) {a M : Nat} {f : Nat → Int32} (ha : ws[q0]? = some (a, .inl (E.2.1, M, .inl f))) {i : Int32} (k : Nat) (hi : i = nI k) (hk : k < M) (hM : M < 2 ^ 31) (hdg : decode cc pc = .ok (.baload, 1))
    (kk : W p l e R s m args below meth c H locs 0 0 Q (F0 m (pc + 1) ls (.int (f k) :: rest))) : W p l e R s m args below meth c H locs 0 0 Q (F0 m pc ls (.int i :: .ref a :: rest)) := by
  subst hi
  refine va_bald C.1 C.2.1 C.2.2.2.2.2.1 hP q0 0 ha rfl (vp_in_nI hk hM) hdg ?_
  rw [nI_clamp (by omega)]
  exact kk
theorem n_zald (C : Cx p c cc nL s m args own E A) (hP : va_P E.1 clz ws H) (q0 : Nat) {a M : Nat} {f : Nat → Int32} (ha : ws[q0]? = some (a, .inl (E.2.2.2.1, M, .inl f))) {i : Int32} (k : Nat) (hi : i = nI k) (hk : k < M) (hM : M < 2 ^ 31) (hdg : decode cc pc = .ok (.baload, 1))
    (kk : W p l e R s m args below meth c H locs 0 0 Q (F0 m (pc + 1) ls (.int (f k) :: rest))) : W p l e R s m args below meth c H locs 0 0 Q (F0 m pc ls (.int i :: .ref a :: rest)) := by
  subst hi
  refine va_zald C.1 C.2.1 C.2.2.2.2.2.1 hP q0 2 ha rfl (vp_in_nI hk hM) hdg ?_
  rw [nI_clamp (by omega)]
  exact kk
theorem n_iald (C : Cx p c cc nL s m args own E A) (hP : va_P E.1 clz ws H) (q0 : Nat) {a M : Nat} {f : Nat → Int32} (ha : ws[q0]? = some (a, .inl (E.2.2.1, M, .inl f))) {i : Int32} (k : Nat) (hi : i = nI k) (hk : k < M) (hM : M < 2 ^ 31) (hdg : decode cc pc = .ok (.iaload, 1))
    (kk : W p l e R s m args below meth c H locs 0 0 Q (F0 m (pc + 1) ls (.int (f k) :: rest))) : W p l e R s m args below meth c H locs 0 0 Q (F0 m pc ls (.int i :: .ref a :: rest)) := by
  subst hi
  refine va_iald C.1 C.2.1 C.2.2.2.2.2.1 hP q0 1 ha rfl (vp_in_nI hk hM) hdg ?_
  rw [nI_clamp (by omega)]
  exact kk
theorem n_bast (C : Cx p c cc nL s m args own E A) (hP : va_P E.1 clz ws H) (hD : va_D A ws) (hS : va_S A s.heap H locs) (q0 : Nat) {a M : Nat} {f : Nat → Int32} (ha : ws[q0]? = some (a, .inl (E.2.1, M, .inl f))) {i x z : Int32} (k : Nat) (hi : i = nI k) (hz : x.toInt8.toInt32 = z) (hk : k < M) (hM : M < 2 ^ 31) (hdg : decode cc pc = .ok (.bastore, 1))
    (kk : ∀ (H1 : Heap) (locs1 : List Loc), va_P E.1 clz (ws.set q0 (a, .inl (E.2.1, M, .inl (upd f k z)))) H1 → va_D A (ws.set q0 (a, .inl (E.2.1, M, .inl (upd f k z)))) → va_S A s.heap H1 locs1 → W p l e R s m args below meth c H1 locs1 0 0 Q (F0 m (pc + 1) ls rest)) : W p l e R s m args below meth c H locs 0 0 Q (F0 m pc ls (.int x :: .int i :: .ref a :: rest)) := by
  subst hi
  refine va_bast C.1 C.2.1 C.2.2.2.2.2.1 hP hD hS q0 0 ha rfl (vp_in_nI hk hM) hdg ?_
  rw [nI_clamp (by omega), vp_nar_byte, hz]
  exact kk
theorem n_iast (C : Cx p c cc nL s m args own E A) (hP : va_P E.1 clz ws H) (hD : va_D A ws) (hS : va_S A s.heap H locs) (q0 : Nat) {a M : Nat} {f : Nat → Int32} (ha : ws[q0]? = some (a, .inl (E.2.2.1, M, .inl f))) {i x : Int32} (k : Nat) (hi : i = nI k) (hk : k < M) (hM : M < 2 ^ 31) (hdg : decode cc pc = .ok (.iastore, 1))
    (kk : ∀ (H1 : Heap) (locs1 : List Loc), va_P E.1 clz (ws.set q0 (a, .inl (E.2.2.1, M, .inl (upd f k x)))) H1 → va_D A (ws.set q0 (a, .inl (E.2.2.1, M, .inl (upd f k x)))) → va_S A s.heap H1 locs1 → W p l e R s m args below meth c H1 locs1 0 0 Q (F0 m (pc + 1) ls rest)) : W p l e R s m args below meth c H locs 0 0 Q (F0 m pc ls (.int x :: .int i :: .ref a :: rest)) := by
  subst hi
  refine va_iast C.1 C.2.1 C.2.2.2.2.2.1 hP hD hS q0 1 ha rfl (vp_in_nI hk hM) hdg ?_
  rw [nI_clamp (by omega)]
  exact kk
end XC
