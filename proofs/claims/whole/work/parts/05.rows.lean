theorem iincK (a k : Nat) : nI a + Int32.ofInt (k : Int) = nI (a + k) := by
  rw [← nI_add]
  rfl
def FG (own : String) (index ci k : Nat) (Cn : String) (T : u_T) (N : Nat) : Prop := (∀ w ∈ u_ws Cn T N, w ∈ ALLW) ∧ clz[ci]? = some (Cn, T, N) ∧ k < N ∧ Cond.fieldLink own index Cn (T k).2.1 (T k).2.2.1 ∈ ALLW ∧ (T k).1 = Cn
def FP (own : String) (index ci k : Nat) (Cn : String) (T : u_T) (N : Nat) (ty : FieldType) : Prop := FG own index ci k Cn T N ∧ (T k).2.2.2 = false ∧ (∃ ty0 : Nat → FieldType, ∀ j, j < N → parseFieldDescriptor (T j).2.2.1 = some (ty0 j)) ∧ (∀ a, a < N → ∀ b, b < N → a ≠ b → (T a).2.1 ≠ (T b).2.1) ∧ parseFieldDescriptor (T k).2.2.1 = some ty
section XF
variable {p : Program} {l : Launch} {e : Env} {R : Room} {s : State} {m : MethodId} {args : Array Value} {below : List Frame} {meth : Method} {c : Code} {H : Heap} {locs : List Loc} {cells slots : Nat} {Q : State → Prop}
variable {cc : ByteArray} {pc nL index ci k Nn a : Nat} {ls : Array Slot} {rest fs : List Value} {E : En} {A : Nat → Prop} {own Cn : String} {T : u_T} {ws : va_W} {v : Value} {ty : FieldType}
theorem n_get (C : Cx p c cc nL s m args own E A) (G : FG own index ci k Cn T Nn) (hP : va_P E.1 clz ws H) (q0 : Nat) (he : ws[q0]? = some (a, .inr (ci, fs))) (hv : fs[k]? = some v) (hdg : decode cc pc = .ok (.getfield index, 3))
    (kk : W p l e R s m args below meth c H locs cells slots Q (F0 m (pc + 3) ls (v :: rest))) : W p l e R s m args below meth c H locs cells slots Q (F0 m pc ls (.ref a :: rest)) :=
  va_get C.1 C.2.1 C.2.2.2.2.1 G.1 C.2.2.2.1 C.2.2.2.2.2.1 hP q0 he G.2.1 k G.2.2.1 (C.2.2.2.2.1 _ G.2.2.2.1) (fun x h => by rw [G.2.2.2.2] at h; exact h) hv hdg kk
theorem n_put (C : Cx p c cc nL s m args own E A) (G : FP own index ci k Cn T Nn ty) (hP : va_P E.1 clz ws H) (hD : va_D A ws) (hS : va_S A s.heap H locs) (q0 : Nat) (he : ws[q0]? = some (a, .inr (ci, fs))) (hn : narrow ty v = v) (hfit : fits ty v = true) (hl : k < fs.length) (hdg : decode cc pc = .ok (.putfield index, 3))
    (kk : ∀ (H1 : Heap) (locs1 : List Loc), va_P E.1 clz (ws.set q0 (a, .inr (ci, fs.set k v))) H1 → va_D A (ws.set q0 (a, .inr (ci, fs.set k v))) → va_S A s.heap H1 locs1 → W p l e R s m args below meth c H1 locs1 cells slots Q (F0 m (pc + 3) ls rest)) : W p l e R s m args below meth c H locs cells slots Q (F0 m pc ls (v :: .ref a :: rest)) := by
  obtain ⟨⟨g1, g2, g3, g4, g5⟩, g6, ⟨ty0, g7⟩, g8, g9⟩ := G
  exact va_put C.1 C.2.1 C.2.2.2.2.1 g1 ty0 g7 g8 C.2.2.2.1 C.2.2.2.2.2.1 hP hD hS q0 he g2 k g3 (C.2.2.2.2.1 _ g4) (fun x h => by rw [g5] at h; exact h) g6 g9 hn hfit hl hdg kk
theorem n_alenB (C : Cx p c cc nL s m args own E A) (hP : va_P E.1 clz ws H) (q0 : Nat) {M : Nat} {f : Nat → Int32} (ha : ws[q0]? = some (a, .inl (E.2.1, M, .inl f))) (hdg : decode cc pc = .ok (.arraylength, 1))
    (kk : W p l e R s m args below meth c H locs cells slots Q (F0 m (pc + 1) ls (.int (nI M) :: rest))) : W p l e R s m args below meth c H locs cells slots Q (F0 m pc ls (.ref a :: rest)) :=
  va_alen C.1 C.2.1 C.2.2.2.2.2.1 hP q0 0 ha rfl rfl hdg kk
theorem n_alenI (C : Cx p c cc nL s m args own E A) (hP : va_P E.1 clz ws H) (q0 : Nat) {M : Nat} {f : Nat → Int32} (ha : ws[q0]? = some (a, .inl (E.2.2.1, M, .inl f))) (hdg : decode cc pc = .ok (.arraylength, 1))
    (kk : W p l e R s m args below meth c H locs cells slots Q (F0 m (pc + 1) ls (.int (nI M) :: rest))) : W p l e R s m args below meth c H locs cells slots Q (F0 m pc ls (.ref a :: rest)) :=
  va_alen C.1 C.2.1 C.2.2.2.2.2.1 hP q0 1 ha rfl rfl hdg kk
theorem n_gets (C : Cx p c cc nL s m args own E A) {n d : String} (hlk : Cond.fieldLink own index Cn n d ∈ ALLW) (hZ : va_Z Cn n d v A s s.heap) (hS : va_S A s.heap H locs) (hdg : decode cc pc = .ok (.getstatic index, 3))
    (kk : W p l e R s m args below meth c H locs cells slots Q (F0 m (pc + 3) ls (v :: rest))) : W p l e R s m args below meth c H locs cells slots Q (F0 m pc ls rest) :=
  va_gets C.1 C.2.1 hZ hS C.2.2.2.1 (C.2.2.2.2.1 _ hlk) (fun _ h => h) hdg kk
theorem n_tab (C : Cx p c cc nL s m args own E A) {t M : Nat} {F : Nat → Int32} (hT : va_T .int t M (fun j => .int (F j)) A s s.heap) {i : Int32} (j : Nat) (hi : i = nI j) (hj : j < M) (hM : M < 2 ^ 31) (hS : va_S A s.heap H locs) (hdg : decode cc pc = .ok (.iaload, 1))
    (kk : W p l e R s m args below meth c H locs cells slots Q (F0 m (pc + 1) ls (.int (F j) :: rest))) : W p l e R s m args below meth c H locs cells slots Q (F0 m pc ls (.int i :: .ref t :: rest)) := by
  subst hi
  exact va_ti C.1 C.2.1 hT hS (vp_in_nI hj hM) (by show Value.int (F _) = _; rw [nI_clamp (by omega)]) hdg kk
theorem n_zast (C : Cx p c cc nL s m args own E A) (hP : va_P E.1 clz ws H) (hD : va_D A ws) (hS : va_S A s.heap H locs) (q0 : Nat) {M : Nat} {f : Nat → Int32} (ha : ws[q0]? = some (a, .inl (E.2.2.2.1, M, .inl f))) {i x : Int32} (j : Nat) (hi : i = nI j) (hz : narrow .boolean (.int x) = .int x) (hk : j < M) (hM : M < 2 ^ 31) (hdg : decode cc pc = .ok (.bastore, 1))
    (kk : ∀ (H1 : Heap) (locs1 : List Loc), va_P E.1 clz (ws.set q0 (a, .inl (E.2.2.2.1, M, .inl (upd f j x)))) H1 → va_D A (ws.set q0 (a, .inl (E.2.2.2.1, M, .inl (upd f j x)))) → va_S A s.heap H1 locs1 → W p l e R s m args below meth c H1 locs1 cells slots Q (F0 m (pc + 1) ls rest)) : W p l e R s m args below meth c H locs cells slots Q (F0 m pc ls (.int x :: .int i :: .ref a :: rest)) := by
  subst hi
  have hv : vp_nar .boolean x = x := by unfold vp_nar; rw [hz]
  refine va_zast C.1 C.2.1 C.2.2.2.2.2.1 hP hD hS q0 2 ha rfl (vp_in_nI hk hM) hdg ?_
  rw [nI_clamp (by omega), hv]
  exact kk
/-- System.arraycopy between byte rows of ours -/
theorem n_cpy (C : Cx p c cc nL s m args own E A) (hlk : Cond.methodLink own index arraycopyName ∈ ALLW ∧ Cond.native arraycopyName ∈ ALLW ∧ Cond.static arraycopyName ∈ ALLW ∧ Cond.initialized "java/lang/System" ∈ ALLW) (hP : va_P E.1 clz ws H) (hD : va_D A ws) (hS : va_S A s.heap H locs) (q0 q1 : Nat) {a0 n0 n1 : Nat} {f g : Nat → Int32} (ha0 : ws[q0]? = some (a0, .inl (E.2.1, n0, .inl f))) (ha1 : ws[q1]? = some (a, .inl (E.2.1, n1, .inl g)))
    {sp dp n : Int32} (i j k : Nat) (h1 : sp = nI i) (h2 : dp = nI j) (h3 : n = nI k) (h4 : i + k ≤ n0) (h5 : j + k ≤ n1) (hN : n0 < 2 ^ 31 ∧ n1 < 2 ^ 31) (hf : fB f) (hls : ls.size = nL)
    (hframes : 1 ≤ R.frames) (hlocals : (rest.map fun v => v.category).sum + (nativeFrameWords "java/lang/System" "arraycopy" 5 + 11) ≤ R.locals) (hdg : decode cc pc = .ok (.invokestatic index, 3))
    (kk : ∀ (H1 : Heap) (locs1 : List Loc), va_P E.1 clz (ws.set q1 (a, .inl (E.2.1, n1, .inl (va_cpy f g i j k)))) H1 → va_D A (ws.set q1 (a, .inl (E.2.1, n1, .inl (va_cpy f g i j k)))) → va_S A s.heap H1 locs1 → W p l e R s m args below meth c H1 locs1 cells slots Q (F0 m (pc + 3) ls rest)) : W p l e R s m args below meth c H locs cells slots Q (F0 m pc ls (.int n :: .int dp :: .ref a :: .int sp :: .ref a0 :: rest)) := by
  subst h1 h2 h3
  have e1 : (nI i).toNatClampNeg = i := nI_clamp (by omega)
  have e2 : (nI j).toNatClampNeg = j := nI_clamp (by omega)
  have e3 : (nI k).toNatClampNeg = k := nI_clamp (by omega)
  refine va_copyi C.1 C.2.1 (by rw [C.2.2.1, hls]) C.2.2.2.1 (C.2.2.2.2.1 _ hlk.1) (C.2.2.2.2.1 _ hlk.2.1) (C.2.2.2.2.1 _ hlk.2.2.1) (C.2.2.2.2.1 _ hlk.2.2.2) C.2.2.2.2.2.1 hP hD hS q0 q1 0 0 (ty := .byte) ha0 ha1 rfl rfl rfl (nI_pos (by omega)) (nI_pos (by omega)) (nI_pos (by omega)) (by rw [e1, e3]; exact h4) (by rw [e2, e3]; exact h5) (fun q _ => ?_) hframes hlocals hdg ?_
  · have := pk_fb (f ((nI i).toNatClampNeg + q))
    rw [show (f ((nI i).toNatClampNeg + q)).toInt8.toInt32 = f ((nI i).toNatClampNeg + q) from hf _] at this
    exact this
  · rw [e1, e2, e3]
    exact kk
/-- System.arraycopy between byte rows of ours, bytes where they are copied -/
theorem n_cpy2 (C : Cx p c cc nL s m args own E A) (hlk : Cond.methodLink own index arraycopyName ∈ ALLW ∧ Cond.native arraycopyName ∈ ALLW ∧ Cond.static arraycopyName ∈ ALLW ∧ Cond.initialized "java/lang/System" ∈ ALLW) (hP : va_P E.1 clz ws H) (hD : va_D A ws) (hS : va_S A s.heap H locs) (q0 q1 : Nat) {a0 n0 n1 : Nat} {f g : Nat → Int32} (ha0 : ws[q0]? = some (a0, .inl (E.2.1, n0, .inl f))) (ha1 : ws[q1]? = some (a, .inl (E.2.1, n1, .inl g)))
    {sp dp n : Int32} (i j k : Nat) (h1 : sp = nI i) (h2 : dp = nI j) (h3 : n = nI k) (h4 : i + k ≤ n0) (h5 : j + k ≤ n1) (hN : n0 < 2 ^ 31 ∧ n1 < 2 ^ 31) (hf : ∀ q, q < k → isB (f (i + q))) (hls : ls.size = nL)
    (hframes : 1 ≤ R.frames) (hlocals : (rest.map fun v => v.category).sum + (nativeFrameWords "java/lang/System" "arraycopy" 5 + 11) ≤ R.locals) (hdg : decode cc pc = .ok (.invokestatic index, 3))
    (kk : ∀ (H1 : Heap) (locs1 : List Loc), va_P E.1 clz (ws.set q1 (a, .inl (E.2.1, n1, .inl (va_cpy f g i j k)))) H1 → va_D A (ws.set q1 (a, .inl (E.2.1, n1, .inl (va_cpy f g i j k)))) → va_S A s.heap H1 locs1 → W p l e R s m args below meth c H1 locs1 cells slots Q (F0 m (pc + 3) ls rest)) : W p l e R s m args below meth c H locs cells slots Q (F0 m pc ls (.int n :: .int dp :: .ref a :: .int sp :: .ref a0 :: rest)) := by
  subst h1 h2 h3
  have e1 : (nI i).toNatClampNeg = i := nI_clamp (by omega)
  have e2 : (nI j).toNatClampNeg = j := nI_clamp (by omega)
  have e3 : (nI k).toNatClampNeg = k := nI_clamp (by omega)
  refine va_copyi C.1 C.2.1 (by rw [C.2.2.1, hls]) C.2.2.2.1 (C.2.2.2.2.1 _ hlk.1) (C.2.2.2.2.1 _ hlk.2.1) (C.2.2.2.2.1 _ hlk.2.2.1) (C.2.2.2.2.1 _ hlk.2.2.2) C.2.2.2.2.2.1 hP hD hS q0 q1 0 0 (ty := .byte) ha0 ha1 rfl rfl rfl (nI_pos (by omega)) (nI_pos (by omega)) (nI_pos (by omega)) (by rw [e1, e3]; exact h4) (by rw [e2, e3]; exact h5) (fun q hq9 => ?_) hframes hlocals hdg ?_
  · have := pk_fb (f ((nI i).toNatClampNeg + q))
    rw [e1] at this ⊢
    rw [e3] at hq9
    rw [show (f (i + q)).toInt8.toInt32 = f (i + q) from hf q hq9] at this
    exact this
  · rw [e1, e2, e3]
    exact kk
theorem n_min (C : Cx p c cc nL s m args own E A) (hlk : Cond.methodLink own index Lib.Math.min.name ∈ ALLW ∧ Cond.static Lib.Math.min.name ∈ ALLW ∧ Cond.initialized "java/lang/Math" ∈ ALLW ∧ Cond.code Lib.Math.min.name Lib.Math.min.code 2 (some .int) ∈ ALLW) {x y : Int32} (a b : Nat) (hx : x = nI a) (hy : y = nI b) (hab : a ≤ b) (hb9 : b < 2 ^ 31) (hls : ls.size = nL) (hframes : 1 ≤ R.frames) (hlocals : (rest.map fun v => v.category).sum + 13 ≤ R.locals) (hc : cells ≤ R.cells) (hs : slots ≤ R.slots) (hdg : decode cc pc = .ok (.invokestatic index, 3))
    (kk : W p l e R s m args below meth c H locs cells slots Q (F0 m (pc + 3) ls (.int (nI a) :: rest))) : W p l e R s m args below meth c H locs cells slots Q (F0 m pc ls (.int y :: .int x :: rest)) := by
  subst hx hy
  refine va_mmin C.1 C.2.1 (by rw [C.2.2.1, hls]) C.2.2.2.1 (C.2.2.2.2.1 _ hlk.1) (C.2.2.2.2.1 _ hlk.2.1) (C.2.2.2.2.1 _ hlk.2.2.1) (C.2.2.2.2.1 _ hlk.2.2.2) hframes hlocals hc hs hdg ?_
  rw [if_neg (by rw [nI_ltI hb9 (by omega)]; omega)]
  exact kk
end XF
