theorem RC_len {E : En} {z0 t0 tb o0 ob p0 pb r0 rb u0 e0 eb es s0 m0 d0 x0 h0 a1 a2 c0 : Nat} {Mz : MS} {w : va_W} (h : RC E z0 t0 tb o0 ob p0 pb r0 rb u0 e0 eb es s0 m0 d0 x0 h0 a1 a2 c0 Mz w) : w.length = 21 := by
  obtain ⟨tp, ou, s1, s2, msg, sk⟩ := Mz
  obtain ⟨n, bo, bh, fl, f1, f2, f3, f4, mf, f, sz, df, xf, st, wv, h, -⟩ := h
  rw [h]
  rfl
theorem RM_len {E : En} {y0 ya yo ym yl yg yw yh yc yd yb yk yz yr : Nat} {Mz : MS} {w : va_W} (h : RM E y0 ya yo ym yl yg yw yh yc yd yb yk yz yr Mz w) : w.length = 14 := by
  obtain ⟨tp, ou, s1, s2, msg, sk⟩ := Mz
  obtain ⟨nd, gl, k1, k2, k3, k4, k5, k6, k7, k8, k9, kb, gf, gz, kr, h, -⟩ := h
  rw [h]
  rfl
theorem sm_G : ∀ (a w1 pre bb : va_W), w1.length = a.length → sm (pre ++ (a ++ bb)) (List.range' pre.length a.length) w1 = pre ++ (w1 ++ bb) := by
  intro a
  induction a with
  | nil =>
    intro w1 pre bb h
    cases w1 with
    | nil => rfl
    | cons y w1 => cases h
  | cons x a ih =>
    intro w1 pre bb h
    cases w1 with
    | nil => cases h
    | cons y w1 =>
      have hl : w1.length = a.length := Nat.succ.inj h
      have h1 : (pre ++ (x :: a ++ bb)).set pre.length y = (pre ++ [y]) ++ (a ++ bb) := by
        rw [List.set_append_right _ _ (Nat.le_refl _), Nat.sub_self, List.append_assoc]
        rfl
      have h2 := ih w1 (pre ++ [y]) bb hl
      rw [List.length_append] at h2
      show sm ((pre ++ (x :: a ++ bb)).set pre.length y) (List.range' (pre.length + 1) a.length) w1 = _
      rw [h1]
      refine h2.trans ?_
      rw [List.append_assoc]
      rfl
theorem hC_G (pre a bb : va_W) : (List.range' pre.length a.length).map (fun i => (pre ++ (a ++ bb))[i]?) = a.map some := by
  apply List.ext_getElem?
  intro i
  rw [List.getElem?_map, List.getElem?_map]
  rcases Nat.lt_or_ge i a.length with h | h
  · rw [List.getElem?_range' h]
    show some ((pre ++ (a ++ bb))[pre.length + 1 * i]?) = _
    rw [Nat.one_mul, List.getElem?_append_right (Nat.le_add_right _ _), Nat.add_sub_cancel_left, List.getElem?_append_left h, List.getElem?_eq_getElem h]
    rfl
  · rw [List.getElem?_eq_none (by rw [List.length_range']; exact h), List.getElem?_eq_none h]
    rfl
section XL
variable {p : Program} {l : Launch} {e : Env} {R : Room} {s : State} {m : MethodId} {args : Array Value} {below : List Frame} {meth : Method} {c : Code} {H : Heap} {locs : List Loc} {cells slots : Nat} {Q : State → Prop}
variable {cc bytes : ByteArray} {pc nL maxL index n : Nat} {ls : Array Slot} {rest As : List Value} {E : En} {A : Nat → Prop} {own : String} {y : MethodName} {ret : FieldType} {rm : Room} {wc wm : va_W} {b : Nat} {fs : List Value} {T : u_T} {N : Nat}
theorem cal_IgL {post : Int32 → va_W → Prop} (C : Cx p c cc nL s m args own E A) (V : VCall own index y bytes maxL (some ret) n) (hM : CtI l y bytes maxL ret rm E (.ref b :: As) wc post) (hR : rm.cells = 0 ∧ rm.slots = 0 ∧ rm.frames + 1 ≤ R.frames ∧ 8 + (maxL + 11) + rm.locals ≤ R.locals) (hcs : cells ≤ R.cells ∧ slots ≤ R.slots)
    (hP : va_P E.1 clz (wc ++ wm) H) (hD : va_D A (wc ++ wm)) (hS : va_S A s.heap H locs) (ci : Nat) (he : wc[0]? = some (b, .inr (ci, fs))) (hc : clz[ci]? = some (y.cls, T, N)) (hlc : wc.length = 21) (hlen : ∀ (r : Int32) (w : va_W), post r w → w.length = 21)
    (hls : ls.size = nL) (hn : As.length = n) (hst : (rest.map fun v => v.category).sum ≤ 8) (hdg : decode cc pc = .ok (.invokevirtual index, 3))
    (kk : ∀ (r : Int32) (w1 : va_W) (H1 : Heap) (locs1 : List Loc), post r w1 → va_P E.1 clz (w1 ++ wm) H1 → va_D A (w1 ++ wm) → va_S A s.heap H1 locs1 → W p l e R s m args below meth c H1 locs1 cells slots Q (F0 m (pc + 3) ls (.int r :: rest))) :
    W p l e R s m args below meth c H locs cells slots Q (F0 m pc ls (As.reverse ++ .ref b :: rest)) := by
  have h0 : (wc ++ wm)[0]? = some (b, .inr (ci, fs)) := by rw [List.getElem?_append_left (by rw [hlc]; decide)]; exact he
  refine cal_Ig C V hM hR hcs hP hD hS 0 ci h0 hc (List.range' 0 21) (hlc ▸ hC_G [] wc wm) (by decide) hls hn hst hdg (fun r w1 H1 locs1 hp hP hD hS => ?_)
  have h9 : sm (wc ++ wm) (List.range' 0 21) w1 = w1 ++ wm := hlc ▸ sm_G wc w1 [] wm ((hlen r w1 hp).trans hlc.symm)
  rw [h9] at hP hD
  exact kk r w1 H1 locs1 hp hP hD hS
theorem cal_IgR {post : Int32 → va_W → Prop} (C : Cx p c cc nL s m args own E A) (V : VCall own index y bytes maxL (some ret) n) (hM : CtI l y bytes maxL ret rm E (.ref b :: As) wm post) (hR : rm.cells = 0 ∧ rm.slots = 0 ∧ rm.frames + 1 ≤ R.frames ∧ 8 + (maxL + 11) + rm.locals ≤ R.locals) (hcs : cells ≤ R.cells ∧ slots ≤ R.slots)
    (hP : va_P E.1 clz (wc ++ wm) H) (hD : va_D A (wc ++ wm)) (hS : va_S A s.heap H locs) (ci : Nat) (he : wm[0]? = some (b, .inr (ci, fs))) (hc : clz[ci]? = some (y.cls, T, N)) (hlc : wc.length = 21) (hlm : wm.length = 14) (hlen : ∀ (r : Int32) (w : va_W), post r w → w.length = 14)
    (hls : ls.size = nL) (hn : As.length = n) (hst : (rest.map fun v => v.category).sum ≤ 8) (hdg : decode cc pc = .ok (.invokevirtual index, 3))
    (kk : ∀ (r : Int32) (w1 : va_W) (H1 : Heap) (locs1 : List Loc), post r w1 → va_P E.1 clz (wc ++ w1) H1 → va_D A (wc ++ w1) → va_S A s.heap H1 locs1 → W p l e R s m args below meth c H1 locs1 cells slots Q (F0 m (pc + 3) ls (.int r :: rest))) :
    W p l e R s m args below meth c H locs cells slots Q (F0 m pc ls (As.reverse ++ .ref b :: rest)) := by
  have h0 : (wc ++ wm)[21]? = some (b, .inr (ci, fs)) := by rw [List.getElem?_append_right (by rw [hlc]; exact Nat.le_refl _), hlc]; exact he
  have hq := hC_G wc wm []
  rw [hlc, hlm, List.append_nil] at hq
  refine cal_Ig C V hM hR hcs hP hD hS 21 ci h0 hc (List.range' 21 14) hq (by decide) hls hn hst hdg (fun r w1 H1 locs1 hp hP hD hS => ?_)
  have h9 := sm_G wm w1 wc [] ((hlen r w1 hp).trans hlm.symm)
  rw [hlc, hlm, List.append_nil, List.append_nil] at h9
  rw [h9] at hP hD
  exact kk r w1 H1 locs1 hp hP hD hS
end XL
set_option maxHeartbeats 40000000 in
set_option maxRecDepth 100000 in
/-- the walk of the law's body -/
theorem whole_start {p : Program} {e : Env} {s : State} {m : MethodId} {below : List Frame} {meth : Method} {c : Code} (l : Launch) {b L : Nat} {xs : Nat → Int32} (hL : L ≤ 3072) (C0 : lw_At p s m meth c b L xs) : W p l e room_1 s m #[Value.ref b] below meth c s.heap [] 0 0 (lw_Z below #[Value.ref b] s) (entryFrame m ([Value.ref b] : List Value).toArray 4) := by
  obtain ⟨E, C⟩ := law_cx C0
  obtain ⟨-, -, hret, -, -, hts0, hX, hbl, hlk, -⟩ := C0
  have hN : NL s := va_Nw.of rfl (hts0 _ nl_in)
  generalize hA : (fun q : Nat => s.heap.size ≤ q) = A at C
  have hbA : ¬ A b := by rw [← hA]; exact Nat.not_le.mpr hbl
  have hx := C.1
  have hb := C.2.1
  have hS : va_S A s.heap s.heap [] := va_S.rf
  have hP : va_P E.1 clz [] s.heap := fun k q h => by cases h
  have hD : va_D A [] := ⟨fun i j p q h => (by cases h), fun k q h => (by cases h)⟩
  rw [lg_entry_eq]
  have hl := lv_entry ([.ref b]) (n := 4) (Nat.le_of_ble_eq_true rfl)
  generalize (lg_sl ([.ref b]) ++ List.replicate (4 - (lg_sl ([.ref b])).length) Slot.unset).toArray = ls at hl ⊢
  have hl : lv_has ls 4 [(0, .ref b)] := hl
  generalize hQ : lw_Z below #[Value.ref b] s = Q
  refine n_new (ci := 6) (T := TSS) (Nn := 9) (fs := [.null, .null, .null, .null, .null, .null, .null, .null, .int 0]) C ck_Law_7 in_SS tySS tyok_SS rfl (by decide +kernel) hP hD hS (by decide) (by decide) d_Law_law_0 (fun z0 H hP hD hS => ?_)
  have hP : va_P E.1 clz [(z0, .inr (6, [.null, .null, .null, .null, .null, .null, .null, .null, .int 0]))] H := hP
  have hD : va_D A [(z0, .inr (6, [.null, .null, .null, .null, .null, .null, .null, .null, .int 0]))] := hD
  refine lv_dup hx hb d_Law_law_3 rfl ?_
  refine cal_NZ (wr := []) (As := []) (rest := [.ref z0]) C ik_Law_9 hN (c_SS_init l E z0) (by decide) hP hD hS [0] [] rfl (by decide) rfl (by decide) (by decide) hl.1 rfl (Nat.le_of_ble_eq_true rfl) d_Law_law_4 (by decide) (fun w1 H locs hp hP hD hS => ?_)
  obtain ⟨t0, tb, o0, ob, p0, pb, r0, rb, u0, e0, eb, es, s0, h0, a1, a2, m0, d0, x0, c0, rfl⟩ := hp
  have hP : va_P E.1 clz [(z0, .inr (6, [.ref t0, .ref o0, .ref p0, .ref r0, .ref u0, .ref e0, .ref s0, .ref h0, .int (nI 0)])), (t0, .inr (2, [.ref tb, .int (nI 0)])), (tb, .inl (E.2.1, 400, .inl (fun _ => 0))), (o0, .inr (2, [.ref ob, .int (nI 0)])), (ob, .inl (E.2.1, 32, .inl (fun _ => 0))), (p0, .inr (2, [.ref pb, .int (nI 0)])), (pb, .inl (E.2.1, 80, .inl (fun _ => 0))), (r0, .inr (2, [.ref rb, .int (nI 0)])), (rb, .inl (E.2.1, 80, .inl (fun _ => 0))), (u0, .inr (3, [.ref e0, .ref s0, .ref h0, .ref c0])), (e0, .inr (1, [.ref eb, .ref es, .int (nI 0)])), (eb, .inl (E.2.1, 1920, .inl (fun _ => 0))), (es, .inl (E.2.2.1, 24, .inl (fun _ => 0))), (s0, .inr (5, [.ref m0, .ref d0, .ref h0, .ref x0])), (h0, .inr (4, [.ref a1, .ref a2])), (a1, .inl (E.2.2.1, 8, .inl (fun _ => 0))), (a2, .inl (E.2.2.1, 64, .inl (fun _ => 0))), (m0, .inl (E.2.1, 32, .inl (fun _ => 0))), (d0, .inl (E.2.1, 32, .inl (fun _ => 0))), (x0, .inl (E.2.1, 112, .inl (fun _ => 0))), (c0, .inr (0, [.int 0, .int 0]))] H := hP
  have hD : va_D A [(z0, .inr (6, [.ref t0, .ref o0, .ref p0, .ref r0, .ref u0, .ref e0, .ref s0, .ref h0, .int (nI 0)])), (t0, .inr (2, [.ref tb, .int (nI 0)])), (tb, .inl (E.2.1, 400, .inl (fun _ => 0))), (o0, .inr (2, [.ref ob, .int (nI 0)])), (ob, .inl (E.2.1, 32, .inl (fun _ => 0))), (p0, .inr (2, [.ref pb, .int (nI 0)])), (pb, .inl (E.2.1, 80, .inl (fun _ => 0))), (r0, .inr (2, [.ref rb, .int (nI 0)])), (rb, .inl (E.2.1, 80, .inl (fun _ => 0))), (u0, .inr (3, [.ref e0, .ref s0, .ref h0, .ref c0])), (e0, .inr (1, [.ref eb, .ref es, .int (nI 0)])), (eb, .inl (E.2.1, 1920, .inl (fun _ => 0))), (es, .inl (E.2.2.1, 24, .inl (fun _ => 0))), (s0, .inr (5, [.ref m0, .ref d0, .ref h0, .ref x0])), (h0, .inr (4, [.ref a1, .ref a2])), (a1, .inl (E.2.2.1, 8, .inl (fun _ => 0))), (a2, .inl (E.2.2.1, 64, .inl (fun _ => 0))), (m0, .inl (E.2.1, 32, .inl (fun _ => 0))), (d0, .inl (E.2.1, 32, .inl (fun _ => 0))), (x0, .inl (E.2.1, 112, .inl (fun _ => 0))), (c0, .inr (0, [.int 0, .int 0]))] := hD
  refine lv_astore_n (lv' := [(1, .ref z0), (0, .ref b)]) hx hb d_Law_law_7 rfl hl (by decide) rfl (fun ls hl => ?_)
  refine n_new (ci := 7) (T := TMod) (Nn := 17) (fs := [.null, .int 0, .null, .int 0, .null, .null, .null, .null, .null, .null, .null, .null, .null, .null, .int 0, .int 0, .null]) C ck_Law_10 in_Mod tyMod tyok_Mod rfl (by decide +kernel) hP hD hS (by decide) (by decide) d_Law_law_8 (fun y0 H hP hD hS => ?_)
  have hP : va_P E.1 clz [(z0, .inr (6, [.ref t0, .ref o0, .ref p0, .ref r0, .ref u0, .ref e0, .ref s0, .ref h0, .int (nI 0)])), (t0, .inr (2, [.ref tb, .int (nI 0)])), (tb, .inl (E.2.1, 400, .inl (fun _ => 0))), (o0, .inr (2, [.ref ob, .int (nI 0)])), (ob, .inl (E.2.1, 32, .inl (fun _ => 0))), (p0, .inr (2, [.ref pb, .int (nI 0)])), (pb, .inl (E.2.1, 80, .inl (fun _ => 0))), (r0, .inr (2, [.ref rb, .int (nI 0)])), (rb, .inl (E.2.1, 80, .inl (fun _ => 0))), (u0, .inr (3, [.ref e0, .ref s0, .ref h0, .ref c0])), (e0, .inr (1, [.ref eb, .ref es, .int (nI 0)])), (eb, .inl (E.2.1, 1920, .inl (fun _ => 0))), (es, .inl (E.2.2.1, 24, .inl (fun _ => 0))), (s0, .inr (5, [.ref m0, .ref d0, .ref h0, .ref x0])), (h0, .inr (4, [.ref a1, .ref a2])), (a1, .inl (E.2.2.1, 8, .inl (fun _ => 0))), (a2, .inl (E.2.2.1, 64, .inl (fun _ => 0))), (m0, .inl (E.2.1, 32, .inl (fun _ => 0))), (d0, .inl (E.2.1, 32, .inl (fun _ => 0))), (x0, .inl (E.2.1, 112, .inl (fun _ => 0))), (c0, .inr (0, [.int 0, .int 0])), (y0, .inr (7, [.null, .int 0, .null, .int 0, .null, .null, .null, .null, .null, .null, .null, .null, .null, .null, .int 0, .int 0, .null]))] H := hP
  have hD : va_D A [(z0, .inr (6, [.ref t0, .ref o0, .ref p0, .ref r0, .ref u0, .ref e0, .ref s0, .ref h0, .int (nI 0)])), (t0, .inr (2, [.ref tb, .int (nI 0)])), (tb, .inl (E.2.1, 400, .inl (fun _ => 0))), (o0, .inr (2, [.ref ob, .int (nI 0)])), (ob, .inl (E.2.1, 32, .inl (fun _ => 0))), (p0, .inr (2, [.ref pb, .int (nI 0)])), (pb, .inl (E.2.1, 80, .inl (fun _ => 0))), (r0, .inr (2, [.ref rb, .int (nI 0)])), (rb, .inl (E.2.1, 80, .inl (fun _ => 0))), (u0, .inr (3, [.ref e0, .ref s0, .ref h0, .ref c0])), (e0, .inr (1, [.ref eb, .ref es, .int (nI 0)])), (eb, .inl (E.2.1, 1920, .inl (fun _ => 0))), (es, .inl (E.2.2.1, 24, .inl (fun _ => 0))), (s0, .inr (5, [.ref m0, .ref d0, .ref h0, .ref x0])), (h0, .inr (4, [.ref a1, .ref a2])), (a1, .inl (E.2.2.1, 8, .inl (fun _ => 0))), (a2, .inl (E.2.2.1, 64, .inl (fun _ => 0))), (m0, .inl (E.2.1, 32, .inl (fun _ => 0))), (d0, .inl (E.2.1, 32, .inl (fun _ => 0))), (x0, .inl (E.2.1, 112, .inl (fun _ => 0))), (c0, .inr (0, [.int 0, .int 0])), (y0, .inr (7, [.null, .int 0, .null, .int 0, .null, .null, .null, .null, .null, .null, .null, .null, .null, .null, .int 0, .int 0, .null]))] := hD
  refine lv_dup hx hb d_Law_law_11 rfl ?_
  refine cal_N (wr := [(z0, .inr (6, [.ref t0, .ref o0, .ref p0, .ref r0, .ref u0, .ref e0, .ref s0, .ref h0, .int (nI 0)])), (t0, .inr (2, [.ref tb, .int (nI 0)])), (tb, .inl (E.2.1, 400, .inl (fun _ => 0))), (o0, .inr (2, [.ref ob, .int (nI 0)])), (ob, .inl (E.2.1, 32, .inl (fun _ => 0))), (p0, .inr (2, [.ref pb, .int (nI 0)])), (pb, .inl (E.2.1, 80, .inl (fun _ => 0))), (r0, .inr (2, [.ref rb, .int (nI 0)])), (rb, .inl (E.2.1, 80, .inl (fun _ => 0))), (u0, .inr (3, [.ref e0, .ref s0, .ref h0, .ref c0])), (e0, .inr (1, [.ref eb, .ref es, .int (nI 0)])), (eb, .inl (E.2.1, 1920, .inl (fun _ => 0))), (es, .inl (E.2.2.1, 24, .inl (fun _ => 0))), (s0, .inr (5, [.ref m0, .ref d0, .ref h0, .ref x0])), (h0, .inr (4, [.ref a1, .ref a2])), (a1, .inl (E.2.2.1, 8, .inl (fun _ => 0))), (a2, .inl (E.2.2.1, 64, .inl (fun _ => 0))), (m0, .inl (E.2.1, 32, .inl (fun _ => 0))), (d0, .inl (E.2.1, 32, .inl (fun _ => 0))), (x0, .inl (E.2.1, 112, .inl (fun _ => 0))), (c0, .inr (0, [.int 0, .int 0]))]) (As := []) (rest := [.ref y0]) C ik_Law_12 (c_Mod_init l E y0) (by decide) hP hD hS [21] [0, 1, 2, 3, 4, 5, 6, 7, 8, 9, 10, 11, 12, 13, 14, 15, 16, 17, 18, 19, 20] rfl (by decide) rfl (by decide) (by decide) hl.1 rfl (Nat.le_of_ble_eq_true rfl) d_Law_law_12 (by decide) (fun w1 H locs hp hP hD hS => ?_)
  obtain ⟨ya, yo, ym, yl, yg, yw, yh, yc, yd, yb, yk, yz, yr, rfl⟩ := hp
  have hP : va_P E.1 clz [(z0, .inr (6, [.ref t0, .ref o0, .ref p0, .ref r0, .ref u0, .ref e0, .ref s0, .ref h0, .int (nI 0)])), (t0, .inr (2, [.ref tb, .int (nI 0)])), (tb, .inl (E.2.1, 400, .inl (fun _ => 0))), (o0, .inr (2, [.ref ob, .int (nI 0)])), (ob, .inl (E.2.1, 32, .inl (fun _ => 0))), (p0, .inr (2, [.ref pb, .int (nI 0)])), (pb, .inl (E.2.1, 80, .inl (fun _ => 0))), (r0, .inr (2, [.ref rb, .int (nI 0)])), (rb, .inl (E.2.1, 80, .inl (fun _ => 0))), (u0, .inr (3, [.ref e0, .ref s0, .ref h0, .ref c0])), (e0, .inr (1, [.ref eb, .ref es, .int (nI 0)])), (eb, .inl (E.2.1, 1920, .inl (fun _ => 0))), (es, .inl (E.2.2.1, 24, .inl (fun _ => 0))), (s0, .inr (5, [.ref m0, .ref d0, .ref h0, .ref x0])), (h0, .inr (4, [.ref a1, .ref a2])), (a1, .inl (E.2.2.1, 8, .inl (fun _ => 0))), (a2, .inl (E.2.2.1, 64, .inl (fun _ => 0))), (m0, .inl (E.2.1, 32, .inl (fun _ => 0))), (d0, .inl (E.2.1, 32, .inl (fun _ => 0))), (x0, .inl (E.2.1, 112, .inl (fun _ => 0))), (c0, .inr (0, [.int 0, .int 0])), (y0, .inr (7, [.ref ya, .int 0, .ref yo, .int 0, .ref ym, .ref yl, .ref yg, .ref yw, .ref yh, .ref yc, .ref yd, .ref yb, .ref yk, .ref yz, .int 0, .int 0, .ref yr])), (ya, .inl (E.2.1, 400, .inl (fun _ => 0))), (yo, .inl (E.2.1, 32, .inl (fun _ => 0))), (ym, .inl (E.2.1, 160, .inl (fun _ => 0))), (yl, .inl (E.2.2.1, 2, .inl (fun _ => 0))), (yg, .inl (E.2.1, 32, .inl (fun _ => 0))), (yw, .inl (E.2.2.1, 64, .inl (fun _ => 0))), (yh, .inl (E.2.2.1, 8, .inl (fun _ => 0))), (yc, .inl (E.2.1, 32, .inl (fun _ => 0))), (yd, .inl (E.2.1, 32, .inl (fun _ => 0))), (yb, .inl (E.2.1, 512, .inl (fun _ => 0))), (yk, .inl (E.2.1, 1920, .inl (fun _ => 0))), (yz, .inl (E.2.2.1, 24, .inl (fun _ => 0))), (yr, .inl (E.2.2.2.1, 100, .inl (fun _ => 0)))] H := hP
  have hD : va_D A [(z0, .inr (6, [.ref t0, .ref o0, .ref p0, .ref r0, .ref u0, .ref e0, .ref s0, .ref h0, .int (nI 0)])), (t0, .inr (2, [.ref tb, .int (nI 0)])), (tb, .inl (E.2.1, 400, .inl (fun _ => 0))), (o0, .inr (2, [.ref ob, .int (nI 0)])), (ob, .inl (E.2.1, 32, .inl (fun _ => 0))), (p0, .inr (2, [.ref pb, .int (nI 0)])), (pb, .inl (E.2.1, 80, .inl (fun _ => 0))), (r0, .inr (2, [.ref rb, .int (nI 0)])), (rb, .inl (E.2.1, 80, .inl (fun _ => 0))), (u0, .inr (3, [.ref e0, .ref s0, .ref h0, .ref c0])), (e0, .inr (1, [.ref eb, .ref es, .int (nI 0)])), (eb, .inl (E.2.1, 1920, .inl (fun _ => 0))), (es, .inl (E.2.2.1, 24, .inl (fun _ => 0))), (s0, .inr (5, [.ref m0, .ref d0, .ref h0, .ref x0])), (h0, .inr (4, [.ref a1, .ref a2])), (a1, .inl (E.2.2.1, 8, .inl (fun _ => 0))), (a2, .inl (E.2.2.1, 64, .inl (fun _ => 0))), (m0, .inl (E.2.1, 32, .inl (fun _ => 0))), (d0, .inl (E.2.1, 32, .inl (fun _ => 0))), (x0, .inl (E.2.1, 112, .inl (fun _ => 0))), (c0, .inr (0, [.int 0, .int 0])), (y0, .inr (7, [.ref ya, .int 0, .ref yo, .int 0, .ref ym, .ref yl, .ref yg, .ref yw, .ref yh, .ref yc, .ref yd, .ref yb, .ref yk, .ref yz, .int 0, .int 0, .ref yr])), (ya, .inl (E.2.1, 400, .inl (fun _ => 0))), (yo, .inl (E.2.1, 32, .inl (fun _ => 0))), (ym, .inl (E.2.1, 160, .inl (fun _ => 0))), (yl, .inl (E.2.2.1, 2, .inl (fun _ => 0))), (yg, .inl (E.2.1, 32, .inl (fun _ => 0))), (yw, .inl (E.2.2.1, 64, .inl (fun _ => 0))), (yh, .inl (E.2.2.1, 8, .inl (fun _ => 0))), (yc, .inl (E.2.1, 32, .inl (fun _ => 0))), (yd, .inl (E.2.1, 32, .inl (fun _ => 0))), (yb, .inl (E.2.1, 512, .inl (fun _ => 0))), (yk, .inl (E.2.1, 1920, .inl (fun _ => 0))), (yz, .inl (E.2.2.1, 24, .inl (fun _ => 0))), (yr, .inl (E.2.2.2.1, 100, .inl (fun _ => 0)))] := hD
  refine lv_astore_n (lv' := [(2, .ref y0), (1, .ref z0), (0, .ref b)]) hx hb d_Law_law_15 rfl hl (by decide) rfl (fun ls hl => ?_)
  refine lv_iconst (v := nI 0) hx hb d_Law_law_16 (by decide) ?_
  refine lv_istore_n (lv' := [(3, .int (nI 0)), (2, .ref y0), (1, .ref z0), (0, .ref b)]) hx hb d_Law_law_17 rfl hl (by decide) rfl (fun ls hl => ?_)
  have hP := hP.sub (ws' := [(z0, .inr (6, [.ref t0, .ref o0, .ref p0, .ref r0, .ref u0, .ref e0, .ref s0, .ref h0, .int (b2 false)])), (t0, .inr (2, [.ref tb, .int (nI 0)])), (tb, .inl (E.2.1, 400, .inl (fun _ => 0))), (o0, .inr (2, [.ref ob, .int (nI 0)])), (ob, .inl (E.2.1, 32, .inl (fun _ => 0))), (p0, .inr (2, [.ref pb, .int (nI 0)])), (pb, .inl (E.2.1, 80, .inl (fun _ => 0))), (r0, .inr (2, [.ref rb, .int (nI 0)])), (rb, .inl (E.2.1, 80, .inl (fun _ => 0))), (u0, .inr (3, [.ref e0, .ref s0, .ref h0, .ref c0])), (e0, .inr (1, [.ref eb, .ref es, .int (nI 0)])), (eb, .inl (E.2.1, 1920, .inl (fun _ => 0))), (es, .inl (E.2.2.1, 24, .inl (fun _ => 0))), (s0, .inr (5, [.ref m0, .ref d0, .ref h0, .ref x0])), (m0, .inl (E.2.1, 32, .inl (fun _ => 0))), (d0, .inl (E.2.1, 32, .inl (fun _ => 0))), (x0, .inl (E.2.1, 112, .inl (fun _ => 0))), (h0, .inr (4, [.ref a1, .ref a2])), (a1, .inl (E.2.2.1, 8, .inl (fun _ => 0))), (a2, .inl (E.2.2.1, 64, .inl (fun _ => 0))), (c0, .inr (0, [.int (nI 0), .int (nI 0)])), (y0, .inr (7, [.ref ya, .int (nI 0), .ref yo, .int (nI 0), .ref ym, .ref yl, .ref yg, .ref yw, .ref yh, .ref yc, .ref yd, .ref yb, .ref yk, .ref yz, .int (nI 0), .int (b2 false), .ref yr])), (ya, .inl (E.2.1, 400, .inl (fun _ => 0))), (yo, .inl (E.2.1, 32, .inl (fun _ => 0))), (ym, .inl (E.2.1, 160, .inl (fun _ => 0))), (yl, .inl (E.2.2.1, 2, .inl (fun _ => 0))), (yg, .inl (E.2.1, 32, .inl (fun _ => 0))), (yw, .inl (E.2.2.1, 64, .inl (fun _ => 0))), (yh, .inl (E.2.2.1, 8, .inl (fun _ => 0))), (yc, .inl (E.2.1, 32, .inl (fun _ => 0))), (yd, .inl (E.2.1, 32, .inl (fun _ => 0))), (yb, .inl (E.2.1, 512, .inl (fun _ => 0))), (yk, .inl (E.2.1, 1920, .inl (fun _ => 0))), (yz, .inl (E.2.2.1, 24, .inl (fun _ => 0))), (yr, .inl (E.2.2.2.1, 100, .inl (fun _ => 0)))]) [0, 1, 2, 3, 4, 5, 6, 7, 8, 9, 10, 11, 12, 13, 17, 18, 19, 14, 15, 16, 20, 21, 22, 23, 24, 25, 26, 27, 28, 29, 30, 31, 32, 33, 34] rfl
  have hD := hD.sub (ws' := [(z0, .inr (6, [.ref t0, .ref o0, .ref p0, .ref r0, .ref u0, .ref e0, .ref s0, .ref h0, .int (b2 false)])), (t0, .inr (2, [.ref tb, .int (nI 0)])), (tb, .inl (E.2.1, 400, .inl (fun _ => 0))), (o0, .inr (2, [.ref ob, .int (nI 0)])), (ob, .inl (E.2.1, 32, .inl (fun _ => 0))), (p0, .inr (2, [.ref pb, .int (nI 0)])), (pb, .inl (E.2.1, 80, .inl (fun _ => 0))), (r0, .inr (2, [.ref rb, .int (nI 0)])), (rb, .inl (E.2.1, 80, .inl (fun _ => 0))), (u0, .inr (3, [.ref e0, .ref s0, .ref h0, .ref c0])), (e0, .inr (1, [.ref eb, .ref es, .int (nI 0)])), (eb, .inl (E.2.1, 1920, .inl (fun _ => 0))), (es, .inl (E.2.2.1, 24, .inl (fun _ => 0))), (s0, .inr (5, [.ref m0, .ref d0, .ref h0, .ref x0])), (m0, .inl (E.2.1, 32, .inl (fun _ => 0))), (d0, .inl (E.2.1, 32, .inl (fun _ => 0))), (x0, .inl (E.2.1, 112, .inl (fun _ => 0))), (h0, .inr (4, [.ref a1, .ref a2])), (a1, .inl (E.2.2.1, 8, .inl (fun _ => 0))), (a2, .inl (E.2.2.1, 64, .inl (fun _ => 0))), (c0, .inr (0, [.int (nI 0), .int (nI 0)])), (y0, .inr (7, [.ref ya, .int (nI 0), .ref yo, .int (nI 0), .ref ym, .ref yl, .ref yg, .ref yw, .ref yh, .ref yc, .ref yd, .ref yb, .ref yk, .ref yz, .int (nI 0), .int (b2 false), .ref yr])), (ya, .inl (E.2.1, 400, .inl (fun _ => 0))), (yo, .inl (E.2.1, 32, .inl (fun _ => 0))), (ym, .inl (E.2.1, 160, .inl (fun _ => 0))), (yl, .inl (E.2.2.1, 2, .inl (fun _ => 0))), (yg, .inl (E.2.1, 32, .inl (fun _ => 0))), (yw, .inl (E.2.2.1, 64, .inl (fun _ => 0))), (yh, .inl (E.2.2.1, 8, .inl (fun _ => 0))), (yc, .inl (E.2.1, 32, .inl (fun _ => 0))), (yd, .inl (E.2.1, 32, .inl (fun _ => 0))), (yb, .inl (E.2.1, 512, .inl (fun _ => 0))), (yk, .inl (E.2.1, 1920, .inl (fun _ => 0))), (yz, .inl (E.2.2.1, 24, .inl (fun _ => 0))), (yr, .inl (E.2.2.2.1, 100, .inl (fun _ => 0)))]) [0, 1, 2, 3, 4, 5, 6, 7, 8, 9, 10, 11, 12, 13, 17, 18, 19, 14, 15, 16, 20, 21, 22, 23, 24, 25, 26, 27, 28, 29, 30, 31, 32, 33, 34] (by decide) rfl
  have hRC : RC E z0 t0 tb o0 ob p0 pb r0 rb u0 e0 eb es s0 m0 d0 x0 h0 a1 a2 c0 ([], [], [], [], z32, none) [(z0, .inr (6, [.ref t0, .ref o0, .ref p0, .ref r0, .ref u0, .ref e0, .ref s0, .ref h0, .int (b2 false)])), (t0, .inr (2, [.ref tb, .int (nI 0)])), (tb, .inl (E.2.1, 400, .inl (fun _ => 0))), (o0, .inr (2, [.ref ob, .int (nI 0)])), (ob, .inl (E.2.1, 32, .inl (fun _ => 0))), (p0, .inr (2, [.ref pb, .int (nI 0)])), (pb, .inl (E.2.1, 80, .inl (fun _ => 0))), (r0, .inr (2, [.ref rb, .int (nI 0)])), (rb, .inl (E.2.1, 80, .inl (fun _ => 0))), (u0, .inr (3, [.ref e0, .ref s0, .ref h0, .ref c0])), (e0, .inr (1, [.ref eb, .ref es, .int (nI 0)])), (eb, .inl (E.2.1, 1920, .inl (fun _ => 0))), (es, .inl (E.2.2.1, 24, .inl (fun _ => 0))), (s0, .inr (5, [.ref m0, .ref d0, .ref h0, .ref x0])), (m0, .inl (E.2.1, 32, .inl (fun _ => 0))), (d0, .inl (E.2.1, 32, .inl (fun _ => 0))), (x0, .inl (E.2.1, 112, .inl (fun _ => 0))), (h0, .inr (4, [.ref a1, .ref a2])), (a1, .inl (E.2.2.1, 8, .inl (fun _ => 0))), (a2, .inl (E.2.2.1, 64, .inl (fun _ => 0))), (c0, .inr (0, [.int (nI 0), .int (nI 0)]))] := ⟨0, 0, 0, false, fun _ => 0, fun _ => 0, fun _ => 0, fun _ => 0, fun _ => 0, fun _ => 0, fun _ => 0, fun _ => 0, fun _ => 0, fun _ => 0, fun _ => 0, rfl, ⟨lay_nil _ _, fB_0, Nat.zero_le _⟩, ⟨lay_nil _ _, fB_0, Nat.zero_le _⟩, ⟨lay_nil _ _, fB_0, Nat.zero_le _⟩, ⟨lay_nil _ _, fB_0, Nat.zero_le _⟩, ⟨z32_lay, fB_0, rfl⟩, fB_0, Or.inr ⟨rfl, rfl⟩⟩
  have hRM : RM E y0 ya yo ym yl yg yw yh yc yd yb yk yz yr ([], [], [], [], z32, none) [(y0, .inr (7, [.ref ya, .int (nI 0), .ref yo, .int (nI 0), .ref ym, .ref yl, .ref yg, .ref yw, .ref yh, .ref yc, .ref yd, .ref yb, .ref yk, .ref yz, .int (nI 0), .int (b2 false), .ref yr])), (ya, .inl (E.2.1, 400, .inl (fun _ => 0))), (yo, .inl (E.2.1, 32, .inl (fun _ => 0))), (ym, .inl (E.2.1, 160, .inl (fun _ => 0))), (yl, .inl (E.2.2.1, 2, .inl (fun _ => 0))), (yg, .inl (E.2.1, 32, .inl (fun _ => 0))), (yw, .inl (E.2.2.1, 64, .inl (fun _ => 0))), (yh, .inl (E.2.2.1, 8, .inl (fun _ => 0))), (yc, .inl (E.2.1, 32, .inl (fun _ => 0))), (yd, .inl (E.2.1, 32, .inl (fun _ => 0))), (yb, .inl (E.2.1, 512, .inl (fun _ => 0))), (yk, .inl (E.2.1, 1920, .inl (fun _ => 0))), (yz, .inl (E.2.2.1, 24, .inl (fun _ => 0))), (yr, .inl (E.2.2.2.1, 100, .inl (fun _ => 0)))] := ⟨0, false, fun _ => 0, fun _ => 0, fun _ => 0, fun _ => 0, fun _ => 0, fun _ => 0, fun _ => 0, fun _ => 0, fun _ => 0, fun _ => 0, fun _ => 0, fun _ => 0, fun _ => 0, rfl, ⟨lay_nil _ _, fB_0, Nat.zero_le _⟩, ⟨lay_nil _ _, fB_0, Nat.zero_le _⟩, ⟨lay_nil _ _, lay_nil _ _, fB_0, Nat.zero_le _, Nat.zero_le _, rfl, rfl⟩, ⟨z32_lay, fB_0, rfl⟩, fB_0, Or.inr ⟨rfl, rfl⟩⟩
  refine W.widen (k := 600000) (n := 7302250) (by decide) (by decide) ?_
  have hloop : ∀ (dd i : Nat) (Mz : MS) (wc wm : va_W) (H : Heap) (locs : List Loc) (ls : Array Slot), L + 6 - i < dd → i ≤ L + 5 → RC E z0 t0 tb o0 ob p0 pb r0 rb u0 e0 eb es s0 m0 d0 x0 h0 a1 a2 c0 Mz wc → RM E y0 ya yo ym yl yg yw yh yc yd yb yk yz yr Mz wm → va_P E.1 clz (wc ++ wm) H → va_D A (wc ++ wm) → va_S A s.heap H locs → lv_has ls 4 [(3, .int (nI i)), (2, .ref y0), (1, .ref z0), (0, .ref b)] → W p l e room_1 s m #[Value.ref b] below meth c H locs 600000 7302250 Q (F0 m 18 ls []) := by
    intro dd
    induction dd with
    | zero => intro i Mz wc wm H locs ls h9; exact absurd h9 (Nat.not_lt_zero _)
    | succ dd ih =>
      intro i Mz wc wm H locs ls hmz hi hRC hRM hP hD hS hl
      refine lv_iload_n hx hb d_Law_law_18 rfl (lv_at hl 0 rfl) ?_
      refine lv_aload_n hx hb d_Law_law_19 rfl (lv_at hl 3 rfl) ?_
      refine va_slen hx hb hX hbl hbA hS d_Law_law_20 ?_
      refine lv_bipush (v := nI 6) hx hb d_Law_law_21 (by decide) ?_
      refine lv_isub hx hb d_Law_law_23 ?_
      refine lv_icmp_gt hx hb d_Law_law_24 rfl (fun hc => ?_) (fun hc => ?_)
      · refine lv_iconst (v := 1) hx hb d_Law_law_351 (by decide) ?_
        refine va_forget (fun q hq => by have h9 := hS.2.2 q hq; rw [← hA] at h9; exact h9) ?_
        subst hQ
        exact lw_ret hx hb hret hlk d_Law_law_352
      · have hi6 : i + 6 ≤ L := lt6 (by omega) (by omega) hc
        refine lv_aload_n hx hb d_Law_law_27 rfl (lv_at hl 3 rfl) ?_
        refine lv_iload_n hx hb d_Law_law_28 rfl (lv_at hl 0 rfl) ?_
        refine n_sld C hX hbl hbA hS i rfl (by omega) (by omega) d_Law_law_29 ?_
        refine lv_bipush (v := nI 15) hx hb d_Law_law_30 (by decide) ?_
        refine lv_iand hx hb d_Law_law_32 ?_
        obtain ⟨op, hop, eop⟩ := pk_andE (xs i) (m := nI 15) 4 (by decide)
        refine topeg (z := nI op) eop ?_
        have hnext : ∀ (Mz : MS) (wc wm : va_W) (H : Heap) (locs : List Loc) (ls : Array Slot), RC E z0 t0 tb o0 ob p0 pb r0 rb u0 e0 eb es s0 m0 d0 x0 h0 a1 a2 c0 Mz wc → RM E y0 ya yo ym yl yg yw yh yc yd yb yk yz yr Mz wm → va_P E.1 clz (wc ++ wm) H → va_D A (wc ++ wm) → va_S A s.heap H locs → lv_has ls 4 [(3, .int (nI i)), (2, .ref y0), (1, .ref z0), (0, .ref b)] → W p l e room_1 s m #[Value.ref b] below meth c H locs 600000 7302250 Q (F0 m 345 ls []) := by
          intro Mz wc wm H locs ls hRC hRM hP hD hS hl
          refine lv_iinc (k := 0) (v := nI (i + 6)) (lv' := [(3, .int (nI (i + 6))), (2, .ref y0), (1, .ref z0), (0, .ref b)]) hx hb d_Law_law_345 hl rfl (iincK i 6) (by decide) rfl (fun ls hl => ?_)
          refine lv_goto hx hb d_Law_law_348 rfl ?_
          exact ih (i + 6) Mz wc wm H locs ls (by omega) (by omega) hRC hRM hP hD hS hl
        have hI : ∀ k : Nat, k < 6 → i + k < L := fun k hk => by omega
        have h31 : L < 2 ^ 31 := by omega
        rcases (by omega : op = 0 ∨ op = 1 ∨ op = 2 ∨ op = 3 ∨ op = 4 ∨ op = 5 ∨ op = 6 ∨ op = 7 ∨ op = 8 ∨ op = 9 ∨ op = 10 ∨ 10 < op) with rfl | rfl | rfl | rfl | rfl | rfl | rfl | rfl | rfl | rfl | rfl | h10
        · refine lv_tableIn hx hb d_Law_law_33 (by decide) (by decide) rfl rfl ?_
          obtain ⟨tp, ou, s1, s2, msg, sk⟩ := Mz
          have hRM0 := RM_len hRM
          obtain ⟨n, bo, bh, fl, f1, f2, f3, f4, mf, f, sz, df, xf, st, wv, rfl, hT, hO, h1, h2, hM, hB, hK⟩ := hRC
          refine lv_aload_n hx hb d_Law_law_92 rfl (lv_at hl 2 rfl) ?_
          refine lv_aload_n hx hb d_Law_law_93 rfl (lv_at hl 3 rfl) ?_
          refine lv_iload_n hx hb d_Law_law_94 rfl (lv_at hl 0 rfl) ?_
          refine lv_iconst (v := nI 1) hx hb d_Law_law_95 (by decide) ?_
          refine lv_iadd hx hb d_Law_law_96 ?_
          refine topeg (z := nI (i + 1)) (nI_add _ _) ?_
          refine n_sld C hX hbl hbA hS (i + 1) rfl (hI 1 (by decide)) h31 d_Law_law_97 ?_
          refine lv_aload_n hx hb d_Law_law_98 rfl (lv_at hl 3 rfl) ?_
          refine lv_iload_n hx hb d_Law_law_99 rfl (lv_at hl 0 rfl) ?_
          refine lv_iconst (v := nI 2) hx hb d_Law_law_100 (by decide) ?_
          refine lv_iadd hx hb d_Law_law_101 ?_
          refine topeg (z := nI (i + 2)) (nI_add _ _) ?_
          refine n_sld C hX hbl hbA hS (i + 2) rfl (hI 2 (by decide)) h31 d_Law_law_102 ?_
          refine lv_aload_n hx hb d_Law_law_103 rfl (lv_at hl 3 rfl) ?_
          refine lv_iload_n hx hb d_Law_law_104 rfl (lv_at hl 0 rfl) ?_
          refine lv_iconst (v := nI 3) hx hb d_Law_law_105 (by decide) ?_
          refine lv_iadd hx hb d_Law_law_106 ?_
          refine topeg (z := nI (i + 3)) (nI_add _ _) ?_
          refine n_sld C hX hbl hbA hS (i + 3) rfl (hI 3 (by decide)) h31 d_Law_law_107 ?_
          refine lv_aload_n hx hb d_Law_law_108 rfl (lv_at hl 3 rfl) ?_
          refine lv_iload_n hx hb d_Law_law_109 rfl (lv_at hl 0 rfl) ?_
          refine lv_iconst (v := nI 4) hx hb d_Law_law_110 (by decide) ?_
          refine lv_iadd hx hb d_Law_law_111 ?_
          refine topeg (z := nI (i + 4)) (nI_add _ _) ?_
          refine n_sld C hX hbl hbA hS (i + 4) rfl (hI 4 (by decide)) h31 d_Law_law_112 ?_
          refine lv_aload_n hx hb d_Law_law_113 rfl (lv_at hl 3 rfl) ?_
          refine lv_iload_n hx hb d_Law_law_114 rfl (lv_at hl 0 rfl) ?_
          refine lv_iconst (v := nI 5) hx hb d_Law_law_115 (by decide) ?_
          refine lv_iadd hx hb d_Law_law_116 ?_
          refine topeg (z := nI (i + 5)) (nI_add _ _) ?_
          refine n_sld C hX hbl hbA hS (i + 5) rfl (hI 5 (by decide)) h31 d_Law_law_117 ?_
          refine cal_IgL (wm := wm) (As := [.int (xs (i + 1)), .int (xs (i + 2)), .int (xs (i + 3)), .int (xs (i + 4)), .int (xs (i + 5))]) (rest := []) C lk_Law_13 (c_SS_feed l E z0 t0 tb o0 ob p0 pb r0 rb u0 e0 eb es s0 m0 d0 x0 h0 a1 a2 c0 n bo bh fl f1 f2 f3 f4 mf f sz df xf st wv tp ou s1 s2 msg sk hT hO h1 h2 hM hB hK (xs (i + 1)) (xs (i + 2)) (xs (i + 3)) (xs (i + 4)) (xs (i + 5))) (by decide) (by decide) hP hD hS 6 rfl rfl rfl (fun r w h => RC_len h.2) hl.1 rfl (Nat.le_of_ble_eq_true rfl) d_Law_law_118 (fun r1 w1 H locs hp1 hP hD hS => ?_)
          obtain ⟨hr1, hRC1⟩ := hp1
          obtain ⟨nd, gl, k1, k2, k3, k4, k5, k6, k7, k8, k9, kb, gf, gz, kr, rfl, gT, gO, g3, gM, gB, gK⟩ := hRM
          refine lv_aload_n hx hb d_Law_law_121 rfl (lv_at hl 1 rfl) ?_
          refine lv_aload_n hx hb d_Law_law_122 rfl (lv_at hl 3 rfl) ?_
          refine lv_iload_n hx hb d_Law_law_123 rfl (lv_at hl 0 rfl) ?_
          refine lv_iconst (v := nI 1) hx hb d_Law_law_124 (by decide) ?_
          refine lv_iadd hx hb d_Law_law_125 ?_
          refine topeg (z := nI (i + 1)) (nI_add _ _) ?_
          refine n_sld C hX hbl hbA hS (i + 1) rfl (hI 1 (by decide)) h31 d_Law_law_126 ?_
          refine lv_aload_n hx hb d_Law_law_127 rfl (lv_at hl 3 rfl) ?_
          refine lv_iload_n hx hb d_Law_law_128 rfl (lv_at hl 0 rfl) ?_
          refine lv_iconst (v := nI 2) hx hb d_Law_law_129 (by decide) ?_
          refine lv_iadd hx hb d_Law_law_130 ?_
          refine topeg (z := nI (i + 2)) (nI_add _ _) ?_
          refine n_sld C hX hbl hbA hS (i + 2) rfl (hI 2 (by decide)) h31 d_Law_law_131 ?_
          refine lv_aload_n hx hb d_Law_law_132 rfl (lv_at hl 3 rfl) ?_
          refine lv_iload_n hx hb d_Law_law_133 rfl (lv_at hl 0 rfl) ?_
          refine lv_iconst (v := nI 3) hx hb d_Law_law_134 (by decide) ?_
          refine lv_iadd hx hb d_Law_law_135 ?_
          refine topeg (z := nI (i + 3)) (nI_add _ _) ?_
          refine n_sld C hX hbl hbA hS (i + 3) rfl (hI 3 (by decide)) h31 d_Law_law_136 ?_
          refine lv_aload_n hx hb d_Law_law_137 rfl (lv_at hl 3 rfl) ?_
          refine lv_iload_n hx hb d_Law_law_138 rfl (lv_at hl 0 rfl) ?_
          refine lv_iconst (v := nI 4) hx hb d_Law_law_139 (by decide) ?_
          refine lv_iadd hx hb d_Law_law_140 ?_
          refine topeg (z := nI (i + 4)) (nI_add _ _) ?_
          refine n_sld C hX hbl hbA hS (i + 4) rfl (hI 4 (by decide)) h31 d_Law_law_141 ?_
          refine lv_aload_n hx hb d_Law_law_142 rfl (lv_at hl 3 rfl) ?_
          refine lv_iload_n hx hb d_Law_law_143 rfl (lv_at hl 0 rfl) ?_
          refine lv_iconst (v := nI 5) hx hb d_Law_law_144 (by decide) ?_
          refine lv_iadd hx hb d_Law_law_145 ?_
          refine topeg (z := nI (i + 5)) (nI_add _ _) ?_
          refine n_sld C hX hbl hbA hS (i + 5) rfl (hI 5 (by decide)) h31 d_Law_law_146 ?_
          refine cal_IgR (wc := w1) (As := [.int (xs (i + 1)), .int (xs (i + 2)), .int (xs (i + 3)), .int (xs (i + 4)), .int (xs (i + 5))]) (rest := [.int r1]) C lk_Law_17 (c_Mod_feed l E y0 ya yo ym yl yg yw yh yc yd yb yk yz yr nd gl k1 k2 k3 k4 k5 k6 k7 k8 k9 kb gf gz kr tp ou s1 s2 msg sk gT gO g3 gM gB gK (xs (i + 1)) (xs (i + 2)) (xs (i + 3)) (xs (i + 4)) (xs (i + 5))) (by decide) (by decide) hP hD hS 7 rfl rfl (RC_len hRC1) rfl (fun r w h => RM_len h.2) hl.1 rfl (Nat.le_of_ble_eq_true rfl) d_Law_law_147 (fun r2 w2 H locs hp2 hP hD hS => ?_)
          obtain ⟨hr2, hRM1⟩ := hp2
          have h12 : r2 = r1 := hr2.trans hr1.symm
          subst h12
          refine lv_icmp_eq hx hb d_Law_law_150 rfl (fun hc9 => ?_) (fun hc9 => absurd rfl hc9)
          exact hnext _ _ _ H locs ls hRC1 hRM1 hP hD hS hl
        · refine lv_tableIn hx hb d_Law_law_33 (by decide) (by decide) rfl rfl ?_
          obtain ⟨tp, ou, s1, s2, msg, sk⟩ := Mz
          have hRM0 := RM_len hRM
          obtain ⟨n, bo, bh, fl, f1, f2, f3, f4, mf, f, sz, df, xf, st, wv, rfl, hT, hO, h1, h2, hM, hB, hK⟩ := hRC
          refine lv_aload_n hx hb d_Law_law_155 rfl (lv_at hl 2 rfl) ?_
          refine lv_aload_n hx hb d_Law_law_156 rfl (lv_at hl 3 rfl) ?_
          refine lv_iload_n hx hb d_Law_law_157 rfl (lv_at hl 0 rfl) ?_
          refine lv_iconst (v := nI 1) hx hb d_Law_law_158 (by decide) ?_
          refine lv_iadd hx hb d_Law_law_159 ?_
          refine topeg (z := nI (i + 1)) (nI_add _ _) ?_
          refine n_sld C hX hbl hbA hS (i + 1) rfl (hI 1 (by decide)) h31 d_Law_law_160 ?_
          refine cal_IgL (wm := wm) (As := [.int (xs (i + 1))]) (rest := []) C lk_Law_18 (c_SS_end l E z0 t0 tb o0 ob p0 pb r0 rb u0 e0 eb es s0 m0 d0 x0 h0 a1 a2 c0 n bo bh fl f1 f2 f3 f4 mf f sz df xf st wv tp ou s1 s2 msg sk hT hO h1 h2 hM hB hK (xs (i + 1))) (by decide) (by decide) hP hD hS 6 rfl rfl rfl (fun r w h => RC_len h.2) hl.1 rfl (Nat.le_of_ble_eq_true rfl) d_Law_law_161 (fun r1 w1 H locs hp1 hP hD hS => ?_)
          obtain ⟨hr1, hRC1⟩ := hp1
          obtain ⟨nd, gl, k1, k2, k3, k4, k5, k6, k7, k8, k9, kb, gf, gz, kr, rfl, gT, gO, g3, gM, gB, gK⟩ := hRM
          refine lv_aload_n hx hb d_Law_law_164 rfl (lv_at hl 1 rfl) ?_
          refine lv_aload_n hx hb d_Law_law_165 rfl (lv_at hl 3 rfl) ?_
          refine lv_iload_n hx hb d_Law_law_166 rfl (lv_at hl 0 rfl) ?_
          refine lv_iconst (v := nI 1) hx hb d_Law_law_167 (by decide) ?_
          refine lv_iadd hx hb d_Law_law_168 ?_
          refine topeg (z := nI (i + 1)) (nI_add _ _) ?_
          refine n_sld C hX hbl hbA hS (i + 1) rfl (hI 1 (by decide)) h31 d_Law_law_169 ?_
          refine cal_IgR (wc := w1) (As := [.int (xs (i + 1))]) (rest := [.int r1]) C lk_Law_22 (c_Mod_end l E y0 ya yo ym yl yg yw yh yc yd yb yk yz yr nd gl k1 k2 k3 k4 k5 k6 k7 k8 k9 kb gf gz kr tp ou s1 s2 msg sk gT gO g3 gM gB gK (xs (i + 1))) (by decide) (by decide) hP hD hS 7 rfl rfl (RC_len hRC1) rfl (fun r w h => RM_len h.2) hl.1 rfl (Nat.le_of_ble_eq_true rfl) d_Law_law_170 (fun r2 w2 H locs hp2 hP hD hS => ?_)
          obtain ⟨hr2, hRM1⟩ := hp2
          have h12 : r2 = r1 := hr2.trans hr1.symm
          subst h12
          refine lv_icmp_eq hx hb d_Law_law_173 rfl (fun hc9 => ?_) (fun hc9 => absurd rfl hc9)
          exact hnext _ _ _ H locs ls hRC1 hRM1 hP hD hS hl
        · refine lv_tableIn hx hb d_Law_law_33 (by decide) (by decide) rfl rfl ?_
          obtain ⟨tp, ou, s1, s2, msg, sk⟩ := Mz
          have hRM0 := RM_len hRM
          obtain ⟨n, bo, bh, fl, f1, f2, f3, f4, mf, f, sz, df, xf, st, wv, rfl, hT, hO, h1, h2, hM, hB, hK⟩ := hRC
          refine lv_aload_n hx hb d_Law_law_178 rfl (lv_at hl 2 rfl) ?_
          refine lv_aload_n hx hb d_Law_law_179 rfl (lv_at hl 3 rfl) ?_
          refine lv_iload_n hx hb d_Law_law_180 rfl (lv_at hl 0 rfl) ?_
          refine lv_iconst (v := nI 1) hx hb d_Law_law_181 (by decide) ?_
          refine lv_iadd hx hb d_Law_law_182 ?_
          refine topeg (z := nI (i + 1)) (nI_add _ _) ?_
          refine n_sld C hX hbl hbA hS (i + 1) rfl (hI 1 (by decide)) h31 d_Law_law_183 ?_
          refine cal_IgL (wm := wm) (As := [.int (xs (i + 1))]) (rest := []) C lk_Law_23 (c_SS_script l E z0 t0 tb o0 ob p0 pb r0 rb u0 e0 eb es s0 m0 d0 x0 h0 a1 a2 c0 n bo bh fl f1 f2 f3 f4 mf f sz df xf st wv tp ou s1 s2 msg sk hT hO h1 h2 hM hB hK (xs (i + 1))) (by decide) (by decide) hP hD hS 6 rfl rfl rfl (fun r w h => RC_len h.2) hl.1 rfl (Nat.le_of_ble_eq_true rfl) d_Law_law_184 (fun r1 w1 H locs hp1 hP hD hS => ?_)
          obtain ⟨hr1, hRC1⟩ := hp1
          obtain ⟨nd, gl, k1, k2, k3, k4, k5, k6, k7, k8, k9, kb, gf, gz, kr, rfl, gT, gO, g3, gM, gB, gK⟩ := hRM
          refine lv_aload_n hx hb d_Law_law_187 rfl (lv_at hl 1 rfl) ?_
          refine lv_aload_n hx hb d_Law_law_188 rfl (lv_at hl 3 rfl) ?_
          refine lv_iload_n hx hb d_Law_law_189 rfl (lv_at hl 0 rfl) ?_
          refine lv_iconst (v := nI 1) hx hb d_Law_law_190 (by decide) ?_
          refine lv_iadd hx hb d_Law_law_191 ?_
          refine topeg (z := nI (i + 1)) (nI_add _ _) ?_
          refine n_sld C hX hbl hbA hS (i + 1) rfl (hI 1 (by decide)) h31 d_Law_law_192 ?_
          refine cal_IgR (wc := w1) (As := [.int (xs (i + 1))]) (rest := [.int r1]) C lk_Law_26 (c_Mod_scr1 l E y0 ya yo ym yl yg yw yh yc yd yb yk yz yr nd gl k1 k2 k3 k4 k5 k6 k7 k8 k9 kb gf gz kr tp ou s1 s2 msg sk gT gO g3 gM gB gK (xs (i + 1))) (by decide) (by decide) hP hD hS 7 rfl rfl (RC_len hRC1) rfl (fun r w h => RM_len h.2) hl.1 rfl (Nat.le_of_ble_eq_true rfl) d_Law_law_193 (fun r2 w2 H locs hp2 hP hD hS => ?_)
          obtain ⟨hr2, hRM1⟩ := hp2
          have h12 : r2 = r1 := hr2.trans hr1.symm
          subst h12
          refine lv_icmp_eq hx hb d_Law_law_196 rfl (fun hc9 => ?_) (fun hc9 => absurd rfl hc9)
          exact hnext _ _ _ H locs ls hRC1 hRM1 hP hD hS hl
        · refine lv_tableIn hx hb d_Law_law_33 (by decide) (by decide) rfl rfl ?_
          obtain ⟨tp, ou, s1, s2, msg, sk⟩ := Mz
          have hRM0 := RM_len hRM
          obtain ⟨n, bo, bh, fl, f1, f2, f3, f4, mf, f, sz, df, xf, st, wv, rfl, hT, hO, h1, h2, hM, hB, hK⟩ := hRC
          refine lv_aload_n hx hb d_Law_law_201 rfl (lv_at hl 2 rfl) ?_
          refine cal_IgL (wm := wm) (As := []) (rest := []) C lk_Law_27 (c_SS_message l E z0 t0 tb o0 ob p0 pb r0 rb u0 e0 eb es s0 m0 d0 x0 h0 a1 a2 c0 n bo bh fl f1 f2 f3 f4 mf f sz df xf st wv tp ou s1 s2 msg sk hT hO h1 h2 hM hB hK) (by decide) (by decide) hP hD hS 6 rfl rfl rfl (fun r w h => RC_len h.2) hl.1 rfl (Nat.le_of_ble_eq_true rfl) d_Law_law_202 (fun r1 w1 H locs hp1 hP hD hS => ?_)
          obtain ⟨hr1, hRC1⟩ := hp1
          obtain ⟨nd, gl, k1, k2, k3, k4, k5, k6, k7, k8, k9, kb, gf, gz, kr, rfl, gT, gO, g3, gM, gB, gK⟩ := hRM
          refine lv_aload_n hx hb d_Law_law_205 rfl (lv_at hl 1 rfl) ?_
          refine cal_IgR (wc := w1) (As := []) (rest := [.int r1]) C lk_Law_31 (c_Mod_message l E y0 ya yo ym yl yg yw yh yc yd yb yk yz yr nd gl k1 k2 k3 k4 k5 k6 k7 k8 k9 kb gf gz kr tp ou s1 s2 msg sk gT gO g3 gM gB gK) (by decide) (by decide) hP hD hS 7 rfl rfl (RC_len hRC1) rfl (fun r w h => RM_len h.2) hl.1 rfl (Nat.le_of_ble_eq_true rfl) d_Law_law_206 (fun r2 w2 H locs hp2 hP hD hS => ?_)
          obtain ⟨hr2, hRM1⟩ := hp2
          have h12 : r2 = r1 := hr2.trans hr1.symm
          subst h12
          refine lv_icmp_eq hx hb d_Law_law_209 rfl (fun hc9 => ?_) (fun hc9 => absurd rfl hc9)
          exact hnext _ _ _ H locs ls hRC1 hRM1 hP hD hS hl
        · refine lv_tableIn hx hb d_Law_law_33 (by decide) (by decide) rfl rfl ?_
          obtain ⟨tp, ou, s1, s2, msg, sk⟩ := Mz
          have hRM0 := RM_len hRM
          obtain ⟨n, bo, bh, fl, f1, f2, f3, f4, mf, f, sz, df, xf, st, wv, rfl, hT, hO, h1, h2, hM, hB, hK⟩ := hRC
          refine lv_aload_n hx hb d_Law_law_214 rfl (lv_at hl 2 rfl) ?_
          refine lv_aload_n hx hb d_Law_law_215 rfl (lv_at hl 3 rfl) ?_
          refine lv_iload_n hx hb d_Law_law_216 rfl (lv_at hl 0 rfl) ?_
          refine lv_iconst (v := nI 1) hx hb d_Law_law_217 (by decide) ?_
          refine lv_iadd hx hb d_Law_law_218 ?_
          refine topeg (z := nI (i + 1)) (nI_add _ _) ?_
          refine n_sld C hX hbl hbA hS (i + 1) rfl (hI 1 (by decide)) h31 d_Law_law_219 ?_
          refine cal_IgL (wm := wm) (As := [.int (xs (i + 1))]) (rest := []) C lk_Law_32 (c_SS_run l E z0 t0 tb o0 ob p0 pb r0 rb u0 e0 eb es s0 m0 d0 x0 h0 a1 a2 c0 n bo bh fl f1 f2 f3 f4 mf f sz df xf st wv tp ou s1 s2 msg sk hT hO h1 h2 hM hB hK (xs (i + 1))) (by decide) (by decide) hP hD hS 6 rfl rfl rfl (fun r w h => RC_len h.2) hl.1 rfl (Nat.le_of_ble_eq_true rfl) d_Law_law_220 (fun r1 w1 H locs hp1 hP hD hS => ?_)
          obtain ⟨hr1, hRC1⟩ := hp1
          obtain ⟨nd, gl, k1, k2, k3, k4, k5, k6, k7, k8, k9, kb, gf, gz, kr, rfl, gT, gO, g3, gM, gB, gK⟩ := hRM
          refine lv_aload_n hx hb d_Law_law_223 rfl (lv_at hl 1 rfl) ?_
          refine lv_aload_n hx hb d_Law_law_224 rfl (lv_at hl 3 rfl) ?_
          refine lv_iload_n hx hb d_Law_law_225 rfl (lv_at hl 0 rfl) ?_
          refine lv_iconst (v := nI 1) hx hb d_Law_law_226 (by decide) ?_
          refine lv_iadd hx hb d_Law_law_227 ?_
          refine topeg (z := nI (i + 1)) (nI_add _ _) ?_
          refine n_sld C hX hbl hbA hS (i + 1) rfl (hI 1 (by decide)) h31 d_Law_law_228 ?_
          refine cal_IgR (wc := w1) (As := [.int (xs (i + 1))]) (rest := [.int r1]) C lk_Law_36 (c_Mod_run l E y0 ya yo ym yl yg yw yh yc yd yb yk yz yr nd gl k1 k2 k3 k4 k5 k6 k7 k8 k9 kb gf gz kr tp ou s1 s2 msg sk gT gO g3 gM gB gK (xs (i + 1))) (by decide) (by decide) hP hD hS 7 rfl rfl (RC_len hRC1) rfl (fun r w h => RM_len h.2) hl.1 rfl (Nat.le_of_ble_eq_true rfl) d_Law_law_229 (fun r2 w2 H locs hp2 hP hD hS => ?_)
          obtain ⟨hr2, hRM1⟩ := hp2
          have h12 : r2 = r1 := hr2.trans hr1.symm
          subst h12
          refine lv_icmp_eq hx hb d_Law_law_232 rfl (fun hc9 => ?_) (fun hc9 => absurd rfl hc9)
          exact hnext _ _ _ H locs ls hRC1 hRM1 hP hD hS hl
        · refine lv_tableIn hx hb d_Law_law_33 (by decide) (by decide) rfl rfl ?_
          obtain ⟨tp, ou, s1, s2, msg, sk⟩ := Mz
          have hRM0 := RM_len hRM
          obtain ⟨n, bo, bh, fl, f1, f2, f3, f4, mf, f, sz, df, xf, st, wv, rfl, hT, hO, h1, h2, hM, hB, hK⟩ := hRC
          refine lv_aload_n hx hb d_Law_law_237 rfl (lv_at hl 2 rfl) ?_
          refine cal_IgL (wm := wm) (As := []) (rest := []) C lk_Law_37 (c_SS_depth l E z0 t0 tb o0 ob p0 pb r0 rb u0 e0 eb es s0 m0 d0 x0 h0 a1 a2 c0 n bo bh fl f1 f2 f3 f4 mf f sz df xf st wv tp ou s1 s2 msg sk hT hO h1 h2 hM hB hK) (by decide) (by decide) hP hD hS 6 rfl rfl rfl (fun r w h => RC_len h.2) hl.1 rfl (Nat.le_of_ble_eq_true rfl) d_Law_law_238 (fun r1 w1 H locs hp1 hP hD hS => ?_)
          obtain ⟨hr1, hRC1⟩ := hp1
          obtain ⟨nd, gl, k1, k2, k3, k4, k5, k6, k7, k8, k9, kb, gf, gz, kr, rfl, gT, gO, g3, gM, gB, gK⟩ := hRM
          refine lv_aload_n hx hb d_Law_law_241 rfl (lv_at hl 1 rfl) ?_
          refine cal_IgR (wc := w1) (As := []) (rest := [.int r1]) C lk_Law_40 (c_Mod_depth l E y0 ya yo ym yl yg yw yh yc yd yb yk yz yr nd gl k1 k2 k3 k4 k5 k6 k7 k8 k9 kb gf gz kr tp ou s1 s2 msg sk gT gO g3 gM gB gK) (by decide) (by decide) hP hD hS 7 rfl rfl (RC_len hRC1) rfl (fun r w h => RM_len h.2) hl.1 rfl (Nat.le_of_ble_eq_true rfl) d_Law_law_242 (fun r2 w2 H locs hp2 hP hD hS => ?_)
          obtain ⟨hr2, hRM1⟩ := hp2
          have h12 : r2 = r1 := hr2.trans hr1.symm
          subst h12
          refine lv_icmp_eq hx hb d_Law_law_245 rfl (fun hc9 => ?_) (fun hc9 => absurd rfl hc9)
          exact hnext _ _ _ H locs ls hRC1 hRM1 hP hD hS hl
        · refine lv_tableIn hx hb d_Law_law_33 (by decide) (by decide) rfl rfl ?_
          obtain ⟨tp, ou, s1, s2, msg, sk⟩ := Mz
          have hRM0 := RM_len hRM
          obtain ⟨n, bo, bh, fl, f1, f2, f3, f4, mf, f, sz, df, xf, st, wv, rfl, hT, hO, h1, h2, hM, hB, hK⟩ := hRC
          refine lv_aload_n hx hb d_Law_law_250 rfl (lv_at hl 2 rfl) ?_
          refine lv_aload_n hx hb d_Law_law_251 rfl (lv_at hl 3 rfl) ?_
          refine lv_iload_n hx hb d_Law_law_252 rfl (lv_at hl 0 rfl) ?_
          refine lv_iconst (v := nI 1) hx hb d_Law_law_253 (by decide) ?_
          refine lv_iadd hx hb d_Law_law_254 ?_
          refine topeg (z := nI (i + 1)) (nI_add _ _) ?_
          refine n_sld C hX hbl hbA hS (i + 1) rfl (hI 1 (by decide)) h31 d_Law_law_255 ?_
          refine lv_aload_n hx hb d_Law_law_256 rfl (lv_at hl 3 rfl) ?_
          refine lv_iload_n hx hb d_Law_law_257 rfl (lv_at hl 0 rfl) ?_
          refine lv_iconst (v := nI 2) hx hb d_Law_law_258 (by decide) ?_
          refine lv_iadd hx hb d_Law_law_259 ?_
          refine topeg (z := nI (i + 2)) (nI_add _ _) ?_
          refine n_sld C hX hbl hbA hS (i + 2) rfl (hI 2 (by decide)) h31 d_Law_law_260 ?_
          refine cal_IgL (wm := wm) (As := [.int (xs (i + 1)), .int (xs (i + 2))]) (rest := []) C lk_Law_41 (c_SS_element l E z0 t0 tb o0 ob p0 pb r0 rb u0 e0 eb es s0 m0 d0 x0 h0 a1 a2 c0 n bo bh fl f1 f2 f3 f4 mf f sz df xf st wv tp ou s1 s2 msg sk hT hO h1 h2 hM hB hK (xs (i + 1)) (xs (i + 2))) (by decide) (by decide) hP hD hS 6 rfl rfl rfl (fun r w h => RC_len h.2) hl.1 rfl (Nat.le_of_ble_eq_true rfl) d_Law_law_261 (fun r1 w1 H locs hp1 hP hD hS => ?_)
          obtain ⟨hr1, hRC1⟩ := hp1
          obtain ⟨nd, gl, k1, k2, k3, k4, k5, k6, k7, k8, k9, kb, gf, gz, kr, rfl, gT, gO, g3, gM, gB, gK⟩ := hRM
          refine lv_aload_n hx hb d_Law_law_264 rfl (lv_at hl 1 rfl) ?_
          refine lv_aload_n hx hb d_Law_law_265 rfl (lv_at hl 3 rfl) ?_
          refine lv_iload_n hx hb d_Law_law_266 rfl (lv_at hl 0 rfl) ?_
          refine lv_iconst (v := nI 1) hx hb d_Law_law_267 (by decide) ?_
          refine lv_iadd hx hb d_Law_law_268 ?_
          refine topeg (z := nI (i + 1)) (nI_add _ _) ?_
          refine n_sld C hX hbl hbA hS (i + 1) rfl (hI 1 (by decide)) h31 d_Law_law_269 ?_
          refine lv_aload_n hx hb d_Law_law_270 rfl (lv_at hl 3 rfl) ?_
          refine lv_iload_n hx hb d_Law_law_271 rfl (lv_at hl 0 rfl) ?_
          refine lv_iconst (v := nI 2) hx hb d_Law_law_272 (by decide) ?_
          refine lv_iadd hx hb d_Law_law_273 ?_
          refine topeg (z := nI (i + 2)) (nI_add _ _) ?_
          refine n_sld C hX hbl hbA hS (i + 2) rfl (hI 2 (by decide)) h31 d_Law_law_274 ?_
          refine cal_IgR (wc := w1) (As := [.int (xs (i + 1)), .int (xs (i + 2))]) (rest := [.int r1]) C lk_Law_45 (c_Mod_element l E y0 ya yo ym yl yg yw yh yc yd yb yk yz yr nd gl k1 k2 k3 k4 k5 k6 k7 k8 k9 kb gf gz kr tp ou s1 s2 msg sk gT gO g3 gM gB gK (xs (i + 1)) (xs (i + 2))) (by decide) (by decide) hP hD hS 7 rfl rfl (RC_len hRC1) rfl (fun r w h => RM_len h.2) hl.1 rfl (Nat.le_of_ble_eq_true rfl) d_Law_law_275 (fun r2 w2 H locs hp2 hP hD hS => ?_)
          obtain ⟨hr2, hRM1⟩ := hp2
          have h12 : r2 = r1 := hr2.trans hr1.symm
          subst h12
          refine lv_icmp_eq hx hb d_Law_law_278 rfl (fun hc9 => ?_) (fun hc9 => absurd rfl hc9)
          exact hnext _ _ _ H locs ls hRC1 hRM1 hP hD hS hl
        · refine lv_tableIn hx hb d_Law_law_33 (by decide) (by decide) rfl rfl ?_
          obtain ⟨tp, ou, s1, s2, msg, sk⟩ := Mz
          have hRM0 := RM_len hRM
          obtain ⟨n, bo, bh, fl, f1, f2, f3, f4, mf, f, sz, df, xf, st, wv, rfl, hT, hO, h1, h2, hM, hB, hK⟩ := hRC
          refine lv_aload_n hx hb d_Law_law_283 rfl (lv_at hl 2 rfl) ?_
          refine cal_IgL (wm := wm) (As := []) (rest := []) C lk_Law_46 (c_SS_sha l E z0 t0 tb o0 ob p0 pb r0 rb u0 e0 eb es s0 m0 d0 x0 h0 a1 a2 c0 n bo bh fl f1 f2 f3 f4 mf f sz df xf st wv tp ou s1 s2 msg sk hT hO h1 h2 hM hB hK) (by decide) (by decide) hP hD hS 6 rfl rfl rfl (fun r w h => RC_len h.2) hl.1 rfl (Nat.le_of_ble_eq_true rfl) d_Law_law_284 (fun r1 w1 H locs hp1 hP hD hS => ?_)
          obtain ⟨hr1, hRC1⟩ := hp1
          obtain ⟨nd, gl, k1, k2, k3, k4, k5, k6, k7, k8, k9, kb, gf, gz, kr, rfl, gT, gO, g3, gM, gB, gK⟩ := hRM
          refine lv_aload_n hx hb d_Law_law_287 rfl (lv_at hl 1 rfl) ?_
          refine cal_IgR (wc := w1) (As := []) (rest := [.int r1]) C lk_Law_49 (c_Mod_shaP l E y0 ya yo ym yl yg yw yh yc yd yb yk yz yr nd gl k1 k2 k3 k4 k5 k6 k7 k8 k9 kb gf gz kr tp ou s1 s2 msg sk gT gO g3 gM gB gK) (by decide) (by decide) hP hD hS 7 rfl rfl (RC_len hRC1) rfl (fun r w h => RM_len h.2) hl.1 rfl (Nat.le_of_ble_eq_true rfl) d_Law_law_288 (fun r2 w2 H locs hp2 hP hD hS => ?_)
          obtain ⟨hr2, hRM1⟩ := hp2
          have h12 : r2 = r1 := hr2.trans hr1.symm
          subst h12
          refine lv_icmp_eq hx hb d_Law_law_291 rfl (fun hc9 => ?_) (fun hc9 => absurd rfl hc9)
          exact hnext _ _ _ H locs ls hRC1 hRM1 hP hD hS hl
        · refine lv_tableIn hx hb d_Law_law_33 (by decide) (by decide) rfl rfl ?_
          obtain ⟨tp, ou, s1, s2, msg, sk⟩ := Mz
          have hRM0 := RM_len hRM
          obtain ⟨n, bo, bh, fl, f1, f2, f3, f4, mf, f, sz, df, xf, st, wv, rfl, hT, hO, h1, h2, hM, hB, hK⟩ := hRC
          refine lv_aload_n hx hb d_Law_law_296 rfl (lv_at hl 2 rfl) ?_
          refine cal_IgL (wm := wm) (As := []) (rest := []) C lk_Law_50 (c_SS_sign l E z0 t0 tb o0 ob p0 pb r0 rb u0 e0 eb es s0 m0 d0 x0 h0 a1 a2 c0 n bo bh fl f1 f2 f3 f4 mf f sz df xf st wv tp ou s1 s2 msg sk hT hO h1 h2 hM hB hK) (by decide) (by decide) hP hD hS 6 rfl rfl rfl (fun r w h => RC_len h.2) hl.1 rfl (Nat.le_of_ble_eq_true rfl) d_Law_law_297 (fun r1 w1 H locs hp1 hP hD hS => ?_)
          obtain ⟨hr1, hRC1⟩ := hp1
          obtain ⟨nd, gl, k1, k2, k3, k4, k5, k6, k7, k8, k9, kb, gf, gz, kr, rfl, gT, gO, g3, gM, gB, gK⟩ := hRM
          refine lv_aload_n hx hb d_Law_law_300 rfl (lv_at hl 1 rfl) ?_
          refine cal_IgR (wc := w1) (As := []) (rest := [.int r1]) C lk_Law_53 (c_Mod_sign l E y0 ya yo ym yl yg yw yh yc yd yb yk yz yr nd gl k1 k2 k3 k4 k5 k6 k7 k8 k9 kb gf gz kr tp ou s1 s2 msg sk gT gO g3 gM gB gK) (by decide) (by decide) hP hD hS 7 rfl rfl (RC_len hRC1) rfl (fun r w h => RM_len h.2) hl.1 rfl (Nat.le_of_ble_eq_true rfl) d_Law_law_301 (fun r2 w2 H locs hp2 hP hD hS => ?_)
          obtain ⟨hr2, hRM1⟩ := hp2
          have h12 : r2 = r1 := hr2.trans hr1.symm
          subst h12
          refine lv_icmp_eq hx hb d_Law_law_304 rfl (fun hc9 => ?_) (fun hc9 => absurd rfl hc9)
          exact hnext _ _ _ H locs ls hRC1 hRM1 hP hD hS hl
        · refine lv_tableIn hx hb d_Law_law_33 (by decide) (by decide) rfl rfl ?_
          obtain ⟨tp, ou, s1, s2, msg, sk⟩ := Mz
          have hRM0 := RM_len hRM
          obtain ⟨n, bo, bh, fl, f1, f2, f3, f4, mf, f, sz, df, xf, st, wv, rfl, hT, hO, h1, h2, hM, hB, hK⟩ := hRC
          refine lv_aload_n hx hb d_Law_law_309 rfl (lv_at hl 2 rfl) ?_
          refine cal_IgL (wm := wm) (As := []) (rest := []) C lk_Law_54 (c_SS_back l E z0 t0 tb o0 ob p0 pb r0 rb u0 e0 eb es s0 m0 d0 x0 h0 a1 a2 c0 n bo bh fl f1 f2 f3 f4 mf f sz df xf st wv tp ou s1 s2 msg sk hT hO h1 h2 hM hB hK) (by decide) (by decide) hP hD hS 6 rfl rfl rfl (fun r w h => RC_len h.2) hl.1 rfl (Nat.le_of_ble_eq_true rfl) d_Law_law_310 (fun r1 w1 H locs hp1 hP hD hS => ?_)
          obtain ⟨hr1, hRC1⟩ := hp1
          obtain ⟨nd, gl, k1, k2, k3, k4, k5, k6, k7, k8, k9, kb, gf, gz, kr, rfl, gT, gO, g3, gM, gB, gK⟩ := hRM
          refine lv_aload_n hx hb d_Law_law_313 rfl (lv_at hl 1 rfl) ?_
          refine cal_IgR (wc := w1) (As := []) (rest := [.int r1]) C lk_Law_57 (c_Mod_back l E y0 ya yo ym yl yg yw yh yc yd yb yk yz yr nd gl k1 k2 k3 k4 k5 k6 k7 k8 k9 kb gf gz kr tp ou s1 s2 msg sk gT gO g3 gM gB gK) (by decide) (by decide) hP hD hS 7 rfl rfl (RC_len hRC1) rfl (fun r w h => RM_len h.2) hl.1 rfl (Nat.le_of_ble_eq_true rfl) d_Law_law_314 (fun r2 w2 H locs hp2 hP hD hS => ?_)
          obtain ⟨hr2, hRM1⟩ := hp2
          have h12 : r2 = r1 := hr2.trans hr1.symm
          subst h12
          refine lv_icmp_eq hx hb d_Law_law_317 rfl (fun hc9 => ?_) (fun hc9 => absurd rfl hc9)
          exact hnext _ _ _ H locs ls hRC1 hRM1 hP hD hS hl
        · refine lv_tableIn hx hb d_Law_law_33 (by decide) (by decide) rfl rfl ?_
          obtain ⟨tp, ou, s1, s2, msg, sk⟩ := Mz
          have hRM0 := RM_len hRM
          obtain ⟨n, bo, bh, fl, f1, f2, f3, f4, mf, f, sz, df, xf, st, wv, rfl, hT, hO, h1, h2, hM, hB, hK⟩ := hRC
          refine lv_aload_n hx hb d_Law_law_322 rfl (lv_at hl 2 rfl) ?_
          refine lv_aload_n hx hb d_Law_law_323 rfl (lv_at hl 3 rfl) ?_
          refine lv_iload_n hx hb d_Law_law_324 rfl (lv_at hl 0 rfl) ?_
          refine lv_iconst (v := nI 1) hx hb d_Law_law_325 (by decide) ?_
          refine lv_iadd hx hb d_Law_law_326 ?_
          refine topeg (z := nI (i + 1)) (nI_add _ _) ?_
          refine n_sld C hX hbl hbA hS (i + 1) rfl (hI 1 (by decide)) h31 d_Law_law_327 ?_
          refine cal_IgL (wm := wm) (As := [.int (xs (i + 1))]) (rest := []) C lk_Law_58 (c_SS_octet l E z0 t0 tb o0 ob p0 pb r0 rb u0 e0 eb es s0 m0 d0 x0 h0 a1 a2 c0 n bo bh fl f1 f2 f3 f4 mf f sz df xf st wv tp ou s1 s2 msg sk hT hO h1 h2 hM hB hK (xs (i + 1))) (by decide) (by decide) hP hD hS 6 rfl rfl rfl (fun r w h => RC_len h.2) hl.1 rfl (Nat.le_of_ble_eq_true rfl) d_Law_law_328 (fun r1 w1 H locs hp1 hP hD hS => ?_)
          obtain ⟨hr1, hRC1⟩ := hp1
          obtain ⟨nd, gl, k1, k2, k3, k4, k5, k6, k7, k8, k9, kb, gf, gz, kr, rfl, gT, gO, g3, gM, gB, gK⟩ := hRM
          refine lv_aload_n hx hb d_Law_law_331 rfl (lv_at hl 1 rfl) ?_
          refine lv_aload_n hx hb d_Law_law_332 rfl (lv_at hl 3 rfl) ?_
          refine lv_iload_n hx hb d_Law_law_333 rfl (lv_at hl 0 rfl) ?_
          refine lv_iconst (v := nI 1) hx hb d_Law_law_334 (by decide) ?_
          refine lv_iadd hx hb d_Law_law_335 ?_
          refine topeg (z := nI (i + 1)) (nI_add _ _) ?_
          refine n_sld C hX hbl hbA hS (i + 1) rfl (hI 1 (by decide)) h31 d_Law_law_336 ?_
          refine cal_IgR (wc := w1) (As := [.int (xs (i + 1))]) (rest := [.int r1]) C lk_Law_61 (c_Mod_octet l E y0 ya yo ym yl yg yw yh yc yd yb yk yz yr nd gl k1 k2 k3 k4 k5 k6 k7 k8 k9 kb gf gz kr tp ou s1 s2 msg sk gT gO g3 gM gB gK (xs (i + 1))) (by decide) (by decide) hP hD hS 7 rfl rfl (RC_len hRC1) rfl (fun r w h => RM_len h.2) hl.1 rfl (Nat.le_of_ble_eq_true rfl) d_Law_law_337 (fun r2 w2 H locs hp2 hP hD hS => ?_)
          obtain ⟨hr2, hRM1⟩ := hp2
          have h12 : r2 = r1 := hr2.trans hr1.symm
          subst h12
          refine lv_icmp_eq hx hb d_Law_law_340 rfl (fun hc9 => ?_) (fun hc9 => absurd rfl hc9)
          exact hnext _ _ _ H locs ls hRC1 hRM1 hP hD hS hl
        · refine lv_tableOut hx hb d_Law_law_33 (by rw [nI_toInt (by omega)]; omega) rfl ?_
          exact hnext _ _ _ H locs ls hRC hRM hP hD hS hl
  exact hloop (L + 7) 0 ([], [], [], [], z32, none) [(z0, .inr (6, [.ref t0, .ref o0, .ref p0, .ref r0, .ref u0, .ref e0, .ref s0, .ref h0, .int (b2 false)])), (t0, .inr (2, [.ref tb, .int (nI 0)])), (tb, .inl (E.2.1, 400, .inl (fun _ => 0))), (o0, .inr (2, [.ref ob, .int (nI 0)])), (ob, .inl (E.2.1, 32, .inl (fun _ => 0))), (p0, .inr (2, [.ref pb, .int (nI 0)])), (pb, .inl (E.2.1, 80, .inl (fun _ => 0))), (r0, .inr (2, [.ref rb, .int (nI 0)])), (rb, .inl (E.2.1, 80, .inl (fun _ => 0))), (u0, .inr (3, [.ref e0, .ref s0, .ref h0, .ref c0])), (e0, .inr (1, [.ref eb, .ref es, .int (nI 0)])), (eb, .inl (E.2.1, 1920, .inl (fun _ => 0))), (es, .inl (E.2.2.1, 24, .inl (fun _ => 0))), (s0, .inr (5, [.ref m0, .ref d0, .ref h0, .ref x0])), (m0, .inl (E.2.1, 32, .inl (fun _ => 0))), (d0, .inl (E.2.1, 32, .inl (fun _ => 0))), (x0, .inl (E.2.1, 112, .inl (fun _ => 0))), (h0, .inr (4, [.ref a1, .ref a2])), (a1, .inl (E.2.2.1, 8, .inl (fun _ => 0))), (a2, .inl (E.2.2.1, 64, .inl (fun _ => 0))), (c0, .inr (0, [.int (nI 0), .int (nI 0)]))] [(y0, .inr (7, [.ref ya, .int (nI 0), .ref yo, .int (nI 0), .ref ym, .ref yl, .ref yg, .ref yw, .ref yh, .ref yc, .ref yd, .ref yb, .ref yk, .ref yz, .int (nI 0), .int (b2 false), .ref yr])), (ya, .inl (E.2.1, 400, .inl (fun _ => 0))), (yo, .inl (E.2.1, 32, .inl (fun _ => 0))), (ym, .inl (E.2.1, 160, .inl (fun _ => 0))), (yl, .inl (E.2.2.1, 2, .inl (fun _ => 0))), (yg, .inl (E.2.1, 32, .inl (fun _ => 0))), (yw, .inl (E.2.2.1, 64, .inl (fun _ => 0))), (yh, .inl (E.2.2.1, 8, .inl (fun _ => 0))), (yc, .inl (E.2.1, 32, .inl (fun _ => 0))), (yd, .inl (E.2.1, 32, .inl (fun _ => 0))), (yb, .inl (E.2.1, 512, .inl (fun _ => 0))), (yk, .inl (E.2.1, 1920, .inl (fun _ => 0))), (yz, .inl (E.2.2.1, 24, .inl (fun _ => 0))), (yr, .inl (E.2.2.2.1, 100, .inl (fun _ => 0)))] H locs ls (by omega) (by omega) hRC hRM hP hD hS hl
