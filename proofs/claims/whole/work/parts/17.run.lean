abbrev wU (E : En) (u0 e0 eb es s0 m0 d0 x0 h0 a1 a2 c0 n bo bh : Nat) (mf f sz df xf st wv : Nat → Int32) : va_W := [(u0, .inr (3, [.ref e0, .ref s0, .ref h0, .ref c0])), (e0, .inr (1, [.ref eb, .ref es, .int (nI n)])), (eb, .inl (E.2.1, 1920, .inl f)), (es, .inl (E.2.2.1, 24, .inl sz)), (s0, .inr (5, [.ref m0, .ref d0, .ref h0, .ref x0])), (m0, .inl (E.2.1, 32, .inl mf)), (d0, .inl (E.2.1, 32, .inl df)), (x0, .inl (E.2.1, 112, .inl xf)), (h0, .inr (4, [.ref a1, .ref a2])), (a1, .inl (E.2.2.1, 8, .inl st)), (a2, .inl (E.2.2.1, 64, .inl wv)), (c0, .inr (0, [.int (nI bo), .int (nI bh)]))]
/-- how a step of a script ends: the stack as the spec has it, or the script fails -/
def stepP (E : En) (u0 e0 eb es s0 m0 d0 x0 h0 a1 a2 c0 bo bh : Nat) (mf : Nat → Int32) (R : Option Stk) (r : Int32) (w : va_W) : Prop := ∃ (n : Nat) (f sz df xf st wv : Nat → Int32), w = wU E u0 e0 eb es s0 m0 d0 x0 h0 a1 a2 c0 n bo bh mf f sz df xf st wv ∧ fB f ∧ ((∃ S1 : Stk, R = some S1 ∧ r = b2 true ∧ n = S1.length ∧ rep f sz S1 ∧ S1.length ≤ 24) ∨ (R = none ∧ r = b2 false))
theorem stepP_nar {E : En} {u0 e0 eb es s0 m0 d0 x0 h0 a1 a2 c0 bo bh : Nat} {mf : Nat → Int32} {R : Option Stk} (r : Int32) (w : va_W) (h : stepP E u0 e0 eb es s0 m0 d0 x0 h0 a1 a2 c0 bo bh mf R r w) : narrow .boolean (.int r) = .int r := by
  obtain ⟨n, f, sz, df, xf, st, wv, -, -, ⟨S1, -, rfl, -⟩ | ⟨-, rfl⟩⟩ := h
  · exact b2_nar _
  · exact b2_nar _

set_option maxHeartbeats 4000000 in
set_option maxRecDepth 100000 in
theorem c_Run_equal (l : Launch) (E : En) (u0 e0 eb es s0 m0 d0 x0 h0 a1 a2 c0 bo bh : Nat) (mf f sz df xf st wv : Nat → Int32) (S : Stk) (msg : Byl) (hrep : rep f sz S) (hB : fB f) (hBm : fB mf) (hlen : S.length ≤ 24) (hm : lay mf 0 msg) (hm32 : msg.length = 32) (ht : Int32) : CtI l y_Run_equal b_Run_equal 3 .boolean (rmd 4) E [.ref u0] [(u0, .inr (3, [.ref e0, .ref s0, .ref h0, .ref c0])), (e0, .inr (1, [.ref eb, .ref es, .int (nI S.length)])), (eb, .inl (E.2.1, 1920, .inl f)), (es, .inl (E.2.2.1, 24, .inl sz)), (s0, .inr (5, [.ref m0, .ref d0, .ref h0, .ref x0])), (m0, .inl (E.2.1, 32, .inl mf)), (d0, .inl (E.2.1, 32, .inl df)), (x0, .inl (E.2.1, 112, .inl xf)), (h0, .inr (4, [.ref a1, .ref a2])), (a1, .inl (E.2.2.1, 8, .inl st)), (a2, .inl (E.2.2.1, 64, .inl wv)), (c0, .inr (0, [.int (nI bo), .int (nI bh)]))] (stepP E u0 e0 eb es s0 m0 d0 x0 h0 a1 a2 c0 bo bh mf (actS 86 ht msg S)) := by
  refine CtI.of (by decide) (Nat.le_of_ble_eq_true rfl) (stepP_nar) ?_
  intro p e s m args below meth c A Q H locs ls C hP hD hS hl kret
  have hx := C.1
  have hb := C.2.1
  have hl : lv_has ls 3 [(0, .ref u0)] := hl
  rcases S with _ | ⟨x, _ | ⟨y, S⟩⟩
  · have hP : va_P E.1 clz [(u0, .inr (3, [.ref e0, .ref s0, .ref h0, .ref c0])), (e0, .inr (1, [.ref eb, .ref es, .int (nI 0)])), (eb, .inl (E.2.1, 1920, .inl f)), (es, .inl (E.2.2.1, 24, .inl sz)), (s0, .inr (5, [.ref m0, .ref d0, .ref h0, .ref x0])), (m0, .inl (E.2.1, 32, .inl mf)), (d0, .inl (E.2.1, 32, .inl df)), (x0, .inl (E.2.1, 112, .inl xf)), (h0, .inr (4, [.ref a1, .ref a2])), (a1, .inl (E.2.2.1, 8, .inl st)), (a2, .inl (E.2.2.1, 64, .inl wv)), (c0, .inr (0, [.int (nI bo), .int (nI bh)]))] H := hP
    have hD : va_D A [(u0, .inr (3, [.ref e0, .ref s0, .ref h0, .ref c0])), (e0, .inr (1, [.ref eb, .ref es, .int (nI 0)])), (eb, .inl (E.2.1, 1920, .inl f)), (es, .inl (E.2.2.1, 24, .inl sz)), (s0, .inr (5, [.ref m0, .ref d0, .ref h0, .ref x0])), (m0, .inl (E.2.1, 32, .inl mf)), (d0, .inl (E.2.1, 32, .inl df)), (x0, .inl (E.2.1, 112, .inl xf)), (h0, .inr (4, [.ref a1, .ref a2])), (a1, .inl (E.2.2.1, 8, .inl st)), (a2, .inl (E.2.2.1, 64, .inl wv)), (c0, .inr (0, [.int (nI bo), .int (nI bh)]))] := hD
    refine lv_aload_n hx hb d_Run_equal_0 rfl (lv_at hl 0 rfl) ?_
    refine n_get C fg_Run_12 hP 0 rfl rfl d_Run_equal_1 ?_
    refine n_get C fg_Run_79 hP 1 rfl rfl d_Run_equal_4 ?_
    refine lv_iconst (v := nI 1) hx hb d_Run_equal_7 (by decide) ?_
    refine lv_isub hx hb d_Run_equal_8 ?_
    refine tope (z := (-1)) (by decide) ?_
    refine lv_istore_n (lv' := [(1, .int (-1)), (0, .ref u0)]) hx hb d_Run_equal_9 rfl hl (by decide) rfl (fun ls hl => ?_)
    refine lv_aload_n hx hb d_Run_equal_10 rfl (lv_at hl 1 rfl) ?_
    refine n_get C fg_Run_12 hP 0 rfl rfl d_Run_equal_11 ?_
    refine lv_iload_n hx hb d_Run_equal_14 rfl (lv_at hl 0 rfl) ?_
    refine lv_iconst (v := nI 1) hx hb d_Run_equal_15 (by decide) ?_
    refine lv_isub hx hb d_Run_equal_16 ?_
    refine tope (z := (-2)) (by decide) ?_
    refine cal_I (As := [.int (-2)]) (rest := []) C lk_Run_94 (c_El_has l E e0 eb es 0 (-2)) (by decide) hP hD hS 1 1 rfl rfl [1] rfl (by decide) hl.1 rfl (Nat.le_of_ble_eq_true rfl) d_Run_equal_17 (fun r1 w1 H locs hp2 hP hD hS => ?_)
    obtain ⟨rfl, rfl⟩ := hp2
    have hP : va_P E.1 clz [(u0, .inr (3, [.ref e0, .ref s0, .ref h0, .ref c0])), (e0, .inr (1, [.ref eb, .ref es, .int (nI 0)])), (eb, .inl (E.2.1, 1920, .inl f)), (es, .inl (E.2.2.1, 24, .inl sz)), (s0, .inr (5, [.ref m0, .ref d0, .ref h0, .ref x0])), (m0, .inl (E.2.1, 32, .inl mf)), (d0, .inl (E.2.1, 32, .inl df)), (x0, .inl (E.2.1, 112, .inl xf)), (h0, .inr (4, [.ref a1, .ref a2])), (a1, .inl (E.2.2.1, 8, .inl st)), (a2, .inl (E.2.2.1, 64, .inl wv)), (c0, .inr (0, [.int (nI bo), .int (nI bh)]))] H := hP
    have hD : va_D A [(u0, .inr (3, [.ref e0, .ref s0, .ref h0, .ref c0])), (e0, .inr (1, [.ref eb, .ref es, .int (nI 0)])), (eb, .inl (E.2.1, 1920, .inl f)), (es, .inl (E.2.2.1, 24, .inl sz)), (s0, .inr (5, [.ref m0, .ref d0, .ref h0, .ref x0])), (m0, .inl (E.2.1, 32, .inl mf)), (d0, .inl (E.2.1, 32, .inl df)), (x0, .inl (E.2.1, 112, .inl xf)), (h0, .inr (4, [.ref a1, .ref a2])), (a1, .inl (E.2.2.1, 8, .inl st)), (a2, .inl (E.2.2.1, 64, .inl wv)), (c0, .inr (0, [.int (nI bo), .int (nI bh)]))] := hD
    refine tope (z := b2 false) (congrArg b2 (by first | assumption | exact hasB_m1 _ | exact hasB_m2 _ | exact (hasB_nI (by omega) (by omega)).trans (decide_eq_false (by omega)))) ?_
    refine zb_ne C false rfl d_Run_equal_20 rfl (fun hc3 => absurd hc3 (by simp_all)) (fun hc3 => ?_)
    refine lv_iconst (v := nI 0) hx hb d_Run_equal_23 (by decide) ?_
    exact kret (nI 0) [(u0, .inr (3, [.ref e0, .ref s0, .ref h0, .ref c0])), (e0, .inr (1, [.ref eb, .ref es, .int (nI 0)])), (eb, .inl (E.2.1, 1920, .inl f)), (es, .inl (E.2.2.1, 24, .inl sz)), (s0, .inr (5, [.ref m0, .ref d0, .ref h0, .ref x0])), (m0, .inl (E.2.1, 32, .inl mf)), (d0, .inl (E.2.1, 32, .inl df)), (x0, .inl (E.2.1, 112, .inl xf)), (h0, .inr (4, [.ref a1, .ref a2])), (a1, .inl (E.2.2.1, 8, .inl st)), (a2, .inl (E.2.2.1, 64, .inl wv)), (c0, .inr (0, [.int (nI bo), .int (nI bh)]))] _ _ _ _ d_Run_equal_24 (⟨_, _, _, _, _, _, _, rfl, hB, Or.inr ⟨rfl, rfl⟩⟩) rfl hP hS
  · have hx1 : sz 0 = nI x.length ∧ x.length ≤ 80 ∧ lay f (0 * 80) x := rep_top hrep
    have hP : va_P E.1 clz [(u0, .inr (3, [.ref e0, .ref s0, .ref h0, .ref c0])), (e0, .inr (1, [.ref eb, .ref es, .int (nI 1)])), (eb, .inl (E.2.1, 1920, .inl f)), (es, .inl (E.2.2.1, 24, .inl sz)), (s0, .inr (5, [.ref m0, .ref d0, .ref h0, .ref x0])), (m0, .inl (E.2.1, 32, .inl mf)), (d0, .inl (E.2.1, 32, .inl df)), (x0, .inl (E.2.1, 112, .inl xf)), (h0, .inr (4, [.ref a1, .ref a2])), (a1, .inl (E.2.2.1, 8, .inl st)), (a2, .inl (E.2.2.1, 64, .inl wv)), (c0, .inr (0, [.int (nI bo), .int (nI bh)]))] H := hP
    have hD : va_D A [(u0, .inr (3, [.ref e0, .ref s0, .ref h0, .ref c0])), (e0, .inr (1, [.ref eb, .ref es, .int (nI 1)])), (eb, .inl (E.2.1, 1920, .inl f)), (es, .inl (E.2.2.1, 24, .inl sz)), (s0, .inr (5, [.ref m0, .ref d0, .ref h0, .ref x0])), (m0, .inl (E.2.1, 32, .inl mf)), (d0, .inl (E.2.1, 32, .inl df)), (x0, .inl (E.2.1, 112, .inl xf)), (h0, .inr (4, [.ref a1, .ref a2])), (a1, .inl (E.2.2.1, 8, .inl st)), (a2, .inl (E.2.2.1, 64, .inl wv)), (c0, .inr (0, [.int (nI bo), .int (nI bh)]))] := hD
    refine lv_aload_n hx hb d_Run_equal_0 rfl (lv_at hl 0 rfl) ?_
    refine n_get C fg_Run_12 hP 0 rfl rfl d_Run_equal_1 ?_
    refine n_get C fg_Run_79 hP 1 rfl rfl d_Run_equal_4 ?_
    refine lv_iconst (v := nI 1) hx hb d_Run_equal_7 (by decide) ?_
    refine lv_isub hx hb d_Run_equal_8 ?_
    refine tope (z := nI 0) (pk_sub (by omega)) ?_
    refine lv_istore_n (lv' := [(1, .int (nI 0)), (0, .ref u0)]) hx hb d_Run_equal_9 rfl hl (by decide) rfl (fun ls hl => ?_)
    refine lv_aload_n hx hb d_Run_equal_10 rfl (lv_at hl 1 rfl) ?_
    refine n_get C fg_Run_12 hP 0 rfl rfl d_Run_equal_11 ?_
    refine lv_iload_n hx hb d_Run_equal_14 rfl (lv_at hl 0 rfl) ?_
    refine lv_iconst (v := nI 1) hx hb d_Run_equal_15 (by decide) ?_
    refine lv_isub hx hb d_Run_equal_16 ?_
    refine tope (z := (-1)) (by decide) ?_
    refine cal_I (As := [.int (-1)]) (rest := []) C lk_Run_94 (c_El_has l E e0 eb es 1 (-1)) (by decide) hP hD hS 1 1 rfl rfl [1] rfl (by decide) hl.1 rfl (Nat.le_of_ble_eq_true rfl) d_Run_equal_17 (fun r4 w1 H locs hp5 hP hD hS => ?_)
    obtain ⟨rfl, rfl⟩ := hp5
    have hP : va_P E.1 clz [(u0, .inr (3, [.ref e0, .ref s0, .ref h0, .ref c0])), (e0, .inr (1, [.ref eb, .ref es, .int (nI 1)])), (eb, .inl (E.2.1, 1920, .inl f)), (es, .inl (E.2.2.1, 24, .inl sz)), (s0, .inr (5, [.ref m0, .ref d0, .ref h0, .ref x0])), (m0, .inl (E.2.1, 32, .inl mf)), (d0, .inl (E.2.1, 32, .inl df)), (x0, .inl (E.2.1, 112, .inl xf)), (h0, .inr (4, [.ref a1, .ref a2])), (a1, .inl (E.2.2.1, 8, .inl st)), (a2, .inl (E.2.2.1, 64, .inl wv)), (c0, .inr (0, [.int (nI bo), .int (nI bh)]))] H := hP
    have hD : va_D A [(u0, .inr (3, [.ref e0, .ref s0, .ref h0, .ref c0])), (e0, .inr (1, [.ref eb, .ref es, .int (nI 1)])), (eb, .inl (E.2.1, 1920, .inl f)), (es, .inl (E.2.2.1, 24, .inl sz)), (s0, .inr (5, [.ref m0, .ref d0, .ref h0, .ref x0])), (m0, .inl (E.2.1, 32, .inl mf)), (d0, .inl (E.2.1, 32, .inl df)), (x0, .inl (E.2.1, 112, .inl xf)), (h0, .inr (4, [.ref a1, .ref a2])), (a1, .inl (E.2.2.1, 8, .inl st)), (a2, .inl (E.2.2.1, 64, .inl wv)), (c0, .inr (0, [.int (nI bo), .int (nI bh)]))] := hD
    refine tope (z := b2 false) (congrArg b2 (by first | assumption | exact hasB_m1 _ | exact hasB_m2 _ | exact (hasB_nI (by omega) (by omega)).trans (decide_eq_false (by omega)))) ?_
    refine zb_ne C false rfl d_Run_equal_20 rfl (fun hc6 => absurd hc6 (by simp_all)) (fun hc6 => ?_)
    refine lv_iconst (v := nI 0) hx hb d_Run_equal_23 (by decide) ?_
    exact kret (nI 0) [(u0, .inr (3, [.ref e0, .ref s0, .ref h0, .ref c0])), (e0, .inr (1, [.ref eb, .ref es, .int (nI 1)])), (eb, .inl (E.2.1, 1920, .inl f)), (es, .inl (E.2.2.1, 24, .inl sz)), (s0, .inr (5, [.ref m0, .ref d0, .ref h0, .ref x0])), (m0, .inl (E.2.1, 32, .inl mf)), (d0, .inl (E.2.1, 32, .inl df)), (x0, .inl (E.2.1, 112, .inl xf)), (h0, .inr (4, [.ref a1, .ref a2])), (a1, .inl (E.2.2.1, 8, .inl st)), (a2, .inl (E.2.2.1, 64, .inl wv)), (c0, .inr (0, [.int (nI bo), .int (nI bh)]))] _ _ _ _ d_Run_equal_24 (⟨_, _, _, _, _, _, _, rfl, hB, Or.inr ⟨rfl, rfl⟩⟩) rfl hP hS
  · have hx1 : sz (S.length + 1) = nI x.length ∧ x.length ≤ 80 ∧ lay f ((S.length + 1) * 80) x := rep_top hrep
    have hy1 : sz S.length = nI y.length ∧ y.length ≤ 80 ∧ lay f (S.length * 80) y := rep_top (rep_tail hrep)
    have hr0 : rep f sz S := rep_tail (rep_tail hrep)
    have hlen : S.length + 2 ≤ 24 := hlen
    have hP : va_P E.1 clz [(u0, .inr (3, [.ref e0, .ref s0, .ref h0, .ref c0])), (e0, .inr (1, [.ref eb, .ref es, .int (nI (S.length + 2))])), (eb, .inl (E.2.1, 1920, .inl f)), (es, .inl (E.2.2.1, 24, .inl sz)), (s0, .inr (5, [.ref m0, .ref d0, .ref h0, .ref x0])), (m0, .inl (E.2.1, 32, .inl mf)), (d0, .inl (E.2.1, 32, .inl df)), (x0, .inl (E.2.1, 112, .inl xf)), (h0, .inr (4, [.ref a1, .ref a2])), (a1, .inl (E.2.2.1, 8, .inl st)), (a2, .inl (E.2.2.1, 64, .inl wv)), (c0, .inr (0, [.int (nI bo), .int (nI bh)]))] H := hP
    have hD : va_D A [(u0, .inr (3, [.ref e0, .ref s0, .ref h0, .ref c0])), (e0, .inr (1, [.ref eb, .ref es, .int (nI (S.length + 2))])), (eb, .inl (E.2.1, 1920, .inl f)), (es, .inl (E.2.2.1, 24, .inl sz)), (s0, .inr (5, [.ref m0, .ref d0, .ref h0, .ref x0])), (m0, .inl (E.2.1, 32, .inl mf)), (d0, .inl (E.2.1, 32, .inl df)), (x0, .inl (E.2.1, 112, .inl xf)), (h0, .inr (4, [.ref a1, .ref a2])), (a1, .inl (E.2.2.1, 8, .inl st)), (a2, .inl (E.2.2.1, 64, .inl wv)), (c0, .inr (0, [.int (nI bo), .int (nI bh)]))] := hD
    refine lv_aload_n hx hb d_Run_equal_0 rfl (lv_at hl 0 rfl) ?_
    refine n_get C fg_Run_12 hP 0 rfl rfl d_Run_equal_1 ?_
    refine n_get C fg_Run_79 hP 1 rfl rfl d_Run_equal_4 ?_
    refine lv_iconst (v := nI 1) hx hb d_Run_equal_7 (by decide) ?_
    refine lv_isub hx hb d_Run_equal_8 ?_
    refine tope (z := nI (S.length + 1)) ((pk_sub (by omega)).trans (congrArg nI (by omega))) ?_
    refine lv_istore_n (lv' := [(1, .int (nI (S.length + 1))), (0, .ref u0)]) hx hb d_Run_equal_9 rfl hl (by decide) rfl (fun ls hl => ?_)
    refine lv_aload_n hx hb d_Run_equal_10 rfl (lv_at hl 1 rfl) ?_
    refine n_get C fg_Run_12 hP 0 rfl rfl d_Run_equal_11 ?_
    refine lv_iload_n hx hb d_Run_equal_14 rfl (lv_at hl 0 rfl) ?_
    refine lv_iconst (v := nI 1) hx hb d_Run_equal_15 (by decide) ?_
    refine lv_isub hx hb d_Run_equal_16 ?_
    refine tope (z := nI S.length) ((pk_sub (by omega)).trans (congrArg nI (by omega))) ?_
    refine cal_I (As := [.int (nI S.length)]) (rest := []) C lk_Run_94 (c_El_has l E e0 eb es (S.length + 2) (nI S.length)) (by decide) hP hD hS 1 1 rfl rfl [1] rfl (by decide) hl.1 rfl (Nat.le_of_ble_eq_true rfl) d_Run_equal_17 (fun r7 w1 H locs hp8 hP hD hS => ?_)
    obtain ⟨rfl, rfl⟩ := hp8
    have hP : va_P E.1 clz [(u0, .inr (3, [.ref e0, .ref s0, .ref h0, .ref c0])), (e0, .inr (1, [.ref eb, .ref es, .int (nI (S.length + 2))])), (eb, .inl (E.2.1, 1920, .inl f)), (es, .inl (E.2.2.1, 24, .inl sz)), (s0, .inr (5, [.ref m0, .ref d0, .ref h0, .ref x0])), (m0, .inl (E.2.1, 32, .inl mf)), (d0, .inl (E.2.1, 32, .inl df)), (x0, .inl (E.2.1, 112, .inl xf)), (h0, .inr (4, [.ref a1, .ref a2])), (a1, .inl (E.2.2.1, 8, .inl st)), (a2, .inl (E.2.2.1, 64, .inl wv)), (c0, .inr (0, [.int (nI bo), .int (nI bh)]))] H := hP
    have hD : va_D A [(u0, .inr (3, [.ref e0, .ref s0, .ref h0, .ref c0])), (e0, .inr (1, [.ref eb, .ref es, .int (nI (S.length + 2))])), (eb, .inl (E.2.1, 1920, .inl f)), (es, .inl (E.2.2.1, 24, .inl sz)), (s0, .inr (5, [.ref m0, .ref d0, .ref h0, .ref x0])), (m0, .inl (E.2.1, 32, .inl mf)), (d0, .inl (E.2.1, 32, .inl df)), (x0, .inl (E.2.1, 112, .inl xf)), (h0, .inr (4, [.ref a1, .ref a2])), (a1, .inl (E.2.2.1, 8, .inl st)), (a2, .inl (E.2.2.1, 64, .inl wv)), (c0, .inr (0, [.int (nI bo), .int (nI bh)]))] := hD
    refine tope (z := b2 true) (congrArg b2 ((hasB_nI (by omega) (by omega)).trans (decide_eq_true (by omega)))) ?_
    refine zb_ne C true rfl d_Run_equal_20 rfl (fun hc9 => ?_) (fun hc9 => absurd hc9 (by simp_all))
    refine lv_aload_n hx hb d_Run_equal_25 rfl (lv_at hl 1 rfl) ?_
    refine n_get C fg_Run_12 hP 0 rfl rfl d_Run_equal_26 ?_
    refine lv_iload_n hx hb d_Run_equal_29 rfl (lv_at hl 0 rfl) ?_
    refine lv_iconst (v := nI 1) hx hb d_Run_equal_30 (by decide) ?_
    refine lv_isub hx hb d_Run_equal_31 ?_
    refine tope (z := nI S.length) ((pk_sub (by omega)).trans (congrArg nI (by omega))) ?_
    refine lv_aload_n hx hb d_Run_equal_32 rfl (lv_at hl 1 rfl) ?_
    refine n_get C fg_Run_12 hP 0 rfl rfl d_Run_equal_33 ?_
    refine n_get C fg_Run_134 hP 1 rfl rfl d_Run_equal_36 ?_
    refine lv_aload_n hx hb d_Run_equal_39 rfl (lv_at hl 1 rfl) ?_
    refine n_get C fg_Run_12 hP 0 rfl rfl d_Run_equal_40 ?_
    refine lv_iload_n hx hb d_Run_equal_43 rfl (lv_at hl 0 rfl) ?_
    refine cal_I (As := [.int (nI (S.length + 1))]) (rest := [.ref eb, .int (nI S.length), .ref e0]) C lk_Run_135 (c_El_place l E e0 (S.length + 1)) (by decide) hP hD hS 1 1 rfl rfl [] rfl (by decide) hl.1 rfl (Nat.le_of_ble_eq_true rfl) d_Run_equal_44 (fun r10 w1 H locs hp11 hP hD hS => ?_)
    obtain ⟨rfl, rfl⟩ := hp11
    have hP : va_P E.1 clz [(u0, .inr (3, [.ref e0, .ref s0, .ref h0, .ref c0])), (e0, .inr (1, [.ref eb, .ref es, .int (nI (S.length + 2))])), (eb, .inl (E.2.1, 1920, .inl f)), (es, .inl (E.2.2.1, 24, .inl sz)), (s0, .inr (5, [.ref m0, .ref d0, .ref h0, .ref x0])), (m0, .inl (E.2.1, 32, .inl mf)), (d0, .inl (E.2.1, 32, .inl df)), (x0, .inl (E.2.1, 112, .inl xf)), (h0, .inr (4, [.ref a1, .ref a2])), (a1, .inl (E.2.2.1, 8, .inl st)), (a2, .inl (E.2.2.1, 64, .inl wv)), (c0, .inr (0, [.int (nI bo), .int (nI bh)]))] H := hP
    have hD : va_D A [(u0, .inr (3, [.ref e0, .ref s0, .ref h0, .ref c0])), (e0, .inr (1, [.ref eb, .ref es, .int (nI (S.length + 2))])), (eb, .inl (E.2.1, 1920, .inl f)), (es, .inl (E.2.2.1, 24, .inl sz)), (s0, .inr (5, [.ref m0, .ref d0, .ref h0, .ref x0])), (m0, .inl (E.2.1, 32, .inl mf)), (d0, .inl (E.2.1, 32, .inl df)), (x0, .inl (E.2.1, 112, .inl xf)), (h0, .inr (4, [.ref a1, .ref a2])), (a1, .inl (E.2.2.1, 8, .inl st)), (a2, .inl (E.2.2.1, 64, .inl wv)), (c0, .inr (0, [.int (nI bo), .int (nI bh)]))] := hD
    refine lv_aload_n hx hb d_Run_equal_47 rfl (lv_at hl 1 rfl) ?_
    refine n_get C fg_Run_12 hP 0 rfl rfl d_Run_equal_48 ?_
    refine n_get C fg_Run_97 hP 1 rfl rfl d_Run_equal_51 ?_
    refine lv_iload_n hx hb d_Run_equal_54 rfl (lv_at hl 0 rfl) ?_
    refine n_iald C hP 3 rfl (S.length + 1) rfl (by omega) (by omega) d_Run_equal_55 ?_
    refine tope (z := nI x.length) (hx1.1) ?_
    refine cal_I (As := [.int (nI S.length), .ref eb, .int (nI ((S.length + 1) * 80)), .int (nI x.length)]) (rest := []) C lk_Run_138 (c_El_holdsA l E e0 eb es (S.length + 2) f sz S.length y (by omega) (by omega) hy1.1 hy1.2.1 hy1.2.2 x ((S.length + 1) * 80) (hx1.2.2) (by omega)) (by decide) hP hD hS 1 1 rfl rfl [1, 2, 3] rfl (by decide) hl.1 rfl (Nat.le_of_ble_eq_true rfl) d_Run_equal_56 (fun r12 w1 H locs hp13 hP hD hS => ?_)
    obtain ⟨rfl, rfl⟩ := hp13
    have hP : va_P E.1 clz [(u0, .inr (3, [.ref e0, .ref s0, .ref h0, .ref c0])), (e0, .inr (1, [.ref eb, .ref es, .int (nI (S.length + 2))])), (eb, .inl (E.2.1, 1920, .inl f)), (es, .inl (E.2.2.1, 24, .inl sz)), (s0, .inr (5, [.ref m0, .ref d0, .ref h0, .ref x0])), (m0, .inl (E.2.1, 32, .inl mf)), (d0, .inl (E.2.1, 32, .inl df)), (x0, .inl (E.2.1, 112, .inl xf)), (h0, .inr (4, [.ref a1, .ref a2])), (a1, .inl (E.2.2.1, 8, .inl st)), (a2, .inl (E.2.2.1, 64, .inl wv)), (c0, .inr (0, [.int (nI bo), .int (nI bh)]))] H := hP
    have hD : va_D A [(u0, .inr (3, [.ref e0, .ref s0, .ref h0, .ref c0])), (e0, .inr (1, [.ref eb, .ref es, .int (nI (S.length + 2))])), (eb, .inl (E.2.1, 1920, .inl f)), (es, .inl (E.2.2.1, 24, .inl sz)), (s0, .inr (5, [.ref m0, .ref d0, .ref h0, .ref x0])), (m0, .inl (E.2.1, 32, .inl mf)), (d0, .inl (E.2.1, 32, .inl df)), (x0, .inl (E.2.1, 112, .inl xf)), (h0, .inr (4, [.ref a1, .ref a2])), (a1, .inl (E.2.2.1, 8, .inl st)), (a2, .inl (E.2.2.1, 64, .inl wv)), (c0, .inr (0, [.int (nI bo), .int (nI bh)]))] := hD
    refine lv_istore_n (lv' := [(2, .int (b2 (decide (y = x)))), (1, .int (nI (S.length + 1))), (0, .ref u0)]) hx hb d_Run_equal_59 rfl hl (by decide) rfl (fun ls hl => ?_)
    refine lv_aload_n hx hb d_Run_equal_60 rfl (lv_at hl 2 rfl) ?_
    refine n_get C fg_Run_12 hP 0 rfl rfl d_Run_equal_61 ?_
    refine lv_iconst (v := nI 2) hx hb d_Run_equal_64 (by decide) ?_
    refine lv_iload_n hx hb d_Run_equal_65 rfl (lv_at hl 0 rfl) ?_
    refine cal_I (As := [.int (nI 2), .int (b2 (decide (y = x)))]) (rest := []) C lk_Run_111 (c_El_truth l E e0 eb es (S.length + 2) f sz 2 (decide (y = x)) (by omega) (by omega) (by omega)) (by decide) hP hD hS 1 1 rfl rfl [1, 2, 3] rfl (by decide) hl.1 rfl (Nat.le_of_ble_eq_true rfl) d_Run_equal_66 (fun r14 w1 H locs hp15 hP hD hS => ?_)
    obtain ⟨rfl, rfl⟩ := hp15
    have hP : va_P E.1 clz [(u0, .inr (3, [.ref e0, .ref s0, .ref h0, .ref c0])), (e0, .inr (1, [.ref eb, .ref es, .int (nI ((S.length + 2) - 2 + 1))])), (eb, .inl (E.2.1, 1920, .inl (pn4 f (((S.length + 2) - 2) * 80) (b2 (decide (y = x)))))), (es, .inl (E.2.2.1, 24, .inl (upd sz ((S.length + 2) - 2) (pnz (b2 (decide (y = x))))))), (s0, .inr (5, [.ref m0, .ref d0, .ref h0, .ref x0])), (m0, .inl (E.2.1, 32, .inl mf)), (d0, .inl (E.2.1, 32, .inl df)), (x0, .inl (E.2.1, 112, .inl xf)), (h0, .inr (4, [.ref a1, .ref a2])), (a1, .inl (E.2.2.1, 8, .inl st)), (a2, .inl (E.2.2.1, 64, .inl wv)), (c0, .inr (0, [.int (nI bo), .int (nI bh)]))] H := hP
    have hD : va_D A [(u0, .inr (3, [.ref e0, .ref s0, .ref h0, .ref c0])), (e0, .inr (1, [.ref eb, .ref es, .int (nI ((S.length + 2) - 2 + 1))])), (eb, .inl (E.2.1, 1920, .inl (pn4 f (((S.length + 2) - 2) * 80) (b2 (decide (y = x)))))), (es, .inl (E.2.2.1, 24, .inl (upd sz ((S.length + 2) - 2) (pnz (b2 (decide (y = x))))))), (s0, .inr (5, [.ref m0, .ref d0, .ref h0, .ref x0])), (m0, .inl (E.2.1, 32, .inl mf)), (d0, .inl (E.2.1, 32, .inl df)), (x0, .inl (E.2.1, 112, .inl xf)), (h0, .inr (4, [.ref a1, .ref a2])), (a1, .inl (E.2.2.1, 8, .inl st)), (a2, .inl (E.2.2.1, 64, .inl wv)), (c0, .inr (0, [.int (nI bo), .int (nI bh)]))] := hD
    exact kret (b2 true) [(u0, .inr (3, [.ref e0, .ref s0, .ref h0, .ref c0])), (e0, .inr (1, [.ref eb, .ref es, .int (nI ((S.length + 2) - 2 + 1))])), (eb, .inl (E.2.1, 1920, .inl (pn4 f (((S.length + 2) - 2) * 80) (b2 (decide (y = x)))))), (es, .inl (E.2.2.1, 24, .inl (upd sz ((S.length + 2) - 2) (pnz (b2 (decide (y = x))))))), (s0, .inr (5, [.ref m0, .ref d0, .ref h0, .ref x0])), (m0, .inl (E.2.1, 32, .inl mf)), (d0, .inl (E.2.1, 32, .inl df)), (x0, .inl (E.2.1, 112, .inl xf)), (h0, .inr (4, [.ref a1, .ref a2])), (a1, .inl (E.2.2.1, 8, .inl st)), (a2, .inl (E.2.2.1, 64, .inl wv)), (c0, .inr (0, [.int (nI bo), .int (nI bh)]))] _ _ _ _ d_Run_equal_69 (⟨_, _, _, _, _, _, _, rfl, fB_pn4 hB, Or.inl ⟨(numB (b2 (decide (y = x))) :: S), rfl, rfl, by first | rfl | (simp only [List.length_cons]; omega) | (simp only [List.length_cons]), rep_num hr0 (by omega), by first | (simp only [List.length_cons]; omega) | (simp only [List.length_cons]) | omega⟩⟩) rfl hP hS

set_option maxHeartbeats 4000000 in
set_option maxRecDepth 100000 in
theorem c_Run_signed (l : Launch) (E : En) (u0 e0 eb es s0 m0 d0 x0 h0 a1 a2 c0 bo bh : Nat) (mf f sz df xf st wv : Nat → Int32) (S : Stk) (msg : Byl) (hrep : rep f sz S) (hB : fB f) (hBm : fB mf) (hlen : S.length ≤ 24) (hm : lay mf 0 msg) (hm32 : msg.length = 32) (ht : Int32) : CtI l y_Run_signed b_Run_signed 3 .boolean (rmd 4) E [.ref u0] [(u0, .inr (3, [.ref e0, .ref s0, .ref h0, .ref c0])), (e0, .inr (1, [.ref eb, .ref es, .int (nI S.length)])), (eb, .inl (E.2.1, 1920, .inl f)), (es, .inl (E.2.2.1, 24, .inl sz)), (s0, .inr (5, [.ref m0, .ref d0, .ref h0, .ref x0])), (m0, .inl (E.2.1, 32, .inl mf)), (d0, .inl (E.2.1, 32, .inl df)), (x0, .inl (E.2.1, 112, .inl xf)), (h0, .inr (4, [.ref a1, .ref a2])), (a1, .inl (E.2.2.1, 8, .inl st)), (a2, .inl (E.2.2.1, 64, .inl wv)), (c0, .inr (0, [.int (nI bo), .int (nI bh)]))] (stepP E u0 e0 eb es s0 m0 d0 x0 h0 a1 a2 c0 bo bh mf (actS 95 ht msg S)) := by
  refine CtI.of (by decide) (Nat.le_of_ble_eq_true rfl) (stepP_nar) ?_
  intro p e s m args below meth c A Q H locs ls C hP hD hS hl kret
  have hx := C.1
  have hb := C.2.1
  have hl : lv_has ls 3 [(0, .ref u0)] := hl
  rcases S with _ | ⟨x, _ | ⟨y, S⟩⟩
  · have hP : va_P E.1 clz [(u0, .inr (3, [.ref e0, .ref s0, .ref h0, .ref c0])), (e0, .inr (1, [.ref eb, .ref es, .int (nI 0)])), (eb, .inl (E.2.1, 1920, .inl f)), (es, .inl (E.2.2.1, 24, .inl sz)), (s0, .inr (5, [.ref m0, .ref d0, .ref h0, .ref x0])), (m0, .inl (E.2.1, 32, .inl mf)), (d0, .inl (E.2.1, 32, .inl df)), (x0, .inl (E.2.1, 112, .inl xf)), (h0, .inr (4, [.ref a1, .ref a2])), (a1, .inl (E.2.2.1, 8, .inl st)), (a2, .inl (E.2.2.1, 64, .inl wv)), (c0, .inr (0, [.int (nI bo), .int (nI bh)]))] H := hP
    have hD : va_D A [(u0, .inr (3, [.ref e0, .ref s0, .ref h0, .ref c0])), (e0, .inr (1, [.ref eb, .ref es, .int (nI 0)])), (eb, .inl (E.2.1, 1920, .inl f)), (es, .inl (E.2.2.1, 24, .inl sz)), (s0, .inr (5, [.ref m0, .ref d0, .ref h0, .ref x0])), (m0, .inl (E.2.1, 32, .inl mf)), (d0, .inl (E.2.1, 32, .inl df)), (x0, .inl (E.2.1, 112, .inl xf)), (h0, .inr (4, [.ref a1, .ref a2])), (a1, .inl (E.2.2.1, 8, .inl st)), (a2, .inl (E.2.2.1, 64, .inl wv)), (c0, .inr (0, [.int (nI bo), .int (nI bh)]))] := hD
    refine lv_aload_n hx hb d_Run_signed_0 rfl (lv_at hl 0 rfl) ?_
    refine n_get C fg_Run_12 hP 0 rfl rfl d_Run_signed_1 ?_
    refine n_get C fg_Run_79 hP 1 rfl rfl d_Run_signed_4 ?_
    refine lv_iconst (v := nI 1) hx hb d_Run_signed_7 (by decide) ?_
    refine lv_isub hx hb d_Run_signed_8 ?_
    refine tope (z := (-1)) (by decide) ?_
    refine lv_istore_n (lv' := [(1, .int (-1)), (0, .ref u0)]) hx hb d_Run_signed_9 rfl hl (by decide) rfl (fun ls hl => ?_)
    refine lv_aload_n hx hb d_Run_signed_10 rfl (lv_at hl 1 rfl) ?_
    refine n_get C fg_Run_12 hP 0 rfl rfl d_Run_signed_11 ?_
    refine lv_iload_n hx hb d_Run_signed_14 rfl (lv_at hl 0 rfl) ?_
    refine lv_iconst (v := nI 1) hx hb d_Run_signed_15 (by decide) ?_
    refine lv_isub hx hb d_Run_signed_16 ?_
    refine tope (z := (-2)) (by decide) ?_
    refine cal_I (As := [.int (-2)]) (rest := []) C lk_Run_94 (c_El_has l E e0 eb es 0 (-2)) (by decide) hP hD hS 1 1 rfl rfl [1] rfl (by decide) hl.1 rfl (Nat.le_of_ble_eq_true rfl) d_Run_signed_17 (fun r1 w1 H locs hp2 hP hD hS => ?_)
    obtain ⟨rfl, rfl⟩ := hp2
    have hP : va_P E.1 clz [(u0, .inr (3, [.ref e0, .ref s0, .ref h0, .ref c0])), (e0, .inr (1, [.ref eb, .ref es, .int (nI 0)])), (eb, .inl (E.2.1, 1920, .inl f)), (es, .inl (E.2.2.1, 24, .inl sz)), (s0, .inr (5, [.ref m0, .ref d0, .ref h0, .ref x0])), (m0, .inl (E.2.1, 32, .inl mf)), (d0, .inl (E.2.1, 32, .inl df)), (x0, .inl (E.2.1, 112, .inl xf)), (h0, .inr (4, [.ref a1, .ref a2])), (a1, .inl (E.2.2.1, 8, .inl st)), (a2, .inl (E.2.2.1, 64, .inl wv)), (c0, .inr (0, [.int (nI bo), .int (nI bh)]))] H := hP
    have hD : va_D A [(u0, .inr (3, [.ref e0, .ref s0, .ref h0, .ref c0])), (e0, .inr (1, [.ref eb, .ref es, .int (nI 0)])), (eb, .inl (E.2.1, 1920, .inl f)), (es, .inl (E.2.2.1, 24, .inl sz)), (s0, .inr (5, [.ref m0, .ref d0, .ref h0, .ref x0])), (m0, .inl (E.2.1, 32, .inl mf)), (d0, .inl (E.2.1, 32, .inl df)), (x0, .inl (E.2.1, 112, .inl xf)), (h0, .inr (4, [.ref a1, .ref a2])), (a1, .inl (E.2.2.1, 8, .inl st)), (a2, .inl (E.2.2.1, 64, .inl wv)), (c0, .inr (0, [.int (nI bo), .int (nI bh)]))] := hD
    refine tope (z := b2 false) (congrArg b2 (by first | assumption | exact hasB_m1 _ | exact hasB_m2 _ | exact (hasB_nI (by omega) (by omega)).trans (decide_eq_false (by omega)))) ?_
    refine zb_ne C false rfl d_Run_signed_20 rfl (fun hc3 => absurd hc3 (by simp_all)) (fun hc3 => ?_)
    refine lv_iconst (v := nI 0) hx hb d_Run_signed_23 (by decide) ?_
    exact kret (nI 0) [(u0, .inr (3, [.ref e0, .ref s0, .ref h0, .ref c0])), (e0, .inr (1, [.ref eb, .ref es, .int (nI 0)])), (eb, .inl (E.2.1, 1920, .inl f)), (es, .inl (E.2.2.1, 24, .inl sz)), (s0, .inr (5, [.ref m0, .ref d0, .ref h0, .ref x0])), (m0, .inl (E.2.1, 32, .inl mf)), (d0, .inl (E.2.1, 32, .inl df)), (x0, .inl (E.2.1, 112, .inl xf)), (h0, .inr (4, [.ref a1, .ref a2])), (a1, .inl (E.2.2.1, 8, .inl st)), (a2, .inl (E.2.2.1, 64, .inl wv)), (c0, .inr (0, [.int (nI bo), .int (nI bh)]))] _ _ _ _ d_Run_signed_24 (⟨_, _, _, _, _, _, _, rfl, hB, Or.inr ⟨rfl, rfl⟩⟩) rfl hP hS
  · have hx1 : sz 0 = nI x.length ∧ x.length ≤ 80 ∧ lay f (0 * 80) x := rep_top hrep
    have hP : va_P E.1 clz [(u0, .inr (3, [.ref e0, .ref s0, .ref h0, .ref c0])), (e0, .inr (1, [.ref eb, .ref es, .int (nI 1)])), (eb, .inl (E.2.1, 1920, .inl f)), (es, .inl (E.2.2.1, 24, .inl sz)), (s0, .inr (5, [.ref m0, .ref d0, .ref h0, .ref x0])), (m0, .inl (E.2.1, 32, .inl mf)), (d0, .inl (E.2.1, 32, .inl df)), (x0, .inl (E.2.1, 112, .inl xf)), (h0, .inr (4, [.ref a1, .ref a2])), (a1, .inl (E.2.2.1, 8, .inl st)), (a2, .inl (E.2.2.1, 64, .inl wv)), (c0, .inr (0, [.int (nI bo), .int (nI bh)]))] H := hP
    have hD : va_D A [(u0, .inr (3, [.ref e0, .ref s0, .ref h0, .ref c0])), (e0, .inr (1, [.ref eb, .ref es, .int (nI 1)])), (eb, .inl (E.2.1, 1920, .inl f)), (es, .inl (E.2.2.1, 24, .inl sz)), (s0, .inr (5, [.ref m0, .ref d0, .ref h0, .ref x0])), (m0, .inl (E.2.1, 32, .inl mf)), (d0, .inl (E.2.1, 32, .inl df)), (x0, .inl (E.2.1, 112, .inl xf)), (h0, .inr (4, [.ref a1, .ref a2])), (a1, .inl (E.2.2.1, 8, .inl st)), (a2, .inl (E.2.2.1, 64, .inl wv)), (c0, .inr (0, [.int (nI bo), .int (nI bh)]))] := hD
    refine lv_aload_n hx hb d_Run_signed_0 rfl (lv_at hl 0 rfl) ?_
    refine n_get C fg_Run_12 hP 0 rfl rfl d_Run_signed_1 ?_
    refine n_get C fg_Run_79 hP 1 rfl rfl d_Run_signed_4 ?_
    refine lv_iconst (v := nI 1) hx hb d_Run_signed_7 (by decide) ?_
    refine lv_isub hx hb d_Run_signed_8 ?_
    refine tope (z := nI 0) (pk_sub (by omega)) ?_
    refine lv_istore_n (lv' := [(1, .int (nI 0)), (0, .ref u0)]) hx hb d_Run_signed_9 rfl hl (by decide) rfl (fun ls hl => ?_)
    refine lv_aload_n hx hb d_Run_signed_10 rfl (lv_at hl 1 rfl) ?_
    refine n_get C fg_Run_12 hP 0 rfl rfl d_Run_signed_11 ?_
    refine lv_iload_n hx hb d_Run_signed_14 rfl (lv_at hl 0 rfl) ?_
    refine lv_iconst (v := nI 1) hx hb d_Run_signed_15 (by decide) ?_
    refine lv_isub hx hb d_Run_signed_16 ?_
    refine tope (z := (-1)) (by decide) ?_
    refine cal_I (As := [.int (-1)]) (rest := []) C lk_Run_94 (c_El_has l E e0 eb es 1 (-1)) (by decide) hP hD hS 1 1 rfl rfl [1] rfl (by decide) hl.1 rfl (Nat.le_of_ble_eq_true rfl) d_Run_signed_17 (fun r4 w1 H locs hp5 hP hD hS => ?_)
    obtain ⟨rfl, rfl⟩ := hp5
    have hP : va_P E.1 clz [(u0, .inr (3, [.ref e0, .ref s0, .ref h0, .ref c0])), (e0, .inr (1, [.ref eb, .ref es, .int (nI 1)])), (eb, .inl (E.2.1, 1920, .inl f)), (es, .inl (E.2.2.1, 24, .inl sz)), (s0, .inr (5, [.ref m0, .ref d0, .ref h0, .ref x0])), (m0, .inl (E.2.1, 32, .inl mf)), (d0, .inl (E.2.1, 32, .inl df)), (x0, .inl (E.2.1, 112, .inl xf)), (h0, .inr (4, [.ref a1, .ref a2])), (a1, .inl (E.2.2.1, 8, .inl st)), (a2, .inl (E.2.2.1, 64, .inl wv)), (c0, .inr (0, [.int (nI bo), .int (nI bh)]))] H := hP
    have hD : va_D A [(u0, .inr (3, [.ref e0, .ref s0, .ref h0, .ref c0])), (e0, .inr (1, [.ref eb, .ref es, .int (nI 1)])), (eb, .inl (E.2.1, 1920, .inl f)), (es, .inl (E.2.2.1, 24, .inl sz)), (s0, .inr (5, [.ref m0, .ref d0, .ref h0, .ref x0])), (m0, .inl (E.2.1, 32, .inl mf)), (d0, .inl (E.2.1, 32, .inl df)), (x0, .inl (E.2.1, 112, .inl xf)), (h0, .inr (4, [.ref a1, .ref a2])), (a1, .inl (E.2.2.1, 8, .inl st)), (a2, .inl (E.2.2.1, 64, .inl wv)), (c0, .inr (0, [.int (nI bo), .int (nI bh)]))] := hD
    refine tope (z := b2 false) (congrArg b2 (by first | assumption | exact hasB_m1 _ | exact hasB_m2 _ | exact (hasB_nI (by omega) (by omega)).trans (decide_eq_false (by omega)))) ?_
    refine zb_ne C false rfl d_Run_signed_20 rfl (fun hc6 => absurd hc6 (by simp_all)) (fun hc6 => ?_)
    refine lv_iconst (v := nI 0) hx hb d_Run_signed_23 (by decide) ?_
    exact kret (nI 0) [(u0, .inr (3, [.ref e0, .ref s0, .ref h0, .ref c0])), (e0, .inr (1, [.ref eb, .ref es, .int (nI 1)])), (eb, .inl (E.2.1, 1920, .inl f)), (es, .inl (E.2.2.1, 24, .inl sz)), (s0, .inr (5, [.ref m0, .ref d0, .ref h0, .ref x0])), (m0, .inl (E.2.1, 32, .inl mf)), (d0, .inl (E.2.1, 32, .inl df)), (x0, .inl (E.2.1, 112, .inl xf)), (h0, .inr (4, [.ref a1, .ref a2])), (a1, .inl (E.2.2.1, 8, .inl st)), (a2, .inl (E.2.2.1, 64, .inl wv)), (c0, .inr (0, [.int (nI bo), .int (nI bh)]))] _ _ _ _ d_Run_signed_24 (⟨_, _, _, _, _, _, _, rfl, hB, Or.inr ⟨rfl, rfl⟩⟩) rfl hP hS
  · have hx1 : sz (S.length + 1) = nI x.length ∧ x.length ≤ 80 ∧ lay f ((S.length + 1) * 80) x := rep_top hrep
    have hy1 : sz S.length = nI y.length ∧ y.length ≤ 80 ∧ lay f (S.length * 80) y := rep_top (rep_tail hrep)
    have hr0 : rep f sz S := rep_tail (rep_tail hrep)
    have hlen : S.length + 2 ≤ 24 := hlen
    have hP : va_P E.1 clz [(u0, .inr (3, [.ref e0, .ref s0, .ref h0, .ref c0])), (e0, .inr (1, [.ref eb, .ref es, .int (nI (S.length + 2))])), (eb, .inl (E.2.1, 1920, .inl f)), (es, .inl (E.2.2.1, 24, .inl sz)), (s0, .inr (5, [.ref m0, .ref d0, .ref h0, .ref x0])), (m0, .inl (E.2.1, 32, .inl mf)), (d0, .inl (E.2.1, 32, .inl df)), (x0, .inl (E.2.1, 112, .inl xf)), (h0, .inr (4, [.ref a1, .ref a2])), (a1, .inl (E.2.2.1, 8, .inl st)), (a2, .inl (E.2.2.1, 64, .inl wv)), (c0, .inr (0, [.int (nI bo), .int (nI bh)]))] H := hP
    have hD : va_D A [(u0, .inr (3, [.ref e0, .ref s0, .ref h0, .ref c0])), (e0, .inr (1, [.ref eb, .ref es, .int (nI (S.length + 2))])), (eb, .inl (E.2.1, 1920, .inl f)), (es, .inl (E.2.2.1, 24, .inl sz)), (s0, .inr (5, [.ref m0, .ref d0, .ref h0, .ref x0])), (m0, .inl (E.2.1, 32, .inl mf)), (d0, .inl (E.2.1, 32, .inl df)), (x0, .inl (E.2.1, 112, .inl xf)), (h0, .inr (4, [.ref a1, .ref a2])), (a1, .inl (E.2.2.1, 8, .inl st)), (a2, .inl (E.2.2.1, 64, .inl wv)), (c0, .inr (0, [.int (nI bo), .int (nI bh)]))] := hD
    refine lv_aload_n hx hb d_Run_signed_0 rfl (lv_at hl 0 rfl) ?_
    refine n_get C fg_Run_12 hP 0 rfl rfl d_Run_signed_1 ?_
    refine n_get C fg_Run_79 hP 1 rfl rfl d_Run_signed_4 ?_
    refine lv_iconst (v := nI 1) hx hb d_Run_signed_7 (by decide) ?_
    refine lv_isub hx hb d_Run_signed_8 ?_
    refine tope (z := nI (S.length + 1)) ((pk_sub (by omega)).trans (congrArg nI (by omega))) ?_
    refine lv_istore_n (lv' := [(1, .int (nI (S.length + 1))), (0, .ref u0)]) hx hb d_Run_signed_9 rfl hl (by decide) rfl (fun ls hl => ?_)
    refine lv_aload_n hx hb d_Run_signed_10 rfl (lv_at hl 1 rfl) ?_
    refine n_get C fg_Run_12 hP 0 rfl rfl d_Run_signed_11 ?_
    refine lv_iload_n hx hb d_Run_signed_14 rfl (lv_at hl 0 rfl) ?_
    refine lv_iconst (v := nI 1) hx hb d_Run_signed_15 (by decide) ?_
    refine lv_isub hx hb d_Run_signed_16 ?_
    refine tope (z := nI S.length) ((pk_sub (by omega)).trans (congrArg nI (by omega))) ?_
    refine cal_I (As := [.int (nI S.length)]) (rest := []) C lk_Run_94 (c_El_has l E e0 eb es (S.length + 2) (nI S.length)) (by decide) hP hD hS 1 1 rfl rfl [1] rfl (by decide) hl.1 rfl (Nat.le_of_ble_eq_true rfl) d_Run_signed_17 (fun r7 w1 H locs hp8 hP hD hS => ?_)
    obtain ⟨rfl, rfl⟩ := hp8
    have hP : va_P E.1 clz [(u0, .inr (3, [.ref e0, .ref s0, .ref h0, .ref c0])), (e0, .inr (1, [.ref eb, .ref es, .int (nI (S.length + 2))])), (eb, .inl (E.2.1, 1920, .inl f)), (es, .inl (E.2.2.1, 24, .inl sz)), (s0, .inr (5, [.ref m0, .ref d0, .ref h0, .ref x0])), (m0, .inl (E.2.1, 32, .inl mf)), (d0, .inl (E.2.1, 32, .inl df)), (x0, .inl (E.2.1, 112, .inl xf)), (h0, .inr (4, [.ref a1, .ref a2])), (a1, .inl (E.2.2.1, 8, .inl st)), (a2, .inl (E.2.2.1, 64, .inl wv)), (c0, .inr (0, [.int (nI bo), .int (nI bh)]))] H := hP
    have hD : va_D A [(u0, .inr (3, [.ref e0, .ref s0, .ref h0, .ref c0])), (e0, .inr (1, [.ref eb, .ref es, .int (nI (S.length + 2))])), (eb, .inl (E.2.1, 1920, .inl f)), (es, .inl (E.2.2.1, 24, .inl sz)), (s0, .inr (5, [.ref m0, .ref d0, .ref h0, .ref x0])), (m0, .inl (E.2.1, 32, .inl mf)), (d0, .inl (E.2.1, 32, .inl df)), (x0, .inl (E.2.1, 112, .inl xf)), (h0, .inr (4, [.ref a1, .ref a2])), (a1, .inl (E.2.2.1, 8, .inl st)), (a2, .inl (E.2.2.1, 64, .inl wv)), (c0, .inr (0, [.int (nI bo), .int (nI bh)]))] := hD
    refine tope (z := b2 true) (congrArg b2 ((hasB_nI (by omega) (by omega)).trans (decide_eq_true (by omega)))) ?_
    refine zb_ne C true rfl d_Run_signed_20 rfl (fun hc9 => ?_) (fun hc9 => absurd hc9 (by simp_all))
    refine lv_aload_n hx hb d_Run_signed_25 rfl (lv_at hl 1 rfl) ?_
    refine n_get C fg_Run_21 hP 0 rfl rfl d_Run_signed_26 ?_
    refine lv_aload_n hx hb d_Run_signed_29 rfl (lv_at hl 1 rfl) ?_
    refine n_get C fg_Run_12 hP 0 rfl rfl d_Run_signed_30 ?_
    refine n_get C fg_Run_134 hP 1 rfl rfl d_Run_signed_33 ?_
    refine lv_aload_n hx hb d_Run_signed_36 rfl (lv_at hl 1 rfl) ?_
    refine n_get C fg_Run_12 hP 0 rfl rfl d_Run_signed_37 ?_
    refine lv_iload_n hx hb d_Run_signed_40 rfl (lv_at hl 0 rfl) ?_
    refine cal_I (As := [.int (nI (S.length + 1))]) (rest := [.ref eb, .ref s0]) C lk_Run_135 (c_El_place l E e0 (S.length + 1)) (by decide) hP hD hS 1 1 rfl rfl [] rfl (by decide) hl.1 rfl (Nat.le_of_ble_eq_true rfl) d_Run_signed_41 (fun r10 w1 H locs hp11 hP hD hS => ?_)
    obtain ⟨rfl, rfl⟩ := hp11
    have hP : va_P E.1 clz [(u0, .inr (3, [.ref e0, .ref s0, .ref h0, .ref c0])), (e0, .inr (1, [.ref eb, .ref es, .int (nI (S.length + 2))])), (eb, .inl (E.2.1, 1920, .inl f)), (es, .inl (E.2.2.1, 24, .inl sz)), (s0, .inr (5, [.ref m0, .ref d0, .ref h0, .ref x0])), (m0, .inl (E.2.1, 32, .inl mf)), (d0, .inl (E.2.1, 32, .inl df)), (x0, .inl (E.2.1, 112, .inl xf)), (h0, .inr (4, [.ref a1, .ref a2])), (a1, .inl (E.2.2.1, 8, .inl st)), (a2, .inl (E.2.2.1, 64, .inl wv)), (c0, .inr (0, [.int (nI bo), .int (nI bh)]))] H := hP
    have hD : va_D A [(u0, .inr (3, [.ref e0, .ref s0, .ref h0, .ref c0])), (e0, .inr (1, [.ref eb, .ref es, .int (nI (S.length + 2))])), (eb, .inl (E.2.1, 1920, .inl f)), (es, .inl (E.2.2.1, 24, .inl sz)), (s0, .inr (5, [.ref m0, .ref d0, .ref h0, .ref x0])), (m0, .inl (E.2.1, 32, .inl mf)), (d0, .inl (E.2.1, 32, .inl df)), (x0, .inl (E.2.1, 112, .inl xf)), (h0, .inr (4, [.ref a1, .ref a2])), (a1, .inl (E.2.2.1, 8, .inl st)), (a2, .inl (E.2.2.1, 64, .inl wv)), (c0, .inr (0, [.int (nI bo), .int (nI bh)]))] := hD
    refine lv_aload_n hx hb d_Run_signed_44 rfl (lv_at hl 1 rfl) ?_
    refine n_get C fg_Run_12 hP 0 rfl rfl d_Run_signed_45 ?_
    refine n_get C fg_Run_97 hP 1 rfl rfl d_Run_signed_48 ?_
    refine lv_iload_n hx hb d_Run_signed_51 rfl (lv_at hl 0 rfl) ?_
    refine n_iald C hP 3 rfl (S.length + 1) rfl (by omega) (by omega) d_Run_signed_52 ?_
    refine tope (z := nI x.length) (hx1.1) ?_
    refine cal_V (As := [.ref eb, .int (nI ((S.length + 1) * 80)), .int (nI x.length)]) (rest := []) C lk_Run_151 (c_Sig_make l E s0 m0 d0 x0 h0 a1 a2 eb 1920 ((S.length + 1) * 80) x.length mf df xf st wv f (by omega) (by omega) (by omega) (hB) hBm) (by decide) hP hD hS 4 5 rfl rfl [4, 5, 6, 7, 8, 9, 10, 2] rfl (by decide) hl.1 rfl (Nat.le_of_ble_eq_true rfl) d_Run_signed_53 (fun w1 H locs hp15 hP hD hS => ?_)
    obtain ⟨sv12, wy13, rfl⟩ := hp15
    have hP : va_P E.1 clz [(u0, .inr (3, [.ref e0, .ref s0, .ref h0, .ref c0])), (e0, .inr (1, [.ref eb, .ref es, .int (nI (S.length + 2))])), (eb, .inl (E.2.1, 1920, .inl f)), (es, .inl (E.2.2.1, 24, .inl sz)), (s0, .inr (5, [.ref m0, .ref d0, .ref h0, .ref x0])), (m0, .inl (E.2.1, 32, .inl mf)), (d0, .inl (E.2.1, 32, .inl (va_cpy (hashF (fun q => (va_cpy mf (va_cpy f xf ((S.length + 1) * 80) 0 x.length) 0 x.length 32) (0 + q)) (x.length + 32)) df 0 0 32))), (x0, .inl (E.2.1, 112, .inl (va_cpy mf (va_cpy f xf ((S.length + 1) * 80) 0 x.length) 0 x.length 32))), (h0, .inr (4, [.ref a1, .ref a2])), (a1, .inl (E.2.2.1, 8, .inl sv12)), (a2, .inl (E.2.2.1, 64, .inl wy13)), (c0, .inr (0, [.int (nI bo), .int (nI bh)]))] H := hP
    have hD : va_D A [(u0, .inr (3, [.ref e0, .ref s0, .ref h0, .ref c0])), (e0, .inr (1, [.ref eb, .ref es, .int (nI (S.length + 2))])), (eb, .inl (E.2.1, 1920, .inl f)), (es, .inl (E.2.2.1, 24, .inl sz)), (s0, .inr (5, [.ref m0, .ref d0, .ref h0, .ref x0])), (m0, .inl (E.2.1, 32, .inl mf)), (d0, .inl (E.2.1, 32, .inl (va_cpy (hashF (fun q => (va_cpy mf (va_cpy f xf ((S.length + 1) * 80) 0 x.length) 0 x.length 32) (0 + q)) (x.length + 32)) df 0 0 32))), (x0, .inl (E.2.1, 112, .inl (va_cpy mf (va_cpy f xf ((S.length + 1) * 80) 0 x.length) 0 x.length 32))), (h0, .inr (4, [.ref a1, .ref a2])), (a1, .inl (E.2.2.1, 8, .inl sv12)), (a2, .inl (E.2.2.1, 64, .inl wy13)), (c0, .inr (0, [.int (nI bo), .int (nI bh)]))] := hD
    refine lv_aload_n hx hb d_Run_signed_56 rfl (lv_at hl 1 rfl) ?_
    refine n_get C fg_Run_12 hP 0 rfl rfl d_Run_signed_57 ?_
    refine lv_iload_n hx hb d_Run_signed_60 rfl (lv_at hl 0 rfl) ?_
    refine lv_iconst (v := nI 1) hx hb d_Run_signed_61 (by decide) ?_
    refine lv_isub hx hb d_Run_signed_62 ?_
    refine tope (z := nI S.length) ((pk_sub (by omega)).trans (congrArg nI (by omega))) ?_
    refine lv_aload_n hx hb d_Run_signed_63 rfl (lv_at hl 1 rfl) ?_
    refine n_get C fg_Run_21 hP 0 rfl rfl d_Run_signed_64 ?_
    refine n_get C fg_Run_155 hP 4 rfl rfl d_Run_signed_67 ?_
    refine lv_iconst (v := nI 0) hx hb d_Run_signed_70 (by decide) ?_
    refine lv_bipush (v := nI 8) hx hb d_Run_signed_71 (by decide) ?_
    refine tope (z := nI ((sigL msg x).length)) (congrArg nI (sigL_len msg x).symm) ?_
    refine cal_I (As := [.int (nI S.length), .ref d0, .int (nI 0), .int (nI ((sigL msg x).length))]) (rest := []) C lk_Run_138 (c_El_holds l E e0 eb es (S.length + 2) f sz S.length y (by omega) (by omega) hy1.1 hy1.2.1 hy1.2.2 (sigL msg x) 0 d0 32 (va_cpy (hashF (fun q => (va_cpy mf (va_cpy f xf ((S.length + 1) * 80) 0 x.length) 0 x.length 32) (0 + q)) (x.length + 32)) df 0 0 32) (sig_lay hx1.2.2 rfl hm hm32) (by rw [sigL_len]; omega) (by omega)) (by decide) hP hD hS 1 1 rfl rfl [1, 2, 3, 6] rfl (by decide) hl.1 rfl (Nat.le_of_ble_eq_true rfl) d_Run_signed_73 (fun r16 w1 H locs hp17 hP hD hS => ?_)
    obtain ⟨rfl, rfl⟩ := hp17
    have hP : va_P E.1 clz [(u0, .inr (3, [.ref e0, .ref s0, .ref h0, .ref c0])), (e0, .inr (1, [.ref eb, .ref es, .int (nI (S.length + 2))])), (eb, .inl (E.2.1, 1920, .inl f)), (es, .inl (E.2.2.1, 24, .inl sz)), (s0, .inr (5, [.ref m0, .ref d0, .ref h0, .ref x0])), (m0, .inl (E.2.1, 32, .inl mf)), (d0, .inl (E.2.1, 32, .inl (va_cpy (hashF (fun q => (va_cpy mf (va_cpy f xf ((S.length + 1) * 80) 0 x.length) 0 x.length 32) (0 + q)) (x.length + 32)) df 0 0 32))), (x0, .inl (E.2.1, 112, .inl (va_cpy mf (va_cpy f xf ((S.length + 1) * 80) 0 x.length) 0 x.length 32))), (h0, .inr (4, [.ref a1, .ref a2])), (a1, .inl (E.2.2.1, 8, .inl sv12)), (a2, .inl (E.2.2.1, 64, .inl wy13)), (c0, .inr (0, [.int (nI bo), .int (nI bh)]))] H := hP
    have hD : va_D A [(u0, .inr (3, [.ref e0, .ref s0, .ref h0, .ref c0])), (e0, .inr (1, [.ref eb, .ref es, .int (nI (S.length + 2))])), (eb, .inl (E.2.1, 1920, .inl f)), (es, .inl (E.2.2.1, 24, .inl sz)), (s0, .inr (5, [.ref m0, .ref d0, .ref h0, .ref x0])), (m0, .inl (E.2.1, 32, .inl mf)), (d0, .inl (E.2.1, 32, .inl (va_cpy (hashF (fun q => (va_cpy mf (va_cpy f xf ((S.length + 1) * 80) 0 x.length) 0 x.length 32) (0 + q)) (x.length + 32)) df 0 0 32))), (x0, .inl (E.2.1, 112, .inl (va_cpy mf (va_cpy f xf ((S.length + 1) * 80) 0 x.length) 0 x.length 32))), (h0, .inr (4, [.ref a1, .ref a2])), (a1, .inl (E.2.2.1, 8, .inl sv12)), (a2, .inl (E.2.2.1, 64, .inl wy13)), (c0, .inr (0, [.int (nI bo), .int (nI bh)]))] := hD
    refine lv_istore_n (lv' := [(2, .int (b2 (decide (y = sigL msg x)))), (1, .int (nI (S.length + 1))), (0, .ref u0)]) hx hb d_Run_signed_76 rfl hl (by decide) rfl (fun ls hl => ?_)
    refine lv_aload_n hx hb d_Run_signed_77 rfl (lv_at hl 2 rfl) ?_
    refine n_get C fg_Run_12 hP 0 rfl rfl d_Run_signed_78 ?_
    refine lv_iconst (v := nI 2) hx hb d_Run_signed_81 (by decide) ?_
    refine lv_iload_n hx hb d_Run_signed_82 rfl (lv_at hl 0 rfl) ?_
    refine cal_I (As := [.int (nI 2), .int (b2 (decide (y = sigL msg x)))]) (rest := []) C lk_Run_111 (c_El_truth l E e0 eb es (S.length + 2) f sz 2 (decide (y = sigL msg x)) (by omega) (by omega) (by omega)) (by decide) hP hD hS 1 1 rfl rfl [1, 2, 3] rfl (by decide) hl.1 rfl (Nat.le_of_ble_eq_true rfl) d_Run_signed_83 (fun r18 w1 H locs hp19 hP hD hS => ?_)
    obtain ⟨rfl, rfl⟩ := hp19
    have hP : va_P E.1 clz [(u0, .inr (3, [.ref e0, .ref s0, .ref h0, .ref c0])), (e0, .inr (1, [.ref eb, .ref es, .int (nI ((S.length + 2) - 2 + 1))])), (eb, .inl (E.2.1, 1920, .inl (pn4 f (((S.length + 2) - 2) * 80) (b2 (decide (y = sigL msg x)))))), (es, .inl (E.2.2.1, 24, .inl (upd sz ((S.length + 2) - 2) (pnz (b2 (decide (y = sigL msg x))))))), (s0, .inr (5, [.ref m0, .ref d0, .ref h0, .ref x0])), (m0, .inl (E.2.1, 32, .inl mf)), (d0, .inl (E.2.1, 32, .inl (va_cpy (hashF (fun q => (va_cpy mf (va_cpy f xf ((S.length + 1) * 80) 0 x.length) 0 x.length 32) (0 + q)) (x.length + 32)) df 0 0 32))), (x0, .inl (E.2.1, 112, .inl (va_cpy mf (va_cpy f xf ((S.length + 1) * 80) 0 x.length) 0 x.length 32))), (h0, .inr (4, [.ref a1, .ref a2])), (a1, .inl (E.2.2.1, 8, .inl sv12)), (a2, .inl (E.2.2.1, 64, .inl wy13)), (c0, .inr (0, [.int (nI bo), .int (nI bh)]))] H := hP
    have hD : va_D A [(u0, .inr (3, [.ref e0, .ref s0, .ref h0, .ref c0])), (e0, .inr (1, [.ref eb, .ref es, .int (nI ((S.length + 2) - 2 + 1))])), (eb, .inl (E.2.1, 1920, .inl (pn4 f (((S.length + 2) - 2) * 80) (b2 (decide (y = sigL msg x)))))), (es, .inl (E.2.2.1, 24, .inl (upd sz ((S.length + 2) - 2) (pnz (b2 (decide (y = sigL msg x))))))), (s0, .inr (5, [.ref m0, .ref d0, .ref h0, .ref x0])), (m0, .inl (E.2.1, 32, .inl mf)), (d0, .inl (E.2.1, 32, .inl (va_cpy (hashF (fun q => (va_cpy mf (va_cpy f xf ((S.length + 1) * 80) 0 x.length) 0 x.length 32) (0 + q)) (x.length + 32)) df 0 0 32))), (x0, .inl (E.2.1, 112, .inl (va_cpy mf (va_cpy f xf ((S.length + 1) * 80) 0 x.length) 0 x.length 32))), (h0, .inr (4, [.ref a1, .ref a2])), (a1, .inl (E.2.2.1, 8, .inl sv12)), (a2, .inl (E.2.2.1, 64, .inl wy13)), (c0, .inr (0, [.int (nI bo), .int (nI bh)]))] := hD
    exact kret (b2 true) [(u0, .inr (3, [.ref e0, .ref s0, .ref h0, .ref c0])), (e0, .inr (1, [.ref eb, .ref es, .int (nI ((S.length + 2) - 2 + 1))])), (eb, .inl (E.2.1, 1920, .inl (pn4 f (((S.length + 2) - 2) * 80) (b2 (decide (y = sigL msg x)))))), (es, .inl (E.2.2.1, 24, .inl (upd sz ((S.length + 2) - 2) (pnz (b2 (decide (y = sigL msg x))))))), (s0, .inr (5, [.ref m0, .ref d0, .ref h0, .ref x0])), (m0, .inl (E.2.1, 32, .inl mf)), (d0, .inl (E.2.1, 32, .inl (va_cpy (hashF (fun q => (va_cpy mf (va_cpy f xf ((S.length + 1) * 80) 0 x.length) 0 x.length 32) (0 + q)) (x.length + 32)) df 0 0 32))), (x0, .inl (E.2.1, 112, .inl (va_cpy mf (va_cpy f xf ((S.length + 1) * 80) 0 x.length) 0 x.length 32))), (h0, .inr (4, [.ref a1, .ref a2])), (a1, .inl (E.2.2.1, 8, .inl sv12)), (a2, .inl (E.2.2.1, 64, .inl wy13)), (c0, .inr (0, [.int (nI bo), .int (nI bh)]))] _ _ _ _ d_Run_signed_86 (⟨_, _, _, _, _, _, _, rfl, fB_pn4 hB, Or.inl ⟨(numB (b2 (decide (y = sigL msg x))) :: S), rfl, rfl, by first | rfl | (simp only [List.length_cons]; omega) | (simp only [List.length_cons]), rep_num hr0 (by omega), by first | (simp only [List.length_cons]; omega) | (simp only [List.length_cons]) | omega⟩⟩) rfl hP hS

set_option maxHeartbeats 4000000 in
set_option maxRecDepth 100000 in
theorem c_Run_digest93 (l : Launch) (E : En) (u0 e0 eb es s0 m0 d0 x0 h0 a1 a2 c0 bo bh : Nat) (mf f sz df xf st wv : Nat → Int32) (S : Stk) (msg : Byl) (hrep : rep f sz S) (hB : fB f) (hBm : fB mf) (hlen : S.length ≤ 24) (hm : lay mf 0 msg) (hm32 : msg.length = 32) (ht : Int32) : CtI l y_Run_digestLast b_Run_digestLast 4 .boolean (rmd 4) E [.ref u0, .int (b2 false)] [(u0, .inr (3, [.ref e0, .ref s0, .ref h0, .ref c0])), (e0, .inr (1, [.ref eb, .ref es, .int (nI S.length)])), (eb, .inl (E.2.1, 1920, .inl f)), (es, .inl (E.2.2.1, 24, .inl sz)), (s0, .inr (5, [.ref m0, .ref d0, .ref h0, .ref x0])), (m0, .inl (E.2.1, 32, .inl mf)), (d0, .inl (E.2.1, 32, .inl df)), (x0, .inl (E.2.1, 112, .inl xf)), (h0, .inr (4, [.ref a1, .ref a2])), (a1, .inl (E.2.2.1, 8, .inl st)), (a2, .inl (E.2.2.1, 64, .inl wv)), (c0, .inr (0, [.int (nI bo), .int (nI bh)]))] (stepP E u0 e0 eb es s0 m0 d0 x0 h0 a1 a2 c0 bo bh mf (actS 93 ht msg S)) := by
  refine CtI.of (by decide) (Nat.le_of_ble_eq_true rfl) (stepP_nar) ?_
  intro p e s m args below meth c A Q H locs ls C hP hD hS hl kret
  have hx := C.1
  have hb := C.2.1
  have hl : lv_has ls 4 [(0, .ref u0), (1, .int (b2 false))] := hl
  rcases S with _ | ⟨x, S⟩
  · have hP : va_P E.1 clz [(u0, .inr (3, [.ref e0, .ref s0, .ref h0, .ref c0])), (e0, .inr (1, [.ref eb, .ref es, .int (nI 0)])), (eb, .inl (E.2.1, 1920, .inl f)), (es, .inl (E.2.2.1, 24, .inl sz)), (s0, .inr (5, [.ref m0, .ref d0, .ref h0, .ref x0])), (m0, .inl (E.2.1, 32, .inl mf)), (d0, .inl (E.2.1, 32, .inl df)), (x0, .inl (E.2.1, 112, .inl xf)), (h0, .inr (4, [.ref a1, .ref a2])), (a1, .inl (E.2.2.1, 8, .inl st)), (a2, .inl (E.2.2.1, 64, .inl wv)), (c0, .inr (0, [.int (nI bo), .int (nI bh)]))] H := hP
    have hD : va_D A [(u0, .inr (3, [.ref e0, .ref s0, .ref h0, .ref c0])), (e0, .inr (1, [.ref eb, .ref es, .int (nI 0)])), (eb, .inl (E.2.1, 1920, .inl f)), (es, .inl (E.2.2.1, 24, .inl sz)), (s0, .inr (5, [.ref m0, .ref d0, .ref h0, .ref x0])), (m0, .inl (E.2.1, 32, .inl mf)), (d0, .inl (E.2.1, 32, .inl df)), (x0, .inl (E.2.1, 112, .inl xf)), (h0, .inr (4, [.ref a1, .ref a2])), (a1, .inl (E.2.2.1, 8, .inl st)), (a2, .inl (E.2.2.1, 64, .inl wv)), (c0, .inr (0, [.int (nI bo), .int (nI bh)]))] := hD
    refine lv_aload_n hx hb d_Run_digestLast_0 rfl (lv_at hl 0 rfl) ?_
    refine n_get C fg_Run_12 hP 0 rfl rfl d_Run_digestLast_1 ?_
    refine n_get C fg_Run_79 hP 1 rfl rfl d_Run_digestLast_4 ?_
    refine lv_iconst (v := nI 1) hx hb d_Run_digestLast_7 (by decide) ?_
    refine lv_isub hx hb d_Run_digestLast_8 ?_
    refine tope (z := (-1)) (by decide) ?_
    refine lv_istore_n (lv' := [(2, .int (-1)), (0, .ref u0), (1, .int (b2 false))]) hx hb d_Run_digestLast_9 rfl hl (by decide) rfl (fun ls hl => ?_)
    refine lv_aload_n hx hb d_Run_digestLast_10 rfl (lv_at hl 1 rfl) ?_
    refine n_get C fg_Run_12 hP 0 rfl rfl d_Run_digestLast_11 ?_
    refine lv_iload_n hx hb d_Run_digestLast_14 rfl (lv_at hl 0 rfl) ?_
    refine cal_I (As := [.int (-1)]) (rest := []) C lk_Run_94 (c_El_has l E e0 eb es 0 (-1)) (by decide) hP hD hS 1 1 rfl rfl [1] rfl (by decide) hl.1 rfl (Nat.le_of_ble_eq_true rfl) d_Run_digestLast_15 (fun r1 w1 H locs hp2 hP hD hS => ?_)
    obtain ⟨rfl, rfl⟩ := hp2
    have hP : va_P E.1 clz [(u0, .inr (3, [.ref e0, .ref s0, .ref h0, .ref c0])), (e0, .inr (1, [.ref eb, .ref es, .int (nI 0)])), (eb, .inl (E.2.1, 1920, .inl f)), (es, .inl (E.2.2.1, 24, .inl sz)), (s0, .inr (5, [.ref m0, .ref d0, .ref h0, .ref x0])), (m0, .inl (E.2.1, 32, .inl mf)), (d0, .inl (E.2.1, 32, .inl df)), (x0, .inl (E.2.1, 112, .inl xf)), (h0, .inr (4, [.ref a1, .ref a2])), (a1, .inl (E.2.2.1, 8, .inl st)), (a2, .inl (E.2.2.1, 64, .inl wv)), (c0, .inr (0, [.int (nI bo), .int (nI bh)]))] H := hP
    have hD : va_D A [(u0, .inr (3, [.ref e0, .ref s0, .ref h0, .ref c0])), (e0, .inr (1, [.ref eb, .ref es, .int (nI 0)])), (eb, .inl (E.2.1, 1920, .inl f)), (es, .inl (E.2.2.1, 24, .inl sz)), (s0, .inr (5, [.ref m0, .ref d0, .ref h0, .ref x0])), (m0, .inl (E.2.1, 32, .inl mf)), (d0, .inl (E.2.1, 32, .inl df)), (x0, .inl (E.2.1, 112, .inl xf)), (h0, .inr (4, [.ref a1, .ref a2])), (a1, .inl (E.2.2.1, 8, .inl st)), (a2, .inl (E.2.2.1, 64, .inl wv)), (c0, .inr (0, [.int (nI bo), .int (nI bh)]))] := hD
    refine tope (z := b2 false) (congrArg b2 (by first | assumption | exact hasB_m1 _ | exact hasB_m2 _ | exact (hasB_nI (by omega) (by omega)).trans (decide_eq_false (by omega)))) ?_
    refine zb_ne C false rfl d_Run_digestLast_18 rfl (fun hc3 => absurd hc3 (by simp_all)) (fun hc3 => ?_)
    refine lv_iconst (v := nI 0) hx hb d_Run_digestLast_21 (by decide) ?_
    exact kret (nI 0) [(u0, .inr (3, [.ref e0, .ref s0, .ref h0, .ref c0])), (e0, .inr (1, [.ref eb, .ref es, .int (nI 0)])), (eb, .inl (E.2.1, 1920, .inl f)), (es, .inl (E.2.2.1, 24, .inl sz)), (s0, .inr (5, [.ref m0, .ref d0, .ref h0, .ref x0])), (m0, .inl (E.2.1, 32, .inl mf)), (d0, .inl (E.2.1, 32, .inl df)), (x0, .inl (E.2.1, 112, .inl xf)), (h0, .inr (4, [.ref a1, .ref a2])), (a1, .inl (E.2.2.1, 8, .inl st)), (a2, .inl (E.2.2.1, 64, .inl wv)), (c0, .inr (0, [.int (nI bo), .int (nI bh)]))] _ _ _ _ d_Run_digestLast_22 (⟨_, _, _, _, _, _, _, rfl, hB, Or.inr ⟨rfl, rfl⟩⟩) rfl hP hS
  · have hx1 : sz S.length = nI x.length ∧ x.length ≤ 80 ∧ lay f (S.length * 80) x := rep_top hrep
    have hr0 : rep f sz S := rep_tail hrep
    have hlen : S.length + 1 ≤ 24 := hlen
    have hP : va_P E.1 clz [(u0, .inr (3, [.ref e0, .ref s0, .ref h0, .ref c0])), (e0, .inr (1, [.ref eb, .ref es, .int (nI (S.length + 1))])), (eb, .inl (E.2.1, 1920, .inl f)), (es, .inl (E.2.2.1, 24, .inl sz)), (s0, .inr (5, [.ref m0, .ref d0, .ref h0, .ref x0])), (m0, .inl (E.2.1, 32, .inl mf)), (d0, .inl (E.2.1, 32, .inl df)), (x0, .inl (E.2.1, 112, .inl xf)), (h0, .inr (4, [.ref a1, .ref a2])), (a1, .inl (E.2.2.1, 8, .inl st)), (a2, .inl (E.2.2.1, 64, .inl wv)), (c0, .inr (0, [.int (nI bo), .int (nI bh)]))] H := hP
    have hD : va_D A [(u0, .inr (3, [.ref e0, .ref s0, .ref h0, .ref c0])), (e0, .inr (1, [.ref eb, .ref es, .int (nI (S.length + 1))])), (eb, .inl (E.2.1, 1920, .inl f)), (es, .inl (E.2.2.1, 24, .inl sz)), (s0, .inr (5, [.ref m0, .ref d0, .ref h0, .ref x0])), (m0, .inl (E.2.1, 32, .inl mf)), (d0, .inl (E.2.1, 32, .inl df)), (x0, .inl (E.2.1, 112, .inl xf)), (h0, .inr (4, [.ref a1, .ref a2])), (a1, .inl (E.2.2.1, 8, .inl st)), (a2, .inl (E.2.2.1, 64, .inl wv)), (c0, .inr (0, [.int (nI bo), .int (nI bh)]))] := hD
    refine lv_aload_n hx hb d_Run_digestLast_0 rfl (lv_at hl 0 rfl) ?_
    refine n_get C fg_Run_12 hP 0 rfl rfl d_Run_digestLast_1 ?_
    refine n_get C fg_Run_79 hP 1 rfl rfl d_Run_digestLast_4 ?_
    refine lv_iconst (v := nI 1) hx hb d_Run_digestLast_7 (by decide) ?_
    refine lv_isub hx hb d_Run_digestLast_8 ?_
    refine tope (z := nI S.length) ((pk_sub (by omega)).trans (congrArg nI (by omega))) ?_
    refine lv_istore_n (lv' := [(2, .int (nI S.length)), (0, .ref u0), (1, .int (b2 false))]) hx hb d_Run_digestLast_9 rfl hl (by decide) rfl (fun ls hl => ?_)
    refine lv_aload_n hx hb d_Run_digestLast_10 rfl (lv_at hl 1 rfl) ?_
    refine n_get C fg_Run_12 hP 0 rfl rfl d_Run_digestLast_11 ?_
    refine lv_iload_n hx hb d_Run_digestLast_14 rfl (lv_at hl 0 rfl) ?_
    refine cal_I (As := [.int (nI S.length)]) (rest := []) C lk_Run_94 (c_El_has l E e0 eb es (S.length + 1) (nI S.length)) (by decide) hP hD hS 1 1 rfl rfl [1] rfl (by decide) hl.1 rfl (Nat.le_of_ble_eq_true rfl) d_Run_digestLast_15 (fun r4 w1 H locs hp5 hP hD hS => ?_)
    obtain ⟨rfl, rfl⟩ := hp5
    have hP : va_P E.1 clz [(u0, .inr (3, [.ref e0, .ref s0, .ref h0, .ref c0])), (e0, .inr (1, [.ref eb, .ref es, .int (nI (S.length + 1))])), (eb, .inl (E.2.1, 1920, .inl f)), (es, .inl (E.2.2.1, 24, .inl sz)), (s0, .inr (5, [.ref m0, .ref d0, .ref h0, .ref x0])), (m0, .inl (E.2.1, 32, .inl mf)), (d0, .inl (E.2.1, 32, .inl df)), (x0, .inl (E.2.1, 112, .inl xf)), (h0, .inr (4, [.ref a1, .ref a2])), (a1, .inl (E.2.2.1, 8, .inl st)), (a2, .inl (E.2.2.1, 64, .inl wv)), (c0, .inr (0, [.int (nI bo), .int (nI bh)]))] H := hP
    have hD : va_D A [(u0, .inr (3, [.ref e0, .ref s0, .ref h0, .ref c0])), (e0, .inr (1, [.ref eb, .ref es, .int (nI (S.length + 1))])), (eb, .inl (E.2.1, 1920, .inl f)), (es, .inl (E.2.2.1, 24, .inl sz)), (s0, .inr (5, [.ref m0, .ref d0, .ref h0, .ref x0])), (m0, .inl (E.2.1, 32, .inl mf)), (d0, .inl (E.2.1, 32, .inl df)), (x0, .inl (E.2.1, 112, .inl xf)), (h0, .inr (4, [.ref a1, .ref a2])), (a1, .inl (E.2.2.1, 8, .inl st)), (a2, .inl (E.2.2.1, 64, .inl wv)), (c0, .inr (0, [.int (nI bo), .int (nI bh)]))] := hD
    refine tope (z := b2 true) (congrArg b2 ((hasB_nI (by omega) (by omega)).trans (decide_eq_true (by omega)))) ?_
    refine zb_ne C true rfl d_Run_digestLast_18 rfl (fun hc6 => ?_) (fun hc6 => absurd hc6 (by simp_all))
    refine lv_aload_n hx hb d_Run_digestLast_23 rfl (lv_at hl 1 rfl) ?_
    refine n_get C fg_Run_12 hP 0 rfl rfl d_Run_digestLast_24 ?_
    refine lv_iload_n hx hb d_Run_digestLast_27 rfl (lv_at hl 0 rfl) ?_
    refine cal_I (As := [.int (nI S.length)]) (rest := []) C lk_Run_135 (c_El_place l E e0 S.length) (by decide) hP hD hS 1 1 rfl rfl [] rfl (by decide) hl.1 rfl (Nat.le_of_ble_eq_true rfl) d_Run_digestLast_28 (fun r7 w1 H locs hp8 hP hD hS => ?_)
    obtain ⟨rfl, rfl⟩ := hp8
    have hP : va_P E.1 clz [(u0, .inr (3, [.ref e0, .ref s0, .ref h0, .ref c0])), (e0, .inr (1, [.ref eb, .ref es, .int (nI (S.length + 1))])), (eb, .inl (E.2.1, 1920, .inl f)), (es, .inl (E.2.2.1, 24, .inl sz)), (s0, .inr (5, [.ref m0, .ref d0, .ref h0, .ref x0])), (m0, .inl (E.2.1, 32, .inl mf)), (d0, .inl (E.2.1, 32, .inl df)), (x0, .inl (E.2.1, 112, .inl xf)), (h0, .inr (4, [.ref a1, .ref a2])), (a1, .inl (E.2.2.1, 8, .inl st)), (a2, .inl (E.2.2.1, 64, .inl wv)), (c0, .inr (0, [.int (nI bo), .int (nI bh)]))] H := hP
    have hD : va_D A [(u0, .inr (3, [.ref e0, .ref s0, .ref h0, .ref c0])), (e0, .inr (1, [.ref eb, .ref es, .int (nI (S.length + 1))])), (eb, .inl (E.2.1, 1920, .inl f)), (es, .inl (E.2.2.1, 24, .inl sz)), (s0, .inr (5, [.ref m0, .ref d0, .ref h0, .ref x0])), (m0, .inl (E.2.1, 32, .inl mf)), (d0, .inl (E.2.1, 32, .inl df)), (x0, .inl (E.2.1, 112, .inl xf)), (h0, .inr (4, [.ref a1, .ref a2])), (a1, .inl (E.2.2.1, 8, .inl st)), (a2, .inl (E.2.2.1, 64, .inl wv)), (c0, .inr (0, [.int (nI bo), .int (nI bh)]))] := hD
    refine lv_istore_n (lv' := [(3, .int (nI (S.length * 80))), (2, .int (nI S.length)), (0, .ref u0), (1, .int (b2 false))]) hx hb d_Run_digestLast_31 rfl hl (by decide) rfl (fun ls hl => ?_)
    refine lv_iload_n hx hb d_Run_digestLast_32 rfl (lv_at hl 3 rfl) ?_
    refine zb_eq C false rfl d_Run_digestLast_33 rfl (fun hc9 => ?_) (fun hc9 => absurd hc9 (by simp_all))
    refine lv_aload_n hx hb d_Run_digestLast_71 rfl (lv_at hl 2 rfl) ?_
    refine n_get C fg_Run_29 hP 0 rfl rfl d_Run_digestLast_72 ?_
    refine lv_aload_n hx hb d_Run_digestLast_75 rfl (lv_at hl 2 rfl) ?_
    refine n_get C fg_Run_12 hP 0 rfl rfl d_Run_digestLast_76 ?_
    refine n_get C fg_Run_134 hP 1 rfl rfl d_Run_digestLast_79 ?_
    refine lv_iload_n hx hb d_Run_digestLast_82 rfl (lv_at hl 0 rfl) ?_
    refine lv_aload_n hx hb d_Run_digestLast_83 rfl (lv_at hl 2 rfl) ?_
    refine n_get C fg_Run_12 hP 0 rfl rfl d_Run_digestLast_84 ?_
    refine n_get C fg_Run_97 hP 1 rfl rfl d_Run_digestLast_87 ?_
    refine lv_iload_n hx hb d_Run_digestLast_90 rfl (lv_at hl 1 rfl) ?_
    refine n_iald C hP 3 rfl S.length rfl (by omega) (by omega) d_Run_digestLast_91 ?_
    refine tope (z := nI x.length) (hx1.1) ?_
    refine lv_aload_n hx hb d_Run_digestLast_92 rfl (lv_at hl 2 rfl) ?_
    refine n_get C fg_Run_12 hP 0 rfl rfl d_Run_digestLast_93 ?_
    refine n_get C fg_Run_134 hP 1 rfl rfl d_Run_digestLast_96 ?_
    refine lv_iload_n hx hb d_Run_digestLast_99 rfl (lv_at hl 0 rfl) ?_
    refine cal_V (As := [.ref eb, .int (nI (S.length * 80)), .int (nI x.length), .ref eb, .int (nI (S.length * 80))]) (rest := []) C lk_Run_148 (c_Sha_digestA l E h0 a1 a2 eb 1920 (S.length * 80) x.length (S.length * 80) st wv f (by omega) (by omega) (by omega)) (by decide) hP hD hS 8 4 rfl rfl [8, 9, 10, 2] rfl (by decide) hl.1 rfl (Nat.le_of_ble_eq_true rfl) d_Run_digestLast_100 (fun w1 H locs hp13 hP hD hS => ?_)
    obtain ⟨sv10, wy11, rfl⟩ := hp13
    have hP : va_P E.1 clz [(u0, .inr (3, [.ref e0, .ref s0, .ref h0, .ref c0])), (e0, .inr (1, [.ref eb, .ref es, .int (nI (S.length + 1))])), (eb, .inl (E.2.1, 1920, .inl (va_cpy (shaF (fun q => f ((S.length * 80) + q)) x.length) f 0 (S.length * 80) 32))), (es, .inl (E.2.2.1, 24, .inl sz)), (s0, .inr (5, [.ref m0, .ref d0, .ref h0, .ref x0])), (m0, .inl (E.2.1, 32, .inl mf)), (d0, .inl (E.2.1, 32, .inl df)), (x0, .inl (E.2.1, 112, .inl xf)), (h0, .inr (4, [.ref a1, .ref a2])), (a1, .inl (E.2.2.1, 8, .inl sv10)), (a2, .inl (E.2.2.1, 64, .inl wy11)), (c0, .inr (0, [.int (nI bo), .int (nI bh)]))] H := hP
    have hD : va_D A [(u0, .inr (3, [.ref e0, .ref s0, .ref h0, .ref c0])), (e0, .inr (1, [.ref eb, .ref es, .int (nI (S.length + 1))])), (eb, .inl (E.2.1, 1920, .inl (va_cpy (shaF (fun q => f ((S.length * 80) + q)) x.length) f 0 (S.length * 80) 32))), (es, .inl (E.2.2.1, 24, .inl sz)), (s0, .inr (5, [.ref m0, .ref d0, .ref h0, .ref x0])), (m0, .inl (E.2.1, 32, .inl mf)), (d0, .inl (E.2.1, 32, .inl df)), (x0, .inl (E.2.1, 112, .inl xf)), (h0, .inr (4, [.ref a1, .ref a2])), (a1, .inl (E.2.2.1, 8, .inl sv10)), (a2, .inl (E.2.2.1, 64, .inl wy11)), (c0, .inr (0, [.int (nI bo), .int (nI bh)]))] := hD
    refine lv_aload_n hx hb d_Run_digestLast_103 rfl (lv_at hl 2 rfl) ?_
    refine n_get C fg_Run_12 hP 0 rfl rfl d_Run_digestLast_104 ?_
    refine n_get C fg_Run_97 hP 1 rfl rfl d_Run_digestLast_107 ?_
    refine lv_iload_n hx hb d_Run_digestLast_110 rfl (lv_at hl 1 rfl) ?_
    refine lv_bipush (v := nI 32) hx hb d_Run_digestLast_111 (by decide) ?_
    refine n_iast C hP hD hS 3 rfl S.length rfl (by omega) (by omega) d_Run_digestLast_113 (fun H locs hP hD hS => ?_)
    have hP : va_P E.1 clz [(u0, .inr (3, [.ref e0, .ref s0, .ref h0, .ref c0])), (e0, .inr (1, [.ref eb, .ref es, .int (nI (S.length + 1))])), (eb, .inl (E.2.1, 1920, .inl (va_cpy (shaF (fun q => f ((S.length * 80) + q)) x.length) f 0 (S.length * 80) 32))), (es, .inl (E.2.2.1, 24, .inl (upd sz S.length (nI 32)))), (s0, .inr (5, [.ref m0, .ref d0, .ref h0, .ref x0])), (m0, .inl (E.2.1, 32, .inl mf)), (d0, .inl (E.2.1, 32, .inl df)), (x0, .inl (E.2.1, 112, .inl xf)), (h0, .inr (4, [.ref a1, .ref a2])), (a1, .inl (E.2.2.1, 8, .inl sv10)), (a2, .inl (E.2.2.1, 64, .inl wy11)), (c0, .inr (0, [.int (nI bo), .int (nI bh)]))] H := hP
    have hD : va_D A [(u0, .inr (3, [.ref e0, .ref s0, .ref h0, .ref c0])), (e0, .inr (1, [.ref eb, .ref es, .int (nI (S.length + 1))])), (eb, .inl (E.2.1, 1920, .inl (va_cpy (shaF (fun q => f ((S.length * 80) + q)) x.length) f 0 (S.length * 80) 32))), (es, .inl (E.2.2.1, 24, .inl (upd sz S.length (nI 32)))), (s0, .inr (5, [.ref m0, .ref d0, .ref h0, .ref x0])), (m0, .inl (E.2.1, 32, .inl mf)), (d0, .inl (E.2.1, 32, .inl df)), (x0, .inl (E.2.1, 112, .inl xf)), (h0, .inr (4, [.ref a1, .ref a2])), (a1, .inl (E.2.2.1, 8, .inl sv10)), (a2, .inl (E.2.2.1, 64, .inl wy11)), (c0, .inr (0, [.int (nI bo), .int (nI bh)]))] := hD
    refine lv_iconst (v := nI 1) hx hb d_Run_digestLast_114 (by decide) ?_
    exact kret (nI 1) [(u0, .inr (3, [.ref e0, .ref s0, .ref h0, .ref c0])), (e0, .inr (1, [.ref eb, .ref es, .int (nI (S.length + 1))])), (eb, .inl (E.2.1, 1920, .inl (va_cpy (shaF (fun q => f ((S.length * 80) + q)) x.length) f 0 (S.length * 80) 32))), (es, .inl (E.2.2.1, 24, .inl (upd sz S.length (nI 32)))), (s0, .inr (5, [.ref m0, .ref d0, .ref h0, .ref x0])), (m0, .inl (E.2.1, 32, .inl mf)), (d0, .inl (E.2.1, 32, .inl df)), (x0, .inl (E.2.1, 112, .inl xf)), (h0, .inr (4, [.ref a1, .ref a2])), (a1, .inl (E.2.2.1, 8, .inl sv10)), (a2, .inl (E.2.2.1, 64, .inl wy11)), (c0, .inr (0, [.int (nI bo), .int (nI bh)]))] _ _ _ _ d_Run_digestLast_115 (⟨_, _, _, _, _, _, _, rfl, fB_cpy (shaF_B _ _) hB, Or.inl ⟨(shaL x :: S), rfl, rfl, by first | rfl | (simp only [List.length_cons]; omega) | (simp only [List.length_cons]), rep_dig hrep rfl rfl (shaL_len _) (sha_lay hx1.2.2 rfl), by first | (simp only [List.length_cons]; omega) | (simp only [List.length_cons]) | omega⟩⟩) rfl hP hS

set_option maxHeartbeats 4000000 in
set_option maxRecDepth 100000 in
theorem c_Run_digest94 (l : Launch) (E : En) (u0 e0 eb es s0 m0 d0 x0 h0 a1 a2 c0 bo bh : Nat) (mf f sz df xf st wv : Nat → Int32) (S : Stk) (msg : Byl) (hrep : rep f sz S) (hB : fB f) (hBm : fB mf) (hlen : S.length ≤ 24) (hm : lay mf 0 msg) (hm32 : msg.length = 32) (ht : Int32) : CtI l y_Run_digestLast b_Run_digestLast 4 .boolean (rmd 4) E [.ref u0, .int (b2 true)] [(u0, .inr (3, [.ref e0, .ref s0, .ref h0, .ref c0])), (e0, .inr (1, [.ref eb, .ref es, .int (nI S.length)])), (eb, .inl (E.2.1, 1920, .inl f)), (es, .inl (E.2.2.1, 24, .inl sz)), (s0, .inr (5, [.ref m0, .ref d0, .ref h0, .ref x0])), (m0, .inl (E.2.1, 32, .inl mf)), (d0, .inl (E.2.1, 32, .inl df)), (x0, .inl (E.2.1, 112, .inl xf)), (h0, .inr (4, [.ref a1, .ref a2])), (a1, .inl (E.2.2.1, 8, .inl st)), (a2, .inl (E.2.2.1, 64, .inl wv)), (c0, .inr (0, [.int (nI bo), .int (nI bh)]))] (stepP E u0 e0 eb es s0 m0 d0 x0 h0 a1 a2 c0 bo bh mf (actS 94 ht msg S)) := by
  refine CtI.of (by decide) (Nat.le_of_ble_eq_true rfl) (stepP_nar) ?_
  intro p e s m args below meth c A Q H locs ls C hP hD hS hl kret
  have hx := C.1
  have hb := C.2.1
  have hl : lv_has ls 4 [(0, .ref u0), (1, .int (b2 true))] := hl
  rcases S with _ | ⟨x, S⟩
  · have hP : va_P E.1 clz [(u0, .inr (3, [.ref e0, .ref s0, .ref h0, .ref c0])), (e0, .inr (1, [.ref eb, .ref es, .int (nI 0)])), (eb, .inl (E.2.1, 1920, .inl f)), (es, .inl (E.2.2.1, 24, .inl sz)), (s0, .inr (5, [.ref m0, .ref d0, .ref h0, .ref x0])), (m0, .inl (E.2.1, 32, .inl mf)), (d0, .inl (E.2.1, 32, .inl df)), (x0, .inl (E.2.1, 112, .inl xf)), (h0, .inr (4, [.ref a1, .ref a2])), (a1, .inl (E.2.2.1, 8, .inl st)), (a2, .inl (E.2.2.1, 64, .inl wv)), (c0, .inr (0, [.int (nI bo), .int (nI bh)]))] H := hP
    have hD : va_D A [(u0, .inr (3, [.ref e0, .ref s0, .ref h0, .ref c0])), (e0, .inr (1, [.ref eb, .ref es, .int (nI 0)])), (eb, .inl (E.2.1, 1920, .inl f)), (es, .inl (E.2.2.1, 24, .inl sz)), (s0, .inr (5, [.ref m0, .ref d0, .ref h0, .ref x0])), (m0, .inl (E.2.1, 32, .inl mf)), (d0, .inl (E.2.1, 32, .inl df)), (x0, .inl (E.2.1, 112, .inl xf)), (h0, .inr (4, [.ref a1, .ref a2])), (a1, .inl (E.2.2.1, 8, .inl st)), (a2, .inl (E.2.2.1, 64, .inl wv)), (c0, .inr (0, [.int (nI bo), .int (nI bh)]))] := hD
    refine lv_aload_n hx hb d_Run_digestLast_0 rfl (lv_at hl 0 rfl) ?_
    refine n_get C fg_Run_12 hP 0 rfl rfl d_Run_digestLast_1 ?_
    refine n_get C fg_Run_79 hP 1 rfl rfl d_Run_digestLast_4 ?_
    refine lv_iconst (v := nI 1) hx hb d_Run_digestLast_7 (by decide) ?_
    refine lv_isub hx hb d_Run_digestLast_8 ?_
    refine tope (z := (-1)) (by decide) ?_
    refine lv_istore_n (lv' := [(2, .int (-1)), (0, .ref u0), (1, .int (b2 true))]) hx hb d_Run_digestLast_9 rfl hl (by decide) rfl (fun ls hl => ?_)
    refine lv_aload_n hx hb d_Run_digestLast_10 rfl (lv_at hl 1 rfl) ?_
    refine n_get C fg_Run_12 hP 0 rfl rfl d_Run_digestLast_11 ?_
    refine lv_iload_n hx hb d_Run_digestLast_14 rfl (lv_at hl 0 rfl) ?_
    refine cal_I (As := [.int (-1)]) (rest := []) C lk_Run_94 (c_El_has l E e0 eb es 0 (-1)) (by decide) hP hD hS 1 1 rfl rfl [1] rfl (by decide) hl.1 rfl (Nat.le_of_ble_eq_true rfl) d_Run_digestLast_15 (fun r1 w1 H locs hp2 hP hD hS => ?_)
    obtain ⟨rfl, rfl⟩ := hp2
    have hP : va_P E.1 clz [(u0, .inr (3, [.ref e0, .ref s0, .ref h0, .ref c0])), (e0, .inr (1, [.ref eb, .ref es, .int (nI 0)])), (eb, .inl (E.2.1, 1920, .inl f)), (es, .inl (E.2.2.1, 24, .inl sz)), (s0, .inr (5, [.ref m0, .ref d0, .ref h0, .ref x0])), (m0, .inl (E.2.1, 32, .inl mf)), (d0, .inl (E.2.1, 32, .inl df)), (x0, .inl (E.2.1, 112, .inl xf)), (h0, .inr (4, [.ref a1, .ref a2])), (a1, .inl (E.2.2.1, 8, .inl st)), (a2, .inl (E.2.2.1, 64, .inl wv)), (c0, .inr (0, [.int (nI bo), .int (nI bh)]))] H := hP
    have hD : va_D A [(u0, .inr (3, [.ref e0, .ref s0, .ref h0, .ref c0])), (e0, .inr (1, [.ref eb, .ref es, .int (nI 0)])), (eb, .inl (E.2.1, 1920, .inl f)), (es, .inl (E.2.2.1, 24, .inl sz)), (s0, .inr (5, [.ref m0, .ref d0, .ref h0, .ref x0])), (m0, .inl (E.2.1, 32, .inl mf)), (d0, .inl (E.2.1, 32, .inl df)), (x0, .inl (E.2.1, 112, .inl xf)), (h0, .inr (4, [.ref a1, .ref a2])), (a1, .inl (E.2.2.1, 8, .inl st)), (a2, .inl (E.2.2.1, 64, .inl wv)), (c0, .inr (0, [.int (nI bo), .int (nI bh)]))] := hD
    refine tope (z := b2 false) (congrArg b2 (by first | assumption | exact hasB_m1 _ | exact hasB_m2 _ | exact (hasB_nI (by omega) (by omega)).trans (decide_eq_false (by omega)))) ?_
    refine zb_ne C false rfl d_Run_digestLast_18 rfl (fun hc3 => absurd hc3 (by simp_all)) (fun hc3 => ?_)
    refine lv_iconst (v := nI 0) hx hb d_Run_digestLast_21 (by decide) ?_
    exact kret (nI 0) [(u0, .inr (3, [.ref e0, .ref s0, .ref h0, .ref c0])), (e0, .inr (1, [.ref eb, .ref es, .int (nI 0)])), (eb, .inl (E.2.1, 1920, .inl f)), (es, .inl (E.2.2.1, 24, .inl sz)), (s0, .inr (5, [.ref m0, .ref d0, .ref h0, .ref x0])), (m0, .inl (E.2.1, 32, .inl mf)), (d0, .inl (E.2.1, 32, .inl df)), (x0, .inl (E.2.1, 112, .inl xf)), (h0, .inr (4, [.ref a1, .ref a2])), (a1, .inl (E.2.2.1, 8, .inl st)), (a2, .inl (E.2.2.1, 64, .inl wv)), (c0, .inr (0, [.int (nI bo), .int (nI bh)]))] _ _ _ _ d_Run_digestLast_22 (⟨_, _, _, _, _, _, _, rfl, hB, Or.inr ⟨rfl, rfl⟩⟩) rfl hP hS
  · have hx1 : sz S.length = nI x.length ∧ x.length ≤ 80 ∧ lay f (S.length * 80) x := rep_top hrep
    have hr0 : rep f sz S := rep_tail hrep
    have hlen : S.length + 1 ≤ 24 := hlen
    have hP : va_P E.1 clz [(u0, .inr (3, [.ref e0, .ref s0, .ref h0, .ref c0])), (e0, .inr (1, [.ref eb, .ref es, .int (nI (S.length + 1))])), (eb, .inl (E.2.1, 1920, .inl f)), (es, .inl (E.2.2.1, 24, .inl sz)), (s0, .inr (5, [.ref m0, .ref d0, .ref h0, .ref x0])), (m0, .inl (E.2.1, 32, .inl mf)), (d0, .inl (E.2.1, 32, .inl df)), (x0, .inl (E.2.1, 112, .inl xf)), (h0, .inr (4, [.ref a1, .ref a2])), (a1, .inl (E.2.2.1, 8, .inl st)), (a2, .inl (E.2.2.1, 64, .inl wv)), (c0, .inr (0, [.int (nI bo), .int (nI bh)]))] H := hP
    have hD : va_D A [(u0, .inr (3, [.ref e0, .ref s0, .ref h0, .ref c0])), (e0, .inr (1, [.ref eb, .ref es, .int (nI (S.length + 1))])), (eb, .inl (E.2.1, 1920, .inl f)), (es, .inl (E.2.2.1, 24, .inl sz)), (s0, .inr (5, [.ref m0, .ref d0, .ref h0, .ref x0])), (m0, .inl (E.2.1, 32, .inl mf)), (d0, .inl (E.2.1, 32, .inl df)), (x0, .inl (E.2.1, 112, .inl xf)), (h0, .inr (4, [.ref a1, .ref a2])), (a1, .inl (E.2.2.1, 8, .inl st)), (a2, .inl (E.2.2.1, 64, .inl wv)), (c0, .inr (0, [.int (nI bo), .int (nI bh)]))] := hD
    refine lv_aload_n hx hb d_Run_digestLast_0 rfl (lv_at hl 0 rfl) ?_
    refine n_get C fg_Run_12 hP 0 rfl rfl d_Run_digestLast_1 ?_
    refine n_get C fg_Run_79 hP 1 rfl rfl d_Run_digestLast_4 ?_
    refine lv_iconst (v := nI 1) hx hb d_Run_digestLast_7 (by decide) ?_
    refine lv_isub hx hb d_Run_digestLast_8 ?_
    refine tope (z := nI S.length) ((pk_sub (by omega)).trans (congrArg nI (by omega))) ?_
    refine lv_istore_n (lv' := [(2, .int (nI S.length)), (0, .ref u0), (1, .int (b2 true))]) hx hb d_Run_digestLast_9 rfl hl (by decide) rfl (fun ls hl => ?_)
    refine lv_aload_n hx hb d_Run_digestLast_10 rfl (lv_at hl 1 rfl) ?_
    refine n_get C fg_Run_12 hP 0 rfl rfl d_Run_digestLast_11 ?_
    refine lv_iload_n hx hb d_Run_digestLast_14 rfl (lv_at hl 0 rfl) ?_
    refine cal_I (As := [.int (nI S.length)]) (rest := []) C lk_Run_94 (c_El_has l E e0 eb es (S.length + 1) (nI S.length)) (by decide) hP hD hS 1 1 rfl rfl [1] rfl (by decide) hl.1 rfl (Nat.le_of_ble_eq_true rfl) d_Run_digestLast_15 (fun r4 w1 H locs hp5 hP hD hS => ?_)
    obtain ⟨rfl, rfl⟩ := hp5
    have hP : va_P E.1 clz [(u0, .inr (3, [.ref e0, .ref s0, .ref h0, .ref c0])), (e0, .inr (1, [.ref eb, .ref es, .int (nI (S.length + 1))])), (eb, .inl (E.2.1, 1920, .inl f)), (es, .inl (E.2.2.1, 24, .inl sz)), (s0, .inr (5, [.ref m0, .ref d0, .ref h0, .ref x0])), (m0, .inl (E.2.1, 32, .inl mf)), (d0, .inl (E.2.1, 32, .inl df)), (x0, .inl (E.2.1, 112, .inl xf)), (h0, .inr (4, [.ref a1, .ref a2])), (a1, .inl (E.2.2.1, 8, .inl st)), (a2, .inl (E.2.2.1, 64, .inl wv)), (c0, .inr (0, [.int (nI bo), .int (nI bh)]))] H := hP
    have hD : va_D A [(u0, .inr (3, [.ref e0, .ref s0, .ref h0, .ref c0])), (e0, .inr (1, [.ref eb, .ref es, .int (nI (S.length + 1))])), (eb, .inl (E.2.1, 1920, .inl f)), (es, .inl (E.2.2.1, 24, .inl sz)), (s0, .inr (5, [.ref m0, .ref d0, .ref h0, .ref x0])), (m0, .inl (E.2.1, 32, .inl mf)), (d0, .inl (E.2.1, 32, .inl df)), (x0, .inl (E.2.1, 112, .inl xf)), (h0, .inr (4, [.ref a1, .ref a2])), (a1, .inl (E.2.2.1, 8, .inl st)), (a2, .inl (E.2.2.1, 64, .inl wv)), (c0, .inr (0, [.int (nI bo), .int (nI bh)]))] := hD
    refine tope (z := b2 true) (congrArg b2 ((hasB_nI (by omega) (by omega)).trans (decide_eq_true (by omega)))) ?_
    refine zb_ne C true rfl d_Run_digestLast_18 rfl (fun hc6 => ?_) (fun hc6 => absurd hc6 (by simp_all))
    refine lv_aload_n hx hb d_Run_digestLast_23 rfl (lv_at hl 1 rfl) ?_
    refine n_get C fg_Run_12 hP 0 rfl rfl d_Run_digestLast_24 ?_
    refine lv_iload_n hx hb d_Run_digestLast_27 rfl (lv_at hl 0 rfl) ?_
    refine cal_I (As := [.int (nI S.length)]) (rest := []) C lk_Run_135 (c_El_place l E e0 S.length) (by decide) hP hD hS 1 1 rfl rfl [] rfl (by decide) hl.1 rfl (Nat.le_of_ble_eq_true rfl) d_Run_digestLast_28 (fun r7 w1 H locs hp8 hP hD hS => ?_)
    obtain ⟨rfl, rfl⟩ := hp8
    have hP : va_P E.1 clz [(u0, .inr (3, [.ref e0, .ref s0, .ref h0, .ref c0])), (e0, .inr (1, [.ref eb, .ref es, .int (nI (S.length + 1))])), (eb, .inl (E.2.1, 1920, .inl f)), (es, .inl (E.2.2.1, 24, .inl sz)), (s0, .inr (5, [.ref m0, .ref d0, .ref h0, .ref x0])), (m0, .inl (E.2.1, 32, .inl mf)), (d0, .inl (E.2.1, 32, .inl df)), (x0, .inl (E.2.1, 112, .inl xf)), (h0, .inr (4, [.ref a1, .ref a2])), (a1, .inl (E.2.2.1, 8, .inl st)), (a2, .inl (E.2.2.1, 64, .inl wv)), (c0, .inr (0, [.int (nI bo), .int (nI bh)]))] H := hP
    have hD : va_D A [(u0, .inr (3, [.ref e0, .ref s0, .ref h0, .ref c0])), (e0, .inr (1, [.ref eb, .ref es, .int (nI (S.length + 1))])), (eb, .inl (E.2.1, 1920, .inl f)), (es, .inl (E.2.2.1, 24, .inl sz)), (s0, .inr (5, [.ref m0, .ref d0, .ref h0, .ref x0])), (m0, .inl (E.2.1, 32, .inl mf)), (d0, .inl (E.2.1, 32, .inl df)), (x0, .inl (E.2.1, 112, .inl xf)), (h0, .inr (4, [.ref a1, .ref a2])), (a1, .inl (E.2.2.1, 8, .inl st)), (a2, .inl (E.2.2.1, 64, .inl wv)), (c0, .inr (0, [.int (nI bo), .int (nI bh)]))] := hD
    refine lv_istore_n (lv' := [(3, .int (nI (S.length * 80))), (2, .int (nI S.length)), (0, .ref u0), (1, .int (b2 true))]) hx hb d_Run_digestLast_31 rfl hl (by decide) rfl (fun ls hl => ?_)
    refine lv_iload_n hx hb d_Run_digestLast_32 rfl (lv_at hl 3 rfl) ?_
    refine zb_eq C true rfl d_Run_digestLast_33 rfl (fun hc9 => absurd hc9 (by simp_all)) (fun hc9 => ?_)
    refine lv_aload_n hx hb d_Run_digestLast_36 rfl (lv_at hl 2 rfl) ?_
    refine n_get C fg_Run_29 hP 0 rfl rfl d_Run_digestLast_37 ?_
    refine lv_aload_n hx hb d_Run_digestLast_40 rfl (lv_at hl 2 rfl) ?_
    refine n_get C fg_Run_12 hP 0 rfl rfl d_Run_digestLast_41 ?_
    refine n_get C fg_Run_134 hP 1 rfl rfl d_Run_digestLast_44 ?_
    refine lv_iload_n hx hb d_Run_digestLast_47 rfl (lv_at hl 0 rfl) ?_
    refine lv_aload_n hx hb d_Run_digestLast_48 rfl (lv_at hl 2 rfl) ?_
    refine n_get C fg_Run_12 hP 0 rfl rfl d_Run_digestLast_49 ?_
    refine n_get C fg_Run_97 hP 1 rfl rfl d_Run_digestLast_52 ?_
    refine lv_iload_n hx hb d_Run_digestLast_55 rfl (lv_at hl 1 rfl) ?_
    refine n_iald C hP 3 rfl S.length rfl (by omega) (by omega) d_Run_digestLast_56 ?_
    refine tope (z := nI x.length) (hx1.1) ?_
    refine lv_aload_n hx hb d_Run_digestLast_57 rfl (lv_at hl 2 rfl) ?_
    refine n_get C fg_Run_12 hP 0 rfl rfl d_Run_digestLast_58 ?_
    refine n_get C fg_Run_134 hP 1 rfl rfl d_Run_digestLast_61 ?_
    refine lv_iload_n hx hb d_Run_digestLast_64 rfl (lv_at hl 0 rfl) ?_
    refine cal_V (As := [.ref eb, .int (nI (S.length * 80)), .int (nI x.length), .ref eb, .int (nI (S.length * 80))]) (rest := []) C lk_Run_142 (c_Sha_hashA l E h0 a1 a2 eb 1920 (S.length * 80) x.length (S.length * 80) st wv f (by omega) (by omega) (by omega)) (by decide) hP hD hS 8 4 rfl rfl [8, 9, 10, 2] rfl (by decide) hl.1 rfl (Nat.le_of_ble_eq_true rfl) d_Run_digestLast_65 (fun w1 H locs hp13 hP hD hS => ?_)
    obtain ⟨sv10, wy11, rfl⟩ := hp13
    have hP : va_P E.1 clz [(u0, .inr (3, [.ref e0, .ref s0, .ref h0, .ref c0])), (e0, .inr (1, [.ref eb, .ref es, .int (nI (S.length + 1))])), (eb, .inl (E.2.1, 1920, .inl (va_cpy (hashF (fun q => f ((S.length * 80) + q)) x.length) f 0 (S.length * 80) 32))), (es, .inl (E.2.2.1, 24, .inl sz)), (s0, .inr (5, [.ref m0, .ref d0, .ref h0, .ref x0])), (m0, .inl (E.2.1, 32, .inl mf)), (d0, .inl (E.2.1, 32, .inl df)), (x0, .inl (E.2.1, 112, .inl xf)), (h0, .inr (4, [.ref a1, .ref a2])), (a1, .inl (E.2.2.1, 8, .inl sv10)), (a2, .inl (E.2.2.1, 64, .inl wy11)), (c0, .inr (0, [.int (nI bo), .int (nI bh)]))] H := hP
    have hD : va_D A [(u0, .inr (3, [.ref e0, .ref s0, .ref h0, .ref c0])), (e0, .inr (1, [.ref eb, .ref es, .int (nI (S.length + 1))])), (eb, .inl (E.2.1, 1920, .inl (va_cpy (hashF (fun q => f ((S.length * 80) + q)) x.length) f 0 (S.length * 80) 32))), (es, .inl (E.2.2.1, 24, .inl sz)), (s0, .inr (5, [.ref m0, .ref d0, .ref h0, .ref x0])), (m0, .inl (E.2.1, 32, .inl mf)), (d0, .inl (E.2.1, 32, .inl df)), (x0, .inl (E.2.1, 112, .inl xf)), (h0, .inr (4, [.ref a1, .ref a2])), (a1, .inl (E.2.2.1, 8, .inl sv10)), (a2, .inl (E.2.2.1, 64, .inl wy11)), (c0, .inr (0, [.int (nI bo), .int (nI bh)]))] := hD
    refine lv_goto hx hb d_Run_digestLast_68 rfl ?_
    refine lv_aload_n hx hb d_Run_digestLast_103 rfl (lv_at hl 2 rfl) ?_
    refine n_get C fg_Run_12 hP 0 rfl rfl d_Run_digestLast_104 ?_
    refine n_get C fg_Run_97 hP 1 rfl rfl d_Run_digestLast_107 ?_
    refine lv_iload_n hx hb d_Run_digestLast_110 rfl (lv_at hl 1 rfl) ?_
    refine lv_bipush (v := nI 32) hx hb d_Run_digestLast_111 (by decide) ?_
    refine n_iast C hP hD hS 3 rfl S.length rfl (by omega) (by omega) d_Run_digestLast_113 (fun H locs hP hD hS => ?_)
    have hP : va_P E.1 clz [(u0, .inr (3, [.ref e0, .ref s0, .ref h0, .ref c0])), (e0, .inr (1, [.ref eb, .ref es, .int (nI (S.length + 1))])), (eb, .inl (E.2.1, 1920, .inl (va_cpy (hashF (fun q => f ((S.length * 80) + q)) x.length) f 0 (S.length * 80) 32))), (es, .inl (E.2.2.1, 24, .inl (upd sz S.length (nI 32)))), (s0, .inr (5, [.ref m0, .ref d0, .ref h0, .ref x0])), (m0, .inl (E.2.1, 32, .inl mf)), (d0, .inl (E.2.1, 32, .inl df)), (x0, .inl (E.2.1, 112, .inl xf)), (h0, .inr (4, [.ref a1, .ref a2])), (a1, .inl (E.2.2.1, 8, .inl sv10)), (a2, .inl (E.2.2.1, 64, .inl wy11)), (c0, .inr (0, [.int (nI bo), .int (nI bh)]))] H := hP
    have hD : va_D A [(u0, .inr (3, [.ref e0, .ref s0, .ref h0, .ref c0])), (e0, .inr (1, [.ref eb, .ref es, .int (nI (S.length + 1))])), (eb, .inl (E.2.1, 1920, .inl (va_cpy (hashF (fun q => f ((S.length * 80) + q)) x.length) f 0 (S.length * 80) 32))), (es, .inl (E.2.2.1, 24, .inl (upd sz S.length (nI 32)))), (s0, .inr (5, [.ref m0, .ref d0, .ref h0, .ref x0])), (m0, .inl (E.2.1, 32, .inl mf)), (d0, .inl (E.2.1, 32, .inl df)), (x0, .inl (E.2.1, 112, .inl xf)), (h0, .inr (4, [.ref a1, .ref a2])), (a1, .inl (E.2.2.1, 8, .inl sv10)), (a2, .inl (E.2.2.1, 64, .inl wy11)), (c0, .inr (0, [.int (nI bo), .int (nI bh)]))] := hD
    refine lv_iconst (v := nI 1) hx hb d_Run_digestLast_114 (by decide) ?_
    exact kret (nI 1) [(u0, .inr (3, [.ref e0, .ref s0, .ref h0, .ref c0])), (e0, .inr (1, [.ref eb, .ref es, .int (nI (S.length + 1))])), (eb, .inl (E.2.1, 1920, .inl (va_cpy (hashF (fun q => f ((S.length * 80) + q)) x.length) f 0 (S.length * 80) 32))), (es, .inl (E.2.2.1, 24, .inl (upd sz S.length (nI 32)))), (s0, .inr (5, [.ref m0, .ref d0, .ref h0, .ref x0])), (m0, .inl (E.2.1, 32, .inl mf)), (d0, .inl (E.2.1, 32, .inl df)), (x0, .inl (E.2.1, 112, .inl xf)), (h0, .inr (4, [.ref a1, .ref a2])), (a1, .inl (E.2.2.1, 8, .inl sv10)), (a2, .inl (E.2.2.1, 64, .inl wy11)), (c0, .inr (0, [.int (nI bo), .int (nI bh)]))] _ _ _ _ d_Run_digestLast_115 (⟨_, _, _, _, _, _, _, rfl, fB_cpy (hashF_B _ _) hB, Or.inl ⟨(hashL x :: S), rfl, rfl, by first | rfl | (simp only [List.length_cons]; omega) | (simp only [List.length_cons]), rep_dig hrep rfl rfl (shaL_len _) (hash_lay hx1.2.2 rfl), by first | (simp only [List.length_cons]; omega) | (simp only [List.length_cons]) | omega⟩⟩) rfl hP hS

set_option maxHeartbeats 4000000 in
set_option maxRecDepth 100000 in
theorem c_Run_reckon89 (l : Launch) (E : En) (u0 e0 eb es s0 m0 d0 x0 h0 a1 a2 c0 bo bh : Nat) (mf f sz df xf st wv : Nat → Int32) (S : Stk) (msg : Byl) (hrep : rep f sz S) (hB : fB f) (hBm : fB mf) (hlen : S.length ≤ 24) (hm : lay mf 0 msg) (hm32 : msg.length = 32) (ht : Int32) : CtI l y_Run_reckon b_Run_reckon 5 .boolean (rmd 4) E [.ref u0, .int (nI 89)] [(u0, .inr (3, [.ref e0, .ref s0, .ref h0, .ref c0])), (e0, .inr (1, [.ref eb, .ref es, .int (nI S.length)])), (eb, .inl (E.2.1, 1920, .inl f)), (es, .inl (E.2.2.1, 24, .inl sz)), (s0, .inr (5, [.ref m0, .ref d0, .ref h0, .ref x0])), (m0, .inl (E.2.1, 32, .inl mf)), (d0, .inl (E.2.1, 32, .inl df)), (x0, .inl (E.2.1, 112, .inl xf)), (h0, .inr (4, [.ref a1, .ref a2])), (a1, .inl (E.2.2.1, 8, .inl st)), (a2, .inl (E.2.2.1, 64, .inl wv)), (c0, .inr (0, [.int (nI bo), .int (nI bh)]))] (stepP E u0 e0 eb es s0 m0 d0 x0 h0 a1 a2 c0 bo bh mf (actS 89 ht msg S)) := by
  refine CtI.of (by decide) (Nat.le_of_ble_eq_true rfl) (stepP_nar) ?_
  intro p e s m args below meth c A Q H locs ls C hP hD hS hl kret
  have hx := C.1
  have hb := C.2.1
  have hl : lv_has ls 5 [(0, .ref u0), (1, .int (nI 89))] := hl
  rcases S with _ | ⟨x, _ | ⟨y, S⟩⟩
  · have hP : va_P E.1 clz [(u0, .inr (3, [.ref e0, .ref s0, .ref h0, .ref c0])), (e0, .inr (1, [.ref eb, .ref es, .int (nI 0)])), (eb, .inl (E.2.1, 1920, .inl f)), (es, .inl (E.2.2.1, 24, .inl sz)), (s0, .inr (5, [.ref m0, .ref d0, .ref h0, .ref x0])), (m0, .inl (E.2.1, 32, .inl mf)), (d0, .inl (E.2.1, 32, .inl df)), (x0, .inl (E.2.1, 112, .inl xf)), (h0, .inr (4, [.ref a1, .ref a2])), (a1, .inl (E.2.2.1, 8, .inl st)), (a2, .inl (E.2.2.1, 64, .inl wv)), (c0, .inr (0, [.int (nI bo), .int (nI bh)]))] H := hP
    have hD : va_D A [(u0, .inr (3, [.ref e0, .ref s0, .ref h0, .ref c0])), (e0, .inr (1, [.ref eb, .ref es, .int (nI 0)])), (eb, .inl (E.2.1, 1920, .inl f)), (es, .inl (E.2.2.1, 24, .inl sz)), (s0, .inr (5, [.ref m0, .ref d0, .ref h0, .ref x0])), (m0, .inl (E.2.1, 32, .inl mf)), (d0, .inl (E.2.1, 32, .inl df)), (x0, .inl (E.2.1, 112, .inl xf)), (h0, .inr (4, [.ref a1, .ref a2])), (a1, .inl (E.2.2.1, 8, .inl st)), (a2, .inl (E.2.2.1, 64, .inl wv)), (c0, .inr (0, [.int (nI bo), .int (nI bh)]))] := hD
    refine lv_aload_n hx hb d_Run_reckon_0 rfl (lv_at hl 0 rfl) ?_
    refine n_get C fg_Run_12 hP 0 rfl rfl d_Run_reckon_1 ?_
    refine n_get C fg_Run_79 hP 1 rfl rfl d_Run_reckon_4 ?_
    refine lv_iconst (v := nI 1) hx hb d_Run_reckon_7 (by decide) ?_
    refine lv_isub hx hb d_Run_reckon_8 ?_
    refine tope (z := (-1)) (by decide) ?_
    refine lv_istore_n (lv' := [(2, .int (-1)), (0, .ref u0), (1, .int (nI 89))]) hx hb d_Run_reckon_9 rfl hl (by decide) rfl (fun ls hl => ?_)
    refine lv_aload_n hx hb d_Run_reckon_10 rfl (lv_at hl 1 rfl) ?_
    refine n_get C fg_Run_12 hP 0 rfl rfl d_Run_reckon_11 ?_
    refine lv_iload_n hx hb d_Run_reckon_14 rfl (lv_at hl 0 rfl) ?_
    refine lv_iconst (v := nI 1) hx hb d_Run_reckon_15 (by decide) ?_
    refine lv_isub hx hb d_Run_reckon_16 ?_
    refine tope (z := (-2)) (by decide) ?_
    refine cal_I (As := [.int (-2)]) (rest := []) C lk_Run_104 (c_El_isNumber_no l E e0 eb es 0 f sz (-2) (by first | exact hasB_m1 _ | exact hasB_m2 _)) (by decide) hP hD hS 1 1 rfl rfl [1, 2, 3] rfl (by decide) hl.1 rfl (Nat.le_of_ble_eq_true rfl) d_Run_reckon_17 (fun r1 w1 H locs hp2 hP hD hS => ?_)
    obtain ⟨rfl, rfl⟩ := hp2
    have hP : va_P E.1 clz [(u0, .inr (3, [.ref e0, .ref s0, .ref h0, .ref c0])), (e0, .inr (1, [.ref eb, .ref es, .int (nI 0)])), (eb, .inl (E.2.1, 1920, .inl f)), (es, .inl (E.2.2.1, 24, .inl sz)), (s0, .inr (5, [.ref m0, .ref d0, .ref h0, .ref x0])), (m0, .inl (E.2.1, 32, .inl mf)), (d0, .inl (E.2.1, 32, .inl df)), (x0, .inl (E.2.1, 112, .inl xf)), (h0, .inr (4, [.ref a1, .ref a2])), (a1, .inl (E.2.2.1, 8, .inl st)), (a2, .inl (E.2.2.1, 64, .inl wv)), (c0, .inr (0, [.int (nI bo), .int (nI bh)]))] H := hP
    have hD : va_D A [(u0, .inr (3, [.ref e0, .ref s0, .ref h0, .ref c0])), (e0, .inr (1, [.ref eb, .ref es, .int (nI 0)])), (eb, .inl (E.2.1, 1920, .inl f)), (es, .inl (E.2.2.1, 24, .inl sz)), (s0, .inr (5, [.ref m0, .ref d0, .ref h0, .ref x0])), (m0, .inl (E.2.1, 32, .inl mf)), (d0, .inl (E.2.1, 32, .inl df)), (x0, .inl (E.2.1, 112, .inl xf)), (h0, .inr (4, [.ref a1, .ref a2])), (a1, .inl (E.2.2.1, 8, .inl st)), (a2, .inl (E.2.2.1, 64, .inl wv)), (c0, .inr (0, [.int (nI bo), .int (nI bh)]))] := hD
    refine zb_eq C false rfl d_Run_reckon_20 rfl (fun hc3 => ?_) (fun hc3 => absurd hc3 (by simp_all))
    refine lv_iconst (v := nI 0) hx hb d_Run_reckon_34 (by decide) ?_
    exact kret (nI 0) [(u0, .inr (3, [.ref e0, .ref s0, .ref h0, .ref c0])), (e0, .inr (1, [.ref eb, .ref es, .int (nI 0)])), (eb, .inl (E.2.1, 1920, .inl f)), (es, .inl (E.2.2.1, 24, .inl sz)), (s0, .inr (5, [.ref m0, .ref d0, .ref h0, .ref x0])), (m0, .inl (E.2.1, 32, .inl mf)), (d0, .inl (E.2.1, 32, .inl df)), (x0, .inl (E.2.1, 112, .inl xf)), (h0, .inr (4, [.ref a1, .ref a2])), (a1, .inl (E.2.2.1, 8, .inl st)), (a2, .inl (E.2.2.1, 64, .inl wv)), (c0, .inr (0, [.int (nI bo), .int (nI bh)]))] _ _ _ _ d_Run_reckon_35 (⟨_, _, _, _, _, _, _, rfl, hB, Or.inr ⟨rfl, rfl⟩⟩) rfl hP hS
  · have hx1 : sz 0 = nI x.length ∧ x.length ≤ 80 ∧ lay f (0 * 80) x := rep_top hrep
    have hP : va_P E.1 clz [(u0, .inr (3, [.ref e0, .ref s0, .ref h0, .ref c0])), (e0, .inr (1, [.ref eb, .ref es, .int (nI 1)])), (eb, .inl (E.2.1, 1920, .inl f)), (es, .inl (E.2.2.1, 24, .inl sz)), (s0, .inr (5, [.ref m0, .ref d0, .ref h0, .ref x0])), (m0, .inl (E.2.1, 32, .inl mf)), (d0, .inl (E.2.1, 32, .inl df)), (x0, .inl (E.2.1, 112, .inl xf)), (h0, .inr (4, [.ref a1, .ref a2])), (a1, .inl (E.2.2.1, 8, .inl st)), (a2, .inl (E.2.2.1, 64, .inl wv)), (c0, .inr (0, [.int (nI bo), .int (nI bh)]))] H := hP
    have hD : va_D A [(u0, .inr (3, [.ref e0, .ref s0, .ref h0, .ref c0])), (e0, .inr (1, [.ref eb, .ref es, .int (nI 1)])), (eb, .inl (E.2.1, 1920, .inl f)), (es, .inl (E.2.2.1, 24, .inl sz)), (s0, .inr (5, [.ref m0, .ref d0, .ref h0, .ref x0])), (m0, .inl (E.2.1, 32, .inl mf)), (d0, .inl (E.2.1, 32, .inl df)), (x0, .inl (E.2.1, 112, .inl xf)), (h0, .inr (4, [.ref a1, .ref a2])), (a1, .inl (E.2.2.1, 8, .inl st)), (a2, .inl (E.2.2.1, 64, .inl wv)), (c0, .inr (0, [.int (nI bo), .int (nI bh)]))] := hD
    refine lv_aload_n hx hb d_Run_reckon_0 rfl (lv_at hl 0 rfl) ?_
    refine n_get C fg_Run_12 hP 0 rfl rfl d_Run_reckon_1 ?_
    refine n_get C fg_Run_79 hP 1 rfl rfl d_Run_reckon_4 ?_
    refine lv_iconst (v := nI 1) hx hb d_Run_reckon_7 (by decide) ?_
    refine lv_isub hx hb d_Run_reckon_8 ?_
    refine tope (z := nI 0) (pk_sub (by omega)) ?_
    refine lv_istore_n (lv' := [(2, .int (nI 0)), (0, .ref u0), (1, .int (nI 89))]) hx hb d_Run_reckon_9 rfl hl (by decide) rfl (fun ls hl => ?_)
    refine lv_aload_n hx hb d_Run_reckon_10 rfl (lv_at hl 1 rfl) ?_
    refine n_get C fg_Run_12 hP 0 rfl rfl d_Run_reckon_11 ?_
    refine lv_iload_n hx hb d_Run_reckon_14 rfl (lv_at hl 0 rfl) ?_
    refine lv_iconst (v := nI 1) hx hb d_Run_reckon_15 (by decide) ?_
    refine lv_isub hx hb d_Run_reckon_16 ?_
    refine tope (z := (-1)) (by decide) ?_
    refine cal_I (As := [.int (-1)]) (rest := []) C lk_Run_104 (c_El_isNumber_no l E e0 eb es 1 f sz (-1) (by first | exact hasB_m1 _ | exact hasB_m2 _)) (by decide) hP hD hS 1 1 rfl rfl [1, 2, 3] rfl (by decide) hl.1 rfl (Nat.le_of_ble_eq_true rfl) d_Run_reckon_17 (fun r4 w1 H locs hp5 hP hD hS => ?_)
    obtain ⟨rfl, rfl⟩ := hp5
    have hP : va_P E.1 clz [(u0, .inr (3, [.ref e0, .ref s0, .ref h0, .ref c0])), (e0, .inr (1, [.ref eb, .ref es, .int (nI 1)])), (eb, .inl (E.2.1, 1920, .inl f)), (es, .inl (E.2.2.1, 24, .inl sz)), (s0, .inr (5, [.ref m0, .ref d0, .ref h0, .ref x0])), (m0, .inl (E.2.1, 32, .inl mf)), (d0, .inl (E.2.1, 32, .inl df)), (x0, .inl (E.2.1, 112, .inl xf)), (h0, .inr (4, [.ref a1, .ref a2])), (a1, .inl (E.2.2.1, 8, .inl st)), (a2, .inl (E.2.2.1, 64, .inl wv)), (c0, .inr (0, [.int (nI bo), .int (nI bh)]))] H := hP
    have hD : va_D A [(u0, .inr (3, [.ref e0, .ref s0, .ref h0, .ref c0])), (e0, .inr (1, [.ref eb, .ref es, .int (nI 1)])), (eb, .inl (E.2.1, 1920, .inl f)), (es, .inl (E.2.2.1, 24, .inl sz)), (s0, .inr (5, [.ref m0, .ref d0, .ref h0, .ref x0])), (m0, .inl (E.2.1, 32, .inl mf)), (d0, .inl (E.2.1, 32, .inl df)), (x0, .inl (E.2.1, 112, .inl xf)), (h0, .inr (4, [.ref a1, .ref a2])), (a1, .inl (E.2.2.1, 8, .inl st)), (a2, .inl (E.2.2.1, 64, .inl wv)), (c0, .inr (0, [.int (nI bo), .int (nI bh)]))] := hD
    refine zb_eq C false rfl d_Run_reckon_20 rfl (fun hc6 => ?_) (fun hc6 => absurd hc6 (by simp_all))
    refine lv_iconst (v := nI 0) hx hb d_Run_reckon_34 (by decide) ?_
    exact kret (nI 0) [(u0, .inr (3, [.ref e0, .ref s0, .ref h0, .ref c0])), (e0, .inr (1, [.ref eb, .ref es, .int (nI 1)])), (eb, .inl (E.2.1, 1920, .inl f)), (es, .inl (E.2.2.1, 24, .inl sz)), (s0, .inr (5, [.ref m0, .ref d0, .ref h0, .ref x0])), (m0, .inl (E.2.1, 32, .inl mf)), (d0, .inl (E.2.1, 32, .inl df)), (x0, .inl (E.2.1, 112, .inl xf)), (h0, .inr (4, [.ref a1, .ref a2])), (a1, .inl (E.2.2.1, 8, .inl st)), (a2, .inl (E.2.2.1, 64, .inl wv)), (c0, .inr (0, [.int (nI bo), .int (nI bh)]))] _ _ _ _ d_Run_reckon_35 (⟨_, _, _, _, _, _, _, rfl, hB, Or.inr ⟨rfl, rfl⟩⟩) rfl hP hS
  · have hx1 : sz (S.length + 1) = nI x.length ∧ x.length ≤ 80 ∧ lay f ((S.length + 1) * 80) x := rep_top hrep
    have hy1 : sz S.length = nI y.length ∧ y.length ≤ 80 ∧ lay f (S.length * 80) y := rep_top (rep_tail hrep)
    have hr0 : rep f sz S := rep_tail (rep_tail hrep)
    have hlen : S.length + 2 ≤ 24 := hlen
    have hP : va_P E.1 clz [(u0, .inr (3, [.ref e0, .ref s0, .ref h0, .ref c0])), (e0, .inr (1, [.ref eb, .ref es, .int (nI (S.length + 2))])), (eb, .inl (E.2.1, 1920, .inl f)), (es, .inl (E.2.2.1, 24, .inl sz)), (s0, .inr (5, [.ref m0, .ref d0, .ref h0, .ref x0])), (m0, .inl (E.2.1, 32, .inl mf)), (d0, .inl (E.2.1, 32, .inl df)), (x0, .inl (E.2.1, 112, .inl xf)), (h0, .inr (4, [.ref a1, .ref a2])), (a1, .inl (E.2.2.1, 8, .inl st)), (a2, .inl (E.2.2.1, 64, .inl wv)), (c0, .inr (0, [.int (nI bo), .int (nI bh)]))] H := hP
    have hD : va_D A [(u0, .inr (3, [.ref e0, .ref s0, .ref h0, .ref c0])), (e0, .inr (1, [.ref eb, .ref es, .int (nI (S.length + 2))])), (eb, .inl (E.2.1, 1920, .inl f)), (es, .inl (E.2.2.1, 24, .inl sz)), (s0, .inr (5, [.ref m0, .ref d0, .ref h0, .ref x0])), (m0, .inl (E.2.1, 32, .inl mf)), (d0, .inl (E.2.1, 32, .inl df)), (x0, .inl (E.2.1, 112, .inl xf)), (h0, .inr (4, [.ref a1, .ref a2])), (a1, .inl (E.2.2.1, 8, .inl st)), (a2, .inl (E.2.2.1, 64, .inl wv)), (c0, .inr (0, [.int (nI bo), .int (nI bh)]))] := hD
    refine lv_aload_n hx hb d_Run_reckon_0 rfl (lv_at hl 0 rfl) ?_
    refine n_get C fg_Run_12 hP 0 rfl rfl d_Run_reckon_1 ?_
    refine n_get C fg_Run_79 hP 1 rfl rfl d_Run_reckon_4 ?_
    refine lv_iconst (v := nI 1) hx hb d_Run_reckon_7 (by decide) ?_
    refine lv_isub hx hb d_Run_reckon_8 ?_
    refine tope (z := nI (S.length + 1)) ((pk_sub (by omega)).trans (congrArg nI (by omega))) ?_
    refine lv_istore_n (lv' := [(2, .int (nI (S.length + 1))), (0, .ref u0), (1, .int (nI 89))]) hx hb d_Run_reckon_9 rfl hl (by decide) rfl (fun ls hl => ?_)
    refine lv_aload_n hx hb d_Run_reckon_10 rfl (lv_at hl 1 rfl) ?_
    refine n_get C fg_Run_12 hP 0 rfl rfl d_Run_reckon_11 ?_
    refine lv_iload_n hx hb d_Run_reckon_14 rfl (lv_at hl 0 rfl) ?_
    refine lv_iconst (v := nI 1) hx hb d_Run_reckon_15 (by decide) ?_
    refine lv_isub hx hb d_Run_reckon_16 ?_
    refine tope (z := nI S.length) ((pk_sub (by omega)).trans (congrArg nI (by omega))) ?_
    refine cal_I (As := [.int (nI S.length)]) (rest := []) C lk_Run_104 (c_El_isNumber l E e0 eb es (S.length + 2) f sz S.length y.length (by omega) (by omega) hy1.1 hy1.2.1) (by decide) hP hD hS 1 1 rfl rfl [1, 2, 3] rfl (by decide) hl.1 rfl (Nat.le_of_ble_eq_true rfl) d_Run_reckon_17 (fun r7 w1 H locs hp8 hP hD hS => ?_)
    obtain ⟨rfl, rfl⟩ := hp8
    have hP : va_P E.1 clz [(u0, .inr (3, [.ref e0, .ref s0, .ref h0, .ref c0])), (e0, .inr (1, [.ref eb, .ref es, .int (nI (S.length + 2))])), (eb, .inl (E.2.1, 1920, .inl f)), (es, .inl (E.2.2.1, 24, .inl sz)), (s0, .inr (5, [.ref m0, .ref d0, .ref h0, .ref x0])), (m0, .inl (E.2.1, 32, .inl mf)), (d0, .inl (E.2.1, 32, .inl df)), (x0, .inl (E.2.1, 112, .inl xf)), (h0, .inr (4, [.ref a1, .ref a2])), (a1, .inl (E.2.2.1, 8, .inl st)), (a2, .inl (E.2.2.1, 64, .inl wv)), (c0, .inr (0, [.int (nI bo), .int (nI bh)]))] H := hP
    have hD : va_D A [(u0, .inr (3, [.ref e0, .ref s0, .ref h0, .ref c0])), (e0, .inr (1, [.ref eb, .ref es, .int (nI (S.length + 2))])), (eb, .inl (E.2.1, 1920, .inl f)), (es, .inl (E.2.2.1, 24, .inl sz)), (s0, .inr (5, [.ref m0, .ref d0, .ref h0, .ref x0])), (m0, .inl (E.2.1, 32, .inl mf)), (d0, .inl (E.2.1, 32, .inl df)), (x0, .inl (E.2.1, 112, .inl xf)), (h0, .inr (4, [.ref a1, .ref a2])), (a1, .inl (E.2.2.1, 8, .inl st)), (a2, .inl (E.2.2.1, 64, .inl wv)), (c0, .inr (0, [.int (nI bo), .int (nI bh)]))] := hD
    refine zb_eq C (decide (y.length ≤ 4)) rfl d_Run_reckon_20 rfl (fun hc9 => ?_) (fun hc9 => ?_)
    · refine lv_iconst (v := nI 0) hx hb d_Run_reckon_34 (by decide) ?_
      exact kret (nI 0) [(u0, .inr (3, [.ref e0, .ref s0, .ref h0, .ref c0])), (e0, .inr (1, [.ref eb, .ref es, .int (nI (S.length + 2))])), (eb, .inl (E.2.1, 1920, .inl f)), (es, .inl (E.2.2.1, 24, .inl sz)), (s0, .inr (5, [.ref m0, .ref d0, .ref h0, .ref x0])), (m0, .inl (E.2.1, 32, .inl mf)), (d0, .inl (E.2.1, 32, .inl df)), (x0, .inl (E.2.1, 112, .inl xf)), (h0, .inr (4, [.ref a1, .ref a2])), (a1, .inl (E.2.2.1, 8, .inl st)), (a2, .inl (E.2.2.1, 64, .inl wv)), (c0, .inr (0, [.int (nI bo), .int (nI bh)]))] _ _ _ _ d_Run_reckon_35 (⟨_, _, _, _, _, _, _, rfl, hB, Or.inr ⟨by show (if y.length ≤ 4 ∧ x.length ≤ 4 then some (numB (numL y + numL x) :: S) else none) = _; rw [if_neg (fun q => by first | exact absurd q.1 (of_decide_eq_false (by assumption)) | exact absurd q.2 (of_decide_eq_false (by assumption)))], rfl⟩⟩) rfl hP hS
    · refine lv_aload_n hx hb d_Run_reckon_23 rfl (lv_at hl 1 rfl) ?_
      refine n_get C fg_Run_12 hP 0 rfl rfl d_Run_reckon_24 ?_
      refine lv_iload_n hx hb d_Run_reckon_27 rfl (lv_at hl 0 rfl) ?_
      refine cal_I (As := [.int (nI (S.length + 1))]) (rest := []) C lk_Run_104 (c_El_isNumber l E e0 eb es (S.length + 2) f sz (S.length + 1) x.length (by omega) (by omega) hx1.1 hx1.2.1) (by decide) hP hD hS 1 1 rfl rfl [1, 2, 3] rfl (by decide) hl.1 rfl (Nat.le_of_ble_eq_true rfl) d_Run_reckon_28 (fun r10 w1 H locs hp11 hP hD hS => ?_)
      obtain ⟨rfl, rfl⟩ := hp11
      have hP : va_P E.1 clz [(u0, .inr (3, [.ref e0, .ref s0, .ref h0, .ref c0])), (e0, .inr (1, [.ref eb, .ref es, .int (nI (S.length + 2))])), (eb, .inl (E.2.1, 1920, .inl f)), (es, .inl (E.2.2.1, 24, .inl sz)), (s0, .inr (5, [.ref m0, .ref d0, .ref h0, .ref x0])), (m0, .inl (E.2.1, 32, .inl mf)), (d0, .inl (E.2.1, 32, .inl df)), (x0, .inl (E.2.1, 112, .inl xf)), (h0, .inr (4, [.ref a1, .ref a2])), (a1, .inl (E.2.2.1, 8, .inl st)), (a2, .inl (E.2.2.1, 64, .inl wv)), (c0, .inr (0, [.int (nI bo), .int (nI bh)]))] H := hP
      have hD : va_D A [(u0, .inr (3, [.ref e0, .ref s0, .ref h0, .ref c0])), (e0, .inr (1, [.ref eb, .ref es, .int (nI (S.length + 2))])), (eb, .inl (E.2.1, 1920, .inl f)), (es, .inl (E.2.2.1, 24, .inl sz)), (s0, .inr (5, [.ref m0, .ref d0, .ref h0, .ref x0])), (m0, .inl (E.2.1, 32, .inl mf)), (d0, .inl (E.2.1, 32, .inl df)), (x0, .inl (E.2.1, 112, .inl xf)), (h0, .inr (4, [.ref a1, .ref a2])), (a1, .inl (E.2.2.1, 8, .inl st)), (a2, .inl (E.2.2.1, 64, .inl wv)), (c0, .inr (0, [.int (nI bo), .int (nI bh)]))] := hD
      refine zb_ne C (decide (x.length ≤ 4)) rfl d_Run_reckon_31 rfl (fun hc12 => ?_) (fun hc12 => ?_)
      · refine lv_aload_n hx hb d_Run_reckon_36 rfl (lv_at hl 1 rfl) ?_
        refine n_get C fg_Run_12 hP 0 rfl rfl d_Run_reckon_37 ?_
        refine lv_iload_n hx hb d_Run_reckon_40 rfl (lv_at hl 0 rfl) ?_
        refine lv_iconst (v := nI 1) hx hb d_Run_reckon_41 (by decide) ?_
        refine lv_isub hx hb d_Run_reckon_42 ?_
        refine tope (z := nI S.length) ((pk_sub (by omega)).trans (congrArg nI (by omega))) ?_
        refine cal_I (As := [.int (nI S.length)]) (rest := []) C lk_Run_107 (c_El_number l E e0 eb es (S.length + 2) f sz S.length y (by omega) (by omega) hy1.1 hy1.2.1 hy1.2.2 (of_decide_eq_true (by assumption))) (by decide) hP hD hS 1 1 rfl rfl [1, 2, 3] rfl (by decide) hl.1 rfl (Nat.le_of_ble_eq_true rfl) d_Run_reckon_43 (fun r13 w1 H locs hp14 hP hD hS => ?_)
        obtain ⟨rfl, rfl⟩ := hp14
        have hP : va_P E.1 clz [(u0, .inr (3, [.ref e0, .ref s0, .ref h0, .ref c0])), (e0, .inr (1, [.ref eb, .ref es, .int (nI (S.length + 2))])), (eb, .inl (E.2.1, 1920, .inl f)), (es, .inl (E.2.2.1, 24, .inl sz)), (s0, .inr (5, [.ref m0, .ref d0, .ref h0, .ref x0])), (m0, .inl (E.2.1, 32, .inl mf)), (d0, .inl (E.2.1, 32, .inl df)), (x0, .inl (E.2.1, 112, .inl xf)), (h0, .inr (4, [.ref a1, .ref a2])), (a1, .inl (E.2.2.1, 8, .inl st)), (a2, .inl (E.2.2.1, 64, .inl wv)), (c0, .inr (0, [.int (nI bo), .int (nI bh)]))] H := hP
        have hD : va_D A [(u0, .inr (3, [.ref e0, .ref s0, .ref h0, .ref c0])), (e0, .inr (1, [.ref eb, .ref es, .int (nI (S.length + 2))])), (eb, .inl (E.2.1, 1920, .inl f)), (es, .inl (E.2.2.1, 24, .inl sz)), (s0, .inr (5, [.ref m0, .ref d0, .ref h0, .ref x0])), (m0, .inl (E.2.1, 32, .inl mf)), (d0, .inl (E.2.1, 32, .inl df)), (x0, .inl (E.2.1, 112, .inl xf)), (h0, .inr (4, [.ref a1, .ref a2])), (a1, .inl (E.2.2.1, 8, .inl st)), (a2, .inl (E.2.2.1, 64, .inl wv)), (c0, .inr (0, [.int (nI bo), .int (nI bh)]))] := hD
        refine lv_istore_n (lv' := [(3, .int (numL y)), (2, .int (nI (S.length + 1))), (0, .ref u0), (1, .int (nI 89))]) hx hb d_Run_reckon_46 rfl hl (by decide) rfl (fun ls hl => ?_)
        refine lv_aload_n hx hb d_Run_reckon_47 rfl (lv_at hl 2 rfl) ?_
        refine n_get C fg_Run_12 hP 0 rfl rfl d_Run_reckon_48 ?_
        refine lv_iload_n hx hb d_Run_reckon_51 rfl (lv_at hl 1 rfl) ?_
        refine cal_I (As := [.int (nI (S.length + 1))]) (rest := []) C lk_Run_107 (c_El_number l E e0 eb es (S.length + 2) f sz (S.length + 1) x (by omega) (by omega) hx1.1 hx1.2.1 hx1.2.2 (of_decide_eq_true (by assumption))) (by decide) hP hD hS 1 1 rfl rfl [1, 2, 3] rfl (by decide) hl.1 rfl (Nat.le_of_ble_eq_true rfl) d_Run_reckon_52 (fun r15 w1 H locs hp16 hP hD hS => ?_)
        obtain ⟨rfl, rfl⟩ := hp16
        have hP : va_P E.1 clz [(u0, .inr (3, [.ref e0, .ref s0, .ref h0, .ref c0])), (e0, .inr (1, [.ref eb, .ref es, .int (nI (S.length + 2))])), (eb, .inl (E.2.1, 1920, .inl f)), (es, .inl (E.2.2.1, 24, .inl sz)), (s0, .inr (5, [.ref m0, .ref d0, .ref h0, .ref x0])), (m0, .inl (E.2.1, 32, .inl mf)), (d0, .inl (E.2.1, 32, .inl df)), (x0, .inl (E.2.1, 112, .inl xf)), (h0, .inr (4, [.ref a1, .ref a2])), (a1, .inl (E.2.2.1, 8, .inl st)), (a2, .inl (E.2.2.1, 64, .inl wv)), (c0, .inr (0, [.int (nI bo), .int (nI bh)]))] H := hP
        have hD : va_D A [(u0, .inr (3, [.ref e0, .ref s0, .ref h0, .ref c0])), (e0, .inr (1, [.ref eb, .ref es, .int (nI (S.length + 2))])), (eb, .inl (E.2.1, 1920, .inl f)), (es, .inl (E.2.2.1, 24, .inl sz)), (s0, .inr (5, [.ref m0, .ref d0, .ref h0, .ref x0])), (m0, .inl (E.2.1, 32, .inl mf)), (d0, .inl (E.2.1, 32, .inl df)), (x0, .inl (E.2.1, 112, .inl xf)), (h0, .inr (4, [.ref a1, .ref a2])), (a1, .inl (E.2.2.1, 8, .inl st)), (a2, .inl (E.2.2.1, 64, .inl wv)), (c0, .inr (0, [.int (nI bo), .int (nI bh)]))] := hD
        refine lv_istore (lv' := [(4, .int (numL x)), (3, .int (numL y)), (2, .int (nI (S.length + 1))), (0, .ref u0), (1, .int (nI 89))]) hx hb d_Run_reckon_55 hl (by decide) rfl (fun ls hl => ?_)
        refine lv_iload_n hx hb d_Run_reckon_57 rfl (lv_at hl 4 rfl) ?_
        refine lv_bipush (v := nI 91) hx hb d_Run_reckon_58 (by decide) ?_
        refine j_ne C 89 91 rfl rfl (by decide) (by decide) d_Run_reckon_60 rfl (fun hc17 => ?_) (fun hc17 => absurd hc17 (by decide))
        refine lv_aload_n hx hb d_Run_reckon_83 rfl (lv_at hl 3 rfl) ?_
        refine n_get C fg_Run_12 hP 0 rfl rfl d_Run_reckon_84 ?_
        refine lv_iconst (v := nI 2) hx hb d_Run_reckon_87 (by decide) ?_
        refine lv_iload_n hx hb d_Run_reckon_88 rfl (lv_at hl 4 rfl) ?_
        refine lv_bipush (v := nI 89) hx hb d_Run_reckon_89 (by decide) ?_
        refine j_ne C 89 89 rfl rfl (by decide) (by decide) d_Run_reckon_91 rfl (fun hc18 => absurd hc18 (by decide)) (fun hc18 => ?_)
        refine lv_iload_n hx hb d_Run_reckon_94 rfl (lv_at hl 1 rfl) ?_
        refine lv_iload hx hb d_Run_reckon_95 (lv_at hl 0 rfl) ?_
        refine lv_iadd hx hb d_Run_reckon_97 ?_
        refine lv_goto hx hb d_Run_reckon_98 rfl ?_
        refine cal_I (As := [.int (nI 2), .int ((numL y) + (numL x))]) (rest := []) C lk_Run_131 (c_El_replace l E e0 eb es (S.length + 2) f sz 2 ((numL y) + (numL x)) (by omega) (by omega) (by omega)) (by decide) hP hD hS 1 1 rfl rfl [1, 2, 3] rfl (by decide) hl.1 rfl (Nat.le_of_ble_eq_true rfl) d_Run_reckon_105 (fun r19 w1 H locs hp20 hP hD hS => ?_)
        obtain ⟨rfl, rfl⟩ := hp20
        have hP : va_P E.1 clz [(u0, .inr (3, [.ref e0, .ref s0, .ref h0, .ref c0])), (e0, .inr (1, [.ref eb, .ref es, .int (nI ((S.length + 2) - 2 + 1))])), (eb, .inl (E.2.1, 1920, .inl (pn4 f (((S.length + 2) - 2) * 80) ((numL y) + (numL x))))), (es, .inl (E.2.2.1, 24, .inl (upd sz ((S.length + 2) - 2) (pnz ((numL y) + (numL x)))))), (s0, .inr (5, [.ref m0, .ref d0, .ref h0, .ref x0])), (m0, .inl (E.2.1, 32, .inl mf)), (d0, .inl (E.2.1, 32, .inl df)), (x0, .inl (E.2.1, 112, .inl xf)), (h0, .inr (4, [.ref a1, .ref a2])), (a1, .inl (E.2.2.1, 8, .inl st)), (a2, .inl (E.2.2.1, 64, .inl wv)), (c0, .inr (0, [.int (nI bo), .int (nI bh)]))] H := hP
        have hD : va_D A [(u0, .inr (3, [.ref e0, .ref s0, .ref h0, .ref c0])), (e0, .inr (1, [.ref eb, .ref es, .int (nI ((S.length + 2) - 2 + 1))])), (eb, .inl (E.2.1, 1920, .inl (pn4 f (((S.length + 2) - 2) * 80) ((numL y) + (numL x))))), (es, .inl (E.2.2.1, 24, .inl (upd sz ((S.length + 2) - 2) (pnz ((numL y) + (numL x)))))), (s0, .inr (5, [.ref m0, .ref d0, .ref h0, .ref x0])), (m0, .inl (E.2.1, 32, .inl mf)), (d0, .inl (E.2.1, 32, .inl df)), (x0, .inl (E.2.1, 112, .inl xf)), (h0, .inr (4, [.ref a1, .ref a2])), (a1, .inl (E.2.2.1, 8, .inl st)), (a2, .inl (E.2.2.1, 64, .inl wv)), (c0, .inr (0, [.int (nI bo), .int (nI bh)]))] := hD
        exact kret (b2 true) [(u0, .inr (3, [.ref e0, .ref s0, .ref h0, .ref c0])), (e0, .inr (1, [.ref eb, .ref es, .int (nI ((S.length + 2) - 2 + 1))])), (eb, .inl (E.2.1, 1920, .inl (pn4 f (((S.length + 2) - 2) * 80) ((numL y) + (numL x))))), (es, .inl (E.2.2.1, 24, .inl (upd sz ((S.length + 2) - 2) (pnz ((numL y) + (numL x)))))), (s0, .inr (5, [.ref m0, .ref d0, .ref h0, .ref x0])), (m0, .inl (E.2.1, 32, .inl mf)), (d0, .inl (E.2.1, 32, .inl df)), (x0, .inl (E.2.1, 112, .inl xf)), (h0, .inr (4, [.ref a1, .ref a2])), (a1, .inl (E.2.2.1, 8, .inl st)), (a2, .inl (E.2.2.1, 64, .inl wv)), (c0, .inr (0, [.int (nI bo), .int (nI bh)]))] _ _ _ _ d_Run_reckon_108 (⟨_, _, _, _, _, _, _, rfl, fB_pn4 hB, Or.inl ⟨(numB (numL y + numL x) :: S), by show (if y.length ≤ 4 ∧ x.length ≤ 4 then some (numB (numL y + numL x) :: S) else none) = _; rw [if_pos ⟨of_decide_eq_true (by assumption), of_decide_eq_true (by assumption)⟩], rfl, by first | rfl | (simp only [List.length_cons]; omega) | (simp only [List.length_cons]), rep_num hr0 (by omega), by first | (simp only [List.length_cons]; omega) | (simp only [List.length_cons]) | omega⟩⟩) rfl hP hS
      · refine lv_iconst (v := nI 0) hx hb d_Run_reckon_34 (by decide) ?_
        exact kret (nI 0) [(u0, .inr (3, [.ref e0, .ref s0, .ref h0, .ref c0])), (e0, .inr (1, [.ref eb, .ref es, .int (nI (S.length + 2))])), (eb, .inl (E.2.1, 1920, .inl f)), (es, .inl (E.2.2.1, 24, .inl sz)), (s0, .inr (5, [.ref m0, .ref d0, .ref h0, .ref x0])), (m0, .inl (E.2.1, 32, .inl mf)), (d0, .inl (E.2.1, 32, .inl df)), (x0, .inl (E.2.1, 112, .inl xf)), (h0, .inr (4, [.ref a1, .ref a2])), (a1, .inl (E.2.2.1, 8, .inl st)), (a2, .inl (E.2.2.1, 64, .inl wv)), (c0, .inr (0, [.int (nI bo), .int (nI bh)]))] _ _ _ _ d_Run_reckon_35 (⟨_, _, _, _, _, _, _, rfl, hB, Or.inr ⟨by show (if y.length ≤ 4 ∧ x.length ≤ 4 then some (numB (numL y + numL x) :: S) else none) = _; rw [if_neg (fun q => by first | exact absurd q.1 (of_decide_eq_false (by assumption)) | exact absurd q.2 (of_decide_eq_false (by assumption)))], rfl⟩⟩) rfl hP hS

set_option maxHeartbeats 4000000 in
set_option maxRecDepth 100000 in
theorem c_Run_reckon90 (l : Launch) (E : En) (u0 e0 eb es s0 m0 d0 x0 h0 a1 a2 c0 bo bh : Nat) (mf f sz df xf st wv : Nat → Int32) (S : Stk) (msg : Byl) (hrep : rep f sz S) (hB : fB f) (hBm : fB mf) (hlen : S.length ≤ 24) (hm : lay mf 0 msg) (hm32 : msg.length = 32) (ht : Int32) : CtI l y_Run_reckon b_Run_reckon 5 .boolean (rmd 4) E [.ref u0, .int (nI 90)] [(u0, .inr (3, [.ref e0, .ref s0, .ref h0, .ref c0])), (e0, .inr (1, [.ref eb, .ref es, .int (nI S.length)])), (eb, .inl (E.2.1, 1920, .inl f)), (es, .inl (E.2.2.1, 24, .inl sz)), (s0, .inr (5, [.ref m0, .ref d0, .ref h0, .ref x0])), (m0, .inl (E.2.1, 32, .inl mf)), (d0, .inl (E.2.1, 32, .inl df)), (x0, .inl (E.2.1, 112, .inl xf)), (h0, .inr (4, [.ref a1, .ref a2])), (a1, .inl (E.2.2.1, 8, .inl st)), (a2, .inl (E.2.2.1, 64, .inl wv)), (c0, .inr (0, [.int (nI bo), .int (nI bh)]))] (stepP E u0 e0 eb es s0 m0 d0 x0 h0 a1 a2 c0 bo bh mf (actS 90 ht msg S)) := by
  refine CtI.of (by decide) (Nat.le_of_ble_eq_true rfl) (stepP_nar) ?_
  intro p e s m args below meth c A Q H locs ls C hP hD hS hl kret
  have hx := C.1
  have hb := C.2.1
  have hl : lv_has ls 5 [(0, .ref u0), (1, .int (nI 90))] := hl
  rcases S with _ | ⟨x, _ | ⟨y, S⟩⟩
  · have hP : va_P E.1 clz [(u0, .inr (3, [.ref e0, .ref s0, .ref h0, .ref c0])), (e0, .inr (1, [.ref eb, .ref es, .int (nI 0)])), (eb, .inl (E.2.1, 1920, .inl f)), (es, .inl (E.2.2.1, 24, .inl sz)), (s0, .inr (5, [.ref m0, .ref d0, .ref h0, .ref x0])), (m0, .inl (E.2.1, 32, .inl mf)), (d0, .inl (E.2.1, 32, .inl df)), (x0, .inl (E.2.1, 112, .inl xf)), (h0, .inr (4, [.ref a1, .ref a2])), (a1, .inl (E.2.2.1, 8, .inl st)), (a2, .inl (E.2.2.1, 64, .inl wv)), (c0, .inr (0, [.int (nI bo), .int (nI bh)]))] H := hP
    have hD : va_D A [(u0, .inr (3, [.ref e0, .ref s0, .ref h0, .ref c0])), (e0, .inr (1, [.ref eb, .ref es, .int (nI 0)])), (eb, .inl (E.2.1, 1920, .inl f)), (es, .inl (E.2.2.1, 24, .inl sz)), (s0, .inr (5, [.ref m0, .ref d0, .ref h0, .ref x0])), (m0, .inl (E.2.1, 32, .inl mf)), (d0, .inl (E.2.1, 32, .inl df)), (x0, .inl (E.2.1, 112, .inl xf)), (h0, .inr (4, [.ref a1, .ref a2])), (a1, .inl (E.2.2.1, 8, .inl st)), (a2, .inl (E.2.2.1, 64, .inl wv)), (c0, .inr (0, [.int (nI bo), .int (nI bh)]))] := hD
    refine lv_aload_n hx hb d_Run_reckon_0 rfl (lv_at hl 0 rfl) ?_
    refine n_get C fg_Run_12 hP 0 rfl rfl d_Run_reckon_1 ?_
    refine n_get C fg_Run_79 hP 1 rfl rfl d_Run_reckon_4 ?_
    refine lv_iconst (v := nI 1) hx hb d_Run_reckon_7 (by decide) ?_
    refine lv_isub hx hb d_Run_reckon_8 ?_
    refine tope (z := (-1)) (by decide) ?_
    refine lv_istore_n (lv' := [(2, .int (-1)), (0, .ref u0), (1, .int (nI 90))]) hx hb d_Run_reckon_9 rfl hl (by decide) rfl (fun ls hl => ?_)
    refine lv_aload_n hx hb d_Run_reckon_10 rfl (lv_at hl 1 rfl) ?_
    refine n_get C fg_Run_12 hP 0 rfl rfl d_Run_reckon_11 ?_
    refine lv_iload_n hx hb d_Run_reckon_14 rfl (lv_at hl 0 rfl) ?_
    refine lv_iconst (v := nI 1) hx hb d_Run_reckon_15 (by decide) ?_
    refine lv_isub hx hb d_Run_reckon_16 ?_
    refine tope (z := (-2)) (by decide) ?_
    refine cal_I (As := [.int (-2)]) (rest := []) C lk_Run_104 (c_El_isNumber_no l E e0 eb es 0 f sz (-2) (by first | exact hasB_m1 _ | exact hasB_m2 _)) (by decide) hP hD hS 1 1 rfl rfl [1, 2, 3] rfl (by decide) hl.1 rfl (Nat.le_of_ble_eq_true rfl) d_Run_reckon_17 (fun r1 w1 H locs hp2 hP hD hS => ?_)
    obtain ⟨rfl, rfl⟩ := hp2
    have hP : va_P E.1 clz [(u0, .inr (3, [.ref e0, .ref s0, .ref h0, .ref c0])), (e0, .inr (1, [.ref eb, .ref es, .int (nI 0)])), (eb, .inl (E.2.1, 1920, .inl f)), (es, .inl (E.2.2.1, 24, .inl sz)), (s0, .inr (5, [.ref m0, .ref d0, .ref h0, .ref x0])), (m0, .inl (E.2.1, 32, .inl mf)), (d0, .inl (E.2.1, 32, .inl df)), (x0, .inl (E.2.1, 112, .inl xf)), (h0, .inr (4, [.ref a1, .ref a2])), (a1, .inl (E.2.2.1, 8, .inl st)), (a2, .inl (E.2.2.1, 64, .inl wv)), (c0, .inr (0, [.int (nI bo), .int (nI bh)]))] H := hP
    have hD : va_D A [(u0, .inr (3, [.ref e0, .ref s0, .ref h0, .ref c0])), (e0, .inr (1, [.ref eb, .ref es, .int (nI 0)])), (eb, .inl (E.2.1, 1920, .inl f)), (es, .inl (E.2.2.1, 24, .inl sz)), (s0, .inr (5, [.ref m0, .ref d0, .ref h0, .ref x0])), (m0, .inl (E.2.1, 32, .inl mf)), (d0, .inl (E.2.1, 32, .inl df)), (x0, .inl (E.2.1, 112, .inl xf)), (h0, .inr (4, [.ref a1, .ref a2])), (a1, .inl (E.2.2.1, 8, .inl st)), (a2, .inl (E.2.2.1, 64, .inl wv)), (c0, .inr (0, [.int (nI bo), .int (nI bh)]))] := hD
    refine zb_eq C false rfl d_Run_reckon_20 rfl (fun hc3 => ?_) (fun hc3 => absurd hc3 (by simp_all))
    refine lv_iconst (v := nI 0) hx hb d_Run_reckon_34 (by decide) ?_
    exact kret (nI 0) [(u0, .inr (3, [.ref e0, .ref s0, .ref h0, .ref c0])), (e0, .inr (1, [.ref eb, .ref es, .int (nI 0)])), (eb, .inl (E.2.1, 1920, .inl f)), (es, .inl (E.2.2.1, 24, .inl sz)), (s0, .inr (5, [.ref m0, .ref d0, .ref h0, .ref x0])), (m0, .inl (E.2.1, 32, .inl mf)), (d0, .inl (E.2.1, 32, .inl df)), (x0, .inl (E.2.1, 112, .inl xf)), (h0, .inr (4, [.ref a1, .ref a2])), (a1, .inl (E.2.2.1, 8, .inl st)), (a2, .inl (E.2.2.1, 64, .inl wv)), (c0, .inr (0, [.int (nI bo), .int (nI bh)]))] _ _ _ _ d_Run_reckon_35 (⟨_, _, _, _, _, _, _, rfl, hB, Or.inr ⟨rfl, rfl⟩⟩) rfl hP hS
  · have hx1 : sz 0 = nI x.length ∧ x.length ≤ 80 ∧ lay f (0 * 80) x := rep_top hrep
    have hP : va_P E.1 clz [(u0, .inr (3, [.ref e0, .ref s0, .ref h0, .ref c0])), (e0, .inr (1, [.ref eb, .ref es, .int (nI 1)])), (eb, .inl (E.2.1, 1920, .inl f)), (es, .inl (E.2.2.1, 24, .inl sz)), (s0, .inr (5, [.ref m0, .ref d0, .ref h0, .ref x0])), (m0, .inl (E.2.1, 32, .inl mf)), (d0, .inl (E.2.1, 32, .inl df)), (x0, .inl (E.2.1, 112, .inl xf)), (h0, .inr (4, [.ref a1, .ref a2])), (a1, .inl (E.2.2.1, 8, .inl st)), (a2, .inl (E.2.2.1, 64, .inl wv)), (c0, .inr (0, [.int (nI bo), .int (nI bh)]))] H := hP
    have hD : va_D A [(u0, .inr (3, [.ref e0, .ref s0, .ref h0, .ref c0])), (e0, .inr (1, [.ref eb, .ref es, .int (nI 1)])), (eb, .inl (E.2.1, 1920, .inl f)), (es, .inl (E.2.2.1, 24, .inl sz)), (s0, .inr (5, [.ref m0, .ref d0, .ref h0, .ref x0])), (m0, .inl (E.2.1, 32, .inl mf)), (d0, .inl (E.2.1, 32, .inl df)), (x0, .inl (E.2.1, 112, .inl xf)), (h0, .inr (4, [.ref a1, .ref a2])), (a1, .inl (E.2.2.1, 8, .inl st)), (a2, .inl (E.2.2.1, 64, .inl wv)), (c0, .inr (0, [.int (nI bo), .int (nI bh)]))] := hD
    refine lv_aload_n hx hb d_Run_reckon_0 rfl (lv_at hl 0 rfl) ?_
    refine n_get C fg_Run_12 hP 0 rfl rfl d_Run_reckon_1 ?_
    refine n_get C fg_Run_79 hP 1 rfl rfl d_Run_reckon_4 ?_
    refine lv_iconst (v := nI 1) hx hb d_Run_reckon_7 (by decide) ?_
    refine lv_isub hx hb d_Run_reckon_8 ?_
    refine tope (z := nI 0) (pk_sub (by omega)) ?_
    refine lv_istore_n (lv' := [(2, .int (nI 0)), (0, .ref u0), (1, .int (nI 90))]) hx hb d_Run_reckon_9 rfl hl (by decide) rfl (fun ls hl => ?_)
    refine lv_aload_n hx hb d_Run_reckon_10 rfl (lv_at hl 1 rfl) ?_
    refine n_get C fg_Run_12 hP 0 rfl rfl d_Run_reckon_11 ?_
    refine lv_iload_n hx hb d_Run_reckon_14 rfl (lv_at hl 0 rfl) ?_
    refine lv_iconst (v := nI 1) hx hb d_Run_reckon_15 (by decide) ?_
    refine lv_isub hx hb d_Run_reckon_16 ?_
    refine tope (z := (-1)) (by decide) ?_
    refine cal_I (As := [.int (-1)]) (rest := []) C lk_Run_104 (c_El_isNumber_no l E e0 eb es 1 f sz (-1) (by first | exact hasB_m1 _ | exact hasB_m2 _)) (by decide) hP hD hS 1 1 rfl rfl [1, 2, 3] rfl (by decide) hl.1 rfl (Nat.le_of_ble_eq_true rfl) d_Run_reckon_17 (fun r4 w1 H locs hp5 hP hD hS => ?_)
    obtain ⟨rfl, rfl⟩ := hp5
    have hP : va_P E.1 clz [(u0, .inr (3, [.ref e0, .ref s0, .ref h0, .ref c0])), (e0, .inr (1, [.ref eb, .ref es, .int (nI 1)])), (eb, .inl (E.2.1, 1920, .inl f)), (es, .inl (E.2.2.1, 24, .inl sz)), (s0, .inr (5, [.ref m0, .ref d0, .ref h0, .ref x0])), (m0, .inl (E.2.1, 32, .inl mf)), (d0, .inl (E.2.1, 32, .inl df)), (x0, .inl (E.2.1, 112, .inl xf)), (h0, .inr (4, [.ref a1, .ref a2])), (a1, .inl (E.2.2.1, 8, .inl st)), (a2, .inl (E.2.2.1, 64, .inl wv)), (c0, .inr (0, [.int (nI bo), .int (nI bh)]))] H := hP
    have hD : va_D A [(u0, .inr (3, [.ref e0, .ref s0, .ref h0, .ref c0])), (e0, .inr (1, [.ref eb, .ref es, .int (nI 1)])), (eb, .inl (E.2.1, 1920, .inl f)), (es, .inl (E.2.2.1, 24, .inl sz)), (s0, .inr (5, [.ref m0, .ref d0, .ref h0, .ref x0])), (m0, .inl (E.2.1, 32, .inl mf)), (d0, .inl (E.2.1, 32, .inl df)), (x0, .inl (E.2.1, 112, .inl xf)), (h0, .inr (4, [.ref a1, .ref a2])), (a1, .inl (E.2.2.1, 8, .inl st)), (a2, .inl (E.2.2.1, 64, .inl wv)), (c0, .inr (0, [.int (nI bo), .int (nI bh)]))] := hD
    refine zb_eq C false rfl d_Run_reckon_20 rfl (fun hc6 => ?_) (fun hc6 => absurd hc6 (by simp_all))
    refine lv_iconst (v := nI 0) hx hb d_Run_reckon_34 (by decide) ?_
    exact kret (nI 0) [(u0, .inr (3, [.ref e0, .ref s0, .ref h0, .ref c0])), (e0, .inr (1, [.ref eb, .ref es, .int (nI 1)])), (eb, .inl (E.2.1, 1920, .inl f)), (es, .inl (E.2.2.1, 24, .inl sz)), (s0, .inr (5, [.ref m0, .ref d0, .ref h0, .ref x0])), (m0, .inl (E.2.1, 32, .inl mf)), (d0, .inl (E.2.1, 32, .inl df)), (x0, .inl (E.2.1, 112, .inl xf)), (h0, .inr (4, [.ref a1, .ref a2])), (a1, .inl (E.2.2.1, 8, .inl st)), (a2, .inl (E.2.2.1, 64, .inl wv)), (c0, .inr (0, [.int (nI bo), .int (nI bh)]))] _ _ _ _ d_Run_reckon_35 (⟨_, _, _, _, _, _, _, rfl, hB, Or.inr ⟨rfl, rfl⟩⟩) rfl hP hS
  · have hx1 : sz (S.length + 1) = nI x.length ∧ x.length ≤ 80 ∧ lay f ((S.length + 1) * 80) x := rep_top hrep
    have hy1 : sz S.length = nI y.length ∧ y.length ≤ 80 ∧ lay f (S.length * 80) y := rep_top (rep_tail hrep)
    have hr0 : rep f sz S := rep_tail (rep_tail hrep)
    have hlen : S.length + 2 ≤ 24 := hlen
    have hP : va_P E.1 clz [(u0, .inr (3, [.ref e0, .ref s0, .ref h0, .ref c0])), (e0, .inr (1, [.ref eb, .ref es, .int (nI (S.length + 2))])), (eb, .inl (E.2.1, 1920, .inl f)), (es, .inl (E.2.2.1, 24, .inl sz)), (s0, .inr (5, [.ref m0, .ref d0, .ref h0, .ref x0])), (m0, .inl (E.2.1, 32, .inl mf)), (d0, .inl (E.2.1, 32, .inl df)), (x0, .inl (E.2.1, 112, .inl xf)), (h0, .inr (4, [.ref a1, .ref a2])), (a1, .inl (E.2.2.1, 8, .inl st)), (a2, .inl (E.2.2.1, 64, .inl wv)), (c0, .inr (0, [.int (nI bo), .int (nI bh)]))] H := hP
    have hD : va_D A [(u0, .inr (3, [.ref e0, .ref s0, .ref h0, .ref c0])), (e0, .inr (1, [.ref eb, .ref es, .int (nI (S.length + 2))])), (eb, .inl (E.2.1, 1920, .inl f)), (es, .inl (E.2.2.1, 24, .inl sz)), (s0, .inr (5, [.ref m0, .ref d0, .ref h0, .ref x0])), (m0, .inl (E.2.1, 32, .inl mf)), (d0, .inl (E.2.1, 32, .inl df)), (x0, .inl (E.2.1, 112, .inl xf)), (h0, .inr (4, [.ref a1, .ref a2])), (a1, .inl (E.2.2.1, 8, .inl st)), (a2, .inl (E.2.2.1, 64, .inl wv)), (c0, .inr (0, [.int (nI bo), .int (nI bh)]))] := hD
    refine lv_aload_n hx hb d_Run_reckon_0 rfl (lv_at hl 0 rfl) ?_
    refine n_get C fg_Run_12 hP 0 rfl rfl d_Run_reckon_1 ?_
    refine n_get C fg_Run_79 hP 1 rfl rfl d_Run_reckon_4 ?_
    refine lv_iconst (v := nI 1) hx hb d_Run_reckon_7 (by decide) ?_
    refine lv_isub hx hb d_Run_reckon_8 ?_
    refine tope (z := nI (S.length + 1)) ((pk_sub (by omega)).trans (congrArg nI (by omega))) ?_
    refine lv_istore_n (lv' := [(2, .int (nI (S.length + 1))), (0, .ref u0), (1, .int (nI 90))]) hx hb d_Run_reckon_9 rfl hl (by decide) rfl (fun ls hl => ?_)
    refine lv_aload_n hx hb d_Run_reckon_10 rfl (lv_at hl 1 rfl) ?_
    refine n_get C fg_Run_12 hP 0 rfl rfl d_Run_reckon_11 ?_
    refine lv_iload_n hx hb d_Run_reckon_14 rfl (lv_at hl 0 rfl) ?_
    refine lv_iconst (v := nI 1) hx hb d_Run_reckon_15 (by decide) ?_
    refine lv_isub hx hb d_Run_reckon_16 ?_
    refine tope (z := nI S.length) ((pk_sub (by omega)).trans (congrArg nI (by omega))) ?_
    refine cal_I (As := [.int (nI S.length)]) (rest := []) C lk_Run_104 (c_El_isNumber l E e0 eb es (S.length + 2) f sz S.length y.length (by omega) (by omega) hy1.1 hy1.2.1) (by decide) hP hD hS 1 1 rfl rfl [1, 2, 3] rfl (by decide) hl.1 rfl (Nat.le_of_ble_eq_true rfl) d_Run_reckon_17 (fun r7 w1 H locs hp8 hP hD hS => ?_)
    obtain ⟨rfl, rfl⟩ := hp8
    have hP : va_P E.1 clz [(u0, .inr (3, [.ref e0, .ref s0, .ref h0, .ref c0])), (e0, .inr (1, [.ref eb, .ref es, .int (nI (S.length + 2))])), (eb, .inl (E.2.1, 1920, .inl f)), (es, .inl (E.2.2.1, 24, .inl sz)), (s0, .inr (5, [.ref m0, .ref d0, .ref h0, .ref x0])), (m0, .inl (E.2.1, 32, .inl mf)), (d0, .inl (E.2.1, 32, .inl df)), (x0, .inl (E.2.1, 112, .inl xf)), (h0, .inr (4, [.ref a1, .ref a2])), (a1, .inl (E.2.2.1, 8, .inl st)), (a2, .inl (E.2.2.1, 64, .inl wv)), (c0, .inr (0, [.int (nI bo), .int (nI bh)]))] H := hP
    have hD : va_D A [(u0, .inr (3, [.ref e0, .ref s0, .ref h0, .ref c0])), (e0, .inr (1, [.ref eb, .ref es, .int (nI (S.length + 2))])), (eb, .inl (E.2.1, 1920, .inl f)), (es, .inl (E.2.2.1, 24, .inl sz)), (s0, .inr (5, [.ref m0, .ref d0, .ref h0, .ref x0])), (m0, .inl (E.2.1, 32, .inl mf)), (d0, .inl (E.2.1, 32, .inl df)), (x0, .inl (E.2.1, 112, .inl xf)), (h0, .inr (4, [.ref a1, .ref a2])), (a1, .inl (E.2.2.1, 8, .inl st)), (a2, .inl (E.2.2.1, 64, .inl wv)), (c0, .inr (0, [.int (nI bo), .int (nI bh)]))] := hD
    refine zb_eq C (decide (y.length ≤ 4)) rfl d_Run_reckon_20 rfl (fun hc9 => ?_) (fun hc9 => ?_)
    · refine lv_iconst (v := nI 0) hx hb d_Run_reckon_34 (by decide) ?_
      exact kret (nI 0) [(u0, .inr (3, [.ref e0, .ref s0, .ref h0, .ref c0])), (e0, .inr (1, [.ref eb, .ref es, .int (nI (S.length + 2))])), (eb, .inl (E.2.1, 1920, .inl f)), (es, .inl (E.2.2.1, 24, .inl sz)), (s0, .inr (5, [.ref m0, .ref d0, .ref h0, .ref x0])), (m0, .inl (E.2.1, 32, .inl mf)), (d0, .inl (E.2.1, 32, .inl df)), (x0, .inl (E.2.1, 112, .inl xf)), (h0, .inr (4, [.ref a1, .ref a2])), (a1, .inl (E.2.2.1, 8, .inl st)), (a2, .inl (E.2.2.1, 64, .inl wv)), (c0, .inr (0, [.int (nI bo), .int (nI bh)]))] _ _ _ _ d_Run_reckon_35 (⟨_, _, _, _, _, _, _, rfl, hB, Or.inr ⟨by show (if y.length ≤ 4 ∧ x.length ≤ 4 then some (numB (numL y - numL x) :: S) else none) = _; rw [if_neg (fun q => by first | exact absurd q.1 (of_decide_eq_false (by assumption)) | exact absurd q.2 (of_decide_eq_false (by assumption)))], rfl⟩⟩) rfl hP hS
    · refine lv_aload_n hx hb d_Run_reckon_23 rfl (lv_at hl 1 rfl) ?_
      refine n_get C fg_Run_12 hP 0 rfl rfl d_Run_reckon_24 ?_
      refine lv_iload_n hx hb d_Run_reckon_27 rfl (lv_at hl 0 rfl) ?_
      refine cal_I (As := [.int (nI (S.length + 1))]) (rest := []) C lk_Run_104 (c_El_isNumber l E e0 eb es (S.length + 2) f sz (S.length + 1) x.length (by omega) (by omega) hx1.1 hx1.2.1) (by decide) hP hD hS 1 1 rfl rfl [1, 2, 3] rfl (by decide) hl.1 rfl (Nat.le_of_ble_eq_true rfl) d_Run_reckon_28 (fun r10 w1 H locs hp11 hP hD hS => ?_)
      obtain ⟨rfl, rfl⟩ := hp11
      have hP : va_P E.1 clz [(u0, .inr (3, [.ref e0, .ref s0, .ref h0, .ref c0])), (e0, .inr (1, [.ref eb, .ref es, .int (nI (S.length + 2))])), (eb, .inl (E.2.1, 1920, .inl f)), (es, .inl (E.2.2.1, 24, .inl sz)), (s0, .inr (5, [.ref m0, .ref d0, .ref h0, .ref x0])), (m0, .inl (E.2.1, 32, .inl mf)), (d0, .inl (E.2.1, 32, .inl df)), (x0, .inl (E.2.1, 112, .inl xf)), (h0, .inr (4, [.ref a1, .ref a2])), (a1, .inl (E.2.2.1, 8, .inl st)), (a2, .inl (E.2.2.1, 64, .inl wv)), (c0, .inr (0, [.int (nI bo), .int (nI bh)]))] H := hP
      have hD : va_D A [(u0, .inr (3, [.ref e0, .ref s0, .ref h0, .ref c0])), (e0, .inr (1, [.ref eb, .ref es, .int (nI (S.length + 2))])), (eb, .inl (E.2.1, 1920, .inl f)), (es, .inl (E.2.2.1, 24, .inl sz)), (s0, .inr (5, [.ref m0, .ref d0, .ref h0, .ref x0])), (m0, .inl (E.2.1, 32, .inl mf)), (d0, .inl (E.2.1, 32, .inl df)), (x0, .inl (E.2.1, 112, .inl xf)), (h0, .inr (4, [.ref a1, .ref a2])), (a1, .inl (E.2.2.1, 8, .inl st)), (a2, .inl (E.2.2.1, 64, .inl wv)), (c0, .inr (0, [.int (nI bo), .int (nI bh)]))] := hD
      refine zb_ne C (decide (x.length ≤ 4)) rfl d_Run_reckon_31 rfl (fun hc12 => ?_) (fun hc12 => ?_)
      · refine lv_aload_n hx hb d_Run_reckon_36 rfl (lv_at hl 1 rfl) ?_
        refine n_get C fg_Run_12 hP 0 rfl rfl d_Run_reckon_37 ?_
        refine lv_iload_n hx hb d_Run_reckon_40 rfl (lv_at hl 0 rfl) ?_
        refine lv_iconst (v := nI 1) hx hb d_Run_reckon_41 (by decide) ?_
        refine lv_isub hx hb d_Run_reckon_42 ?_
        refine tope (z := nI S.length) ((pk_sub (by omega)).trans (congrArg nI (by omega))) ?_
        refine cal_I (As := [.int (nI S.length)]) (rest := []) C lk_Run_107 (c_El_number l E e0 eb es (S.length + 2) f sz S.length y (by omega) (by omega) hy1.1 hy1.2.1 hy1.2.2 (of_decide_eq_true (by assumption))) (by decide) hP hD hS 1 1 rfl rfl [1, 2, 3] rfl (by decide) hl.1 rfl (Nat.le_of_ble_eq_true rfl) d_Run_reckon_43 (fun r13 w1 H locs hp14 hP hD hS => ?_)
        obtain ⟨rfl, rfl⟩ := hp14
        have hP : va_P E.1 clz [(u0, .inr (3, [.ref e0, .ref s0, .ref h0, .ref c0])), (e0, .inr (1, [.ref eb, .ref es, .int (nI (S.length + 2))])), (eb, .inl (E.2.1, 1920, .inl f)), (es, .inl (E.2.2.1, 24, .inl sz)), (s0, .inr (5, [.ref m0, .ref d0, .ref h0, .ref x0])), (m0, .inl (E.2.1, 32, .inl mf)), (d0, .inl (E.2.1, 32, .inl df)), (x0, .inl (E.2.1, 112, .inl xf)), (h0, .inr (4, [.ref a1, .ref a2])), (a1, .inl (E.2.2.1, 8, .inl st)), (a2, .inl (E.2.2.1, 64, .inl wv)), (c0, .inr (0, [.int (nI bo), .int (nI bh)]))] H := hP
        have hD : va_D A [(u0, .inr (3, [.ref e0, .ref s0, .ref h0, .ref c0])), (e0, .inr (1, [.ref eb, .ref es, .int (nI (S.length + 2))])), (eb, .inl (E.2.1, 1920, .inl f)), (es, .inl (E.2.2.1, 24, .inl sz)), (s0, .inr (5, [.ref m0, .ref d0, .ref h0, .ref x0])), (m0, .inl (E.2.1, 32, .inl mf)), (d0, .inl (E.2.1, 32, .inl df)), (x0, .inl (E.2.1, 112, .inl xf)), (h0, .inr (4, [.ref a1, .ref a2])), (a1, .inl (E.2.2.1, 8, .inl st)), (a2, .inl (E.2.2.1, 64, .inl wv)), (c0, .inr (0, [.int (nI bo), .int (nI bh)]))] := hD
        refine lv_istore_n (lv' := [(3, .int (numL y)), (2, .int (nI (S.length + 1))), (0, .ref u0), (1, .int (nI 90))]) hx hb d_Run_reckon_46 rfl hl (by decide) rfl (fun ls hl => ?_)
        refine lv_aload_n hx hb d_Run_reckon_47 rfl (lv_at hl 2 rfl) ?_
        refine n_get C fg_Run_12 hP 0 rfl rfl d_Run_reckon_48 ?_
        refine lv_iload_n hx hb d_Run_reckon_51 rfl (lv_at hl 1 rfl) ?_
        refine cal_I (As := [.int (nI (S.length + 1))]) (rest := []) C lk_Run_107 (c_El_number l E e0 eb es (S.length + 2) f sz (S.length + 1) x (by omega) (by omega) hx1.1 hx1.2.1 hx1.2.2 (of_decide_eq_true (by assumption))) (by decide) hP hD hS 1 1 rfl rfl [1, 2, 3] rfl (by decide) hl.1 rfl (Nat.le_of_ble_eq_true rfl) d_Run_reckon_52 (fun r15 w1 H locs hp16 hP hD hS => ?_)
        obtain ⟨rfl, rfl⟩ := hp16
        have hP : va_P E.1 clz [(u0, .inr (3, [.ref e0, .ref s0, .ref h0, .ref c0])), (e0, .inr (1, [.ref eb, .ref es, .int (nI (S.length + 2))])), (eb, .inl (E.2.1, 1920, .inl f)), (es, .inl (E.2.2.1, 24, .inl sz)), (s0, .inr (5, [.ref m0, .ref d0, .ref h0, .ref x0])), (m0, .inl (E.2.1, 32, .inl mf)), (d0, .inl (E.2.1, 32, .inl df)), (x0, .inl (E.2.1, 112, .inl xf)), (h0, .inr (4, [.ref a1, .ref a2])), (a1, .inl (E.2.2.1, 8, .inl st)), (a2, .inl (E.2.2.1, 64, .inl wv)), (c0, .inr (0, [.int (nI bo), .int (nI bh)]))] H := hP
        have hD : va_D A [(u0, .inr (3, [.ref e0, .ref s0, .ref h0, .ref c0])), (e0, .inr (1, [.ref eb, .ref es, .int (nI (S.length + 2))])), (eb, .inl (E.2.1, 1920, .inl f)), (es, .inl (E.2.2.1, 24, .inl sz)), (s0, .inr (5, [.ref m0, .ref d0, .ref h0, .ref x0])), (m0, .inl (E.2.1, 32, .inl mf)), (d0, .inl (E.2.1, 32, .inl df)), (x0, .inl (E.2.1, 112, .inl xf)), (h0, .inr (4, [.ref a1, .ref a2])), (a1, .inl (E.2.2.1, 8, .inl st)), (a2, .inl (E.2.2.1, 64, .inl wv)), (c0, .inr (0, [.int (nI bo), .int (nI bh)]))] := hD
        refine lv_istore (lv' := [(4, .int (numL x)), (3, .int (numL y)), (2, .int (nI (S.length + 1))), (0, .ref u0), (1, .int (nI 90))]) hx hb d_Run_reckon_55 hl (by decide) rfl (fun ls hl => ?_)
        refine lv_iload_n hx hb d_Run_reckon_57 rfl (lv_at hl 4 rfl) ?_
        refine lv_bipush (v := nI 91) hx hb d_Run_reckon_58 (by decide) ?_
        refine j_ne C 90 91 rfl rfl (by decide) (by decide) d_Run_reckon_60 rfl (fun hc17 => ?_) (fun hc17 => absurd hc17 (by decide))
        refine lv_aload_n hx hb d_Run_reckon_83 rfl (lv_at hl 3 rfl) ?_
        refine n_get C fg_Run_12 hP 0 rfl rfl d_Run_reckon_84 ?_
        refine lv_iconst (v := nI 2) hx hb d_Run_reckon_87 (by decide) ?_
        refine lv_iload_n hx hb d_Run_reckon_88 rfl (lv_at hl 4 rfl) ?_
        refine lv_bipush (v := nI 89) hx hb d_Run_reckon_89 (by decide) ?_
        refine j_ne C 90 89 rfl rfl (by decide) (by decide) d_Run_reckon_91 rfl (fun hc18 => ?_) (fun hc18 => absurd hc18 (by decide))
        refine lv_iload_n hx hb d_Run_reckon_101 rfl (lv_at hl 1 rfl) ?_
        refine lv_iload hx hb d_Run_reckon_102 (lv_at hl 0 rfl) ?_
        refine lv_isub hx hb d_Run_reckon_104 ?_
        refine cal_I (As := [.int (nI 2), .int ((numL y) - (numL x))]) (rest := []) C lk_Run_131 (c_El_replace l E e0 eb es (S.length + 2) f sz 2 ((numL y) - (numL x)) (by omega) (by omega) (by omega)) (by decide) hP hD hS 1 1 rfl rfl [1, 2, 3] rfl (by decide) hl.1 rfl (Nat.le_of_ble_eq_true rfl) d_Run_reckon_105 (fun r19 w1 H locs hp20 hP hD hS => ?_)
        obtain ⟨rfl, rfl⟩ := hp20
        have hP : va_P E.1 clz [(u0, .inr (3, [.ref e0, .ref s0, .ref h0, .ref c0])), (e0, .inr (1, [.ref eb, .ref es, .int (nI ((S.length + 2) - 2 + 1))])), (eb, .inl (E.2.1, 1920, .inl (pn4 f (((S.length + 2) - 2) * 80) ((numL y) - (numL x))))), (es, .inl (E.2.2.1, 24, .inl (upd sz ((S.length + 2) - 2) (pnz ((numL y) - (numL x)))))), (s0, .inr (5, [.ref m0, .ref d0, .ref h0, .ref x0])), (m0, .inl (E.2.1, 32, .inl mf)), (d0, .inl (E.2.1, 32, .inl df)), (x0, .inl (E.2.1, 112, .inl xf)), (h0, .inr (4, [.ref a1, .ref a2])), (a1, .inl (E.2.2.1, 8, .inl st)), (a2, .inl (E.2.2.1, 64, .inl wv)), (c0, .inr (0, [.int (nI bo), .int (nI bh)]))] H := hP
        have hD : va_D A [(u0, .inr (3, [.ref e0, .ref s0, .ref h0, .ref c0])), (e0, .inr (1, [.ref eb, .ref es, .int (nI ((S.length + 2) - 2 + 1))])), (eb, .inl (E.2.1, 1920, .inl (pn4 f (((S.length + 2) - 2) * 80) ((numL y) - (numL x))))), (es, .inl (E.2.2.1, 24, .inl (upd sz ((S.length + 2) - 2) (pnz ((numL y) - (numL x)))))), (s0, .inr (5, [.ref m0, .ref d0, .ref h0, .ref x0])), (m0, .inl (E.2.1, 32, .inl mf)), (d0, .inl (E.2.1, 32, .inl df)), (x0, .inl (E.2.1, 112, .inl xf)), (h0, .inr (4, [.ref a1, .ref a2])), (a1, .inl (E.2.2.1, 8, .inl st)), (a2, .inl (E.2.2.1, 64, .inl wv)), (c0, .inr (0, [.int (nI bo), .int (nI bh)]))] := hD
        exact kret (b2 true) [(u0, .inr (3, [.ref e0, .ref s0, .ref h0, .ref c0])), (e0, .inr (1, [.ref eb, .ref es, .int (nI ((S.length + 2) - 2 + 1))])), (eb, .inl (E.2.1, 1920, .inl (pn4 f (((S.length + 2) - 2) * 80) ((numL y) - (numL x))))), (es, .inl (E.2.2.1, 24, .inl (upd sz ((S.length + 2) - 2) (pnz ((numL y) - (numL x)))))), (s0, .inr (5, [.ref m0, .ref d0, .ref h0, .ref x0])), (m0, .inl (E.2.1, 32, .inl mf)), (d0, .inl (E.2.1, 32, .inl df)), (x0, .inl (E.2.1, 112, .inl xf)), (h0, .inr (4, [.ref a1, .ref a2])), (a1, .inl (E.2.2.1, 8, .inl st)), (a2, .inl (E.2.2.1, 64, .inl wv)), (c0, .inr (0, [.int (nI bo), .int (nI bh)]))] _ _ _ _ d_Run_reckon_108 (⟨_, _, _, _, _, _, _, rfl, fB_pn4 hB, Or.inl ⟨(numB (numL y - numL x) :: S), by show (if y.length ≤ 4 ∧ x.length ≤ 4 then some (numB (numL y - numL x) :: S) else none) = _; rw [if_pos ⟨of_decide_eq_true (by assumption), of_decide_eq_true (by assumption)⟩], rfl, by first | rfl | (simp only [List.length_cons]; omega) | (simp only [List.length_cons]), rep_num hr0 (by omega), by first | (simp only [List.length_cons]; omega) | (simp only [List.length_cons]) | omega⟩⟩) rfl hP hS
      · refine lv_iconst (v := nI 0) hx hb d_Run_reckon_34 (by decide) ?_
        exact kret (nI 0) [(u0, .inr (3, [.ref e0, .ref s0, .ref h0, .ref c0])), (e0, .inr (1, [.ref eb, .ref es, .int (nI (S.length + 2))])), (eb, .inl (E.2.1, 1920, .inl f)), (es, .inl (E.2.2.1, 24, .inl sz)), (s0, .inr (5, [.ref m0, .ref d0, .ref h0, .ref x0])), (m0, .inl (E.2.1, 32, .inl mf)), (d0, .inl (E.2.1, 32, .inl df)), (x0, .inl (E.2.1, 112, .inl xf)), (h0, .inr (4, [.ref a1, .ref a2])), (a1, .inl (E.2.2.1, 8, .inl st)), (a2, .inl (E.2.2.1, 64, .inl wv)), (c0, .inr (0, [.int (nI bo), .int (nI bh)]))] _ _ _ _ d_Run_reckon_35 (⟨_, _, _, _, _, _, _, rfl, hB, Or.inr ⟨by show (if y.length ≤ 4 ∧ x.length ≤ 4 then some (numB (numL y - numL x) :: S) else none) = _; rw [if_neg (fun q => by first | exact absurd q.1 (of_decide_eq_false (by assumption)) | exact absurd q.2 (of_decide_eq_false (by assumption)))], rfl⟩⟩) rfl hP hS

set_option maxHeartbeats 4000000 in
set_option maxRecDepth 100000 in
theorem c_Run_reckon91 (l : Launch) (E : En) (u0 e0 eb es s0 m0 d0 x0 h0 a1 a2 c0 bo bh : Nat) (mf f sz df xf st wv : Nat → Int32) (S : Stk) (msg : Byl) (hrep : rep f sz S) (hB : fB f) (hBm : fB mf) (hlen : S.length ≤ 24) (hm : lay mf 0 msg) (hm32 : msg.length = 32) (ht : Int32) : CtI l y_Run_reckon b_Run_reckon 5 .boolean (rmd 4) E [.ref u0, .int (nI 91)] [(u0, .inr (3, [.ref e0, .ref s0, .ref h0, .ref c0])), (e0, .inr (1, [.ref eb, .ref es, .int (nI S.length)])), (eb, .inl (E.2.1, 1920, .inl f)), (es, .inl (E.2.2.1, 24, .inl sz)), (s0, .inr (5, [.ref m0, .ref d0, .ref h0, .ref x0])), (m0, .inl (E.2.1, 32, .inl mf)), (d0, .inl (E.2.1, 32, .inl df)), (x0, .inl (E.2.1, 112, .inl xf)), (h0, .inr (4, [.ref a1, .ref a2])), (a1, .inl (E.2.2.1, 8, .inl st)), (a2, .inl (E.2.2.1, 64, .inl wv)), (c0, .inr (0, [.int (nI bo), .int (nI bh)]))] (stepP E u0 e0 eb es s0 m0 d0 x0 h0 a1 a2 c0 bo bh mf (actS 91 ht msg S)) := by
  refine CtI.of (by decide) (Nat.le_of_ble_eq_true rfl) (stepP_nar) ?_
  intro p e s m args below meth c A Q H locs ls C hP hD hS hl kret
  have hx := C.1
  have hb := C.2.1
  have hl : lv_has ls 5 [(0, .ref u0), (1, .int (nI 91))] := hl
  rcases S with _ | ⟨x, _ | ⟨y, S⟩⟩
  · have hP : va_P E.1 clz [(u0, .inr (3, [.ref e0, .ref s0, .ref h0, .ref c0])), (e0, .inr (1, [.ref eb, .ref es, .int (nI 0)])), (eb, .inl (E.2.1, 1920, .inl f)), (es, .inl (E.2.2.1, 24, .inl sz)), (s0, .inr (5, [.ref m0, .ref d0, .ref h0, .ref x0])), (m0, .inl (E.2.1, 32, .inl mf)), (d0, .inl (E.2.1, 32, .inl df)), (x0, .inl (E.2.1, 112, .inl xf)), (h0, .inr (4, [.ref a1, .ref a2])), (a1, .inl (E.2.2.1, 8, .inl st)), (a2, .inl (E.2.2.1, 64, .inl wv)), (c0, .inr (0, [.int (nI bo), .int (nI bh)]))] H := hP
    have hD : va_D A [(u0, .inr (3, [.ref e0, .ref s0, .ref h0, .ref c0])), (e0, .inr (1, [.ref eb, .ref es, .int (nI 0)])), (eb, .inl (E.2.1, 1920, .inl f)), (es, .inl (E.2.2.1, 24, .inl sz)), (s0, .inr (5, [.ref m0, .ref d0, .ref h0, .ref x0])), (m0, .inl (E.2.1, 32, .inl mf)), (d0, .inl (E.2.1, 32, .inl df)), (x0, .inl (E.2.1, 112, .inl xf)), (h0, .inr (4, [.ref a1, .ref a2])), (a1, .inl (E.2.2.1, 8, .inl st)), (a2, .inl (E.2.2.1, 64, .inl wv)), (c0, .inr (0, [.int (nI bo), .int (nI bh)]))] := hD
    refine lv_aload_n hx hb d_Run_reckon_0 rfl (lv_at hl 0 rfl) ?_
    refine n_get C fg_Run_12 hP 0 rfl rfl d_Run_reckon_1 ?_
    refine n_get C fg_Run_79 hP 1 rfl rfl d_Run_reckon_4 ?_
    refine lv_iconst (v := nI 1) hx hb d_Run_reckon_7 (by decide) ?_
    refine lv_isub hx hb d_Run_reckon_8 ?_
    refine tope (z := (-1)) (by decide) ?_
    refine lv_istore_n (lv' := [(2, .int (-1)), (0, .ref u0), (1, .int (nI 91))]) hx hb d_Run_reckon_9 rfl hl (by decide) rfl (fun ls hl => ?_)
    refine lv_aload_n hx hb d_Run_reckon_10 rfl (lv_at hl 1 rfl) ?_
    refine n_get C fg_Run_12 hP 0 rfl rfl d_Run_reckon_11 ?_
    refine lv_iload_n hx hb d_Run_reckon_14 rfl (lv_at hl 0 rfl) ?_
    refine lv_iconst (v := nI 1) hx hb d_Run_reckon_15 (by decide) ?_
    refine lv_isub hx hb d_Run_reckon_16 ?_
    refine tope (z := (-2)) (by decide) ?_
    refine cal_I (As := [.int (-2)]) (rest := []) C lk_Run_104 (c_El_isNumber_no l E e0 eb es 0 f sz (-2) (by first | exact hasB_m1 _ | exact hasB_m2 _)) (by decide) hP hD hS 1 1 rfl rfl [1, 2, 3] rfl (by decide) hl.1 rfl (Nat.le_of_ble_eq_true rfl) d_Run_reckon_17 (fun r1 w1 H locs hp2 hP hD hS => ?_)
    obtain ⟨rfl, rfl⟩ := hp2
    have hP : va_P E.1 clz [(u0, .inr (3, [.ref e0, .ref s0, .ref h0, .ref c0])), (e0, .inr (1, [.ref eb, .ref es, .int (nI 0)])), (eb, .inl (E.2.1, 1920, .inl f)), (es, .inl (E.2.2.1, 24, .inl sz)), (s0, .inr (5, [.ref m0, .ref d0, .ref h0, .ref x0])), (m0, .inl (E.2.1, 32, .inl mf)), (d0, .inl (E.2.1, 32, .inl df)), (x0, .inl (E.2.1, 112, .inl xf)), (h0, .inr (4, [.ref a1, .ref a2])), (a1, .inl (E.2.2.1, 8, .inl st)), (a2, .inl (E.2.2.1, 64, .inl wv)), (c0, .inr (0, [.int (nI bo), .int (nI bh)]))] H := hP
    have hD : va_D A [(u0, .inr (3, [.ref e0, .ref s0, .ref h0, .ref c0])), (e0, .inr (1, [.ref eb, .ref es, .int (nI 0)])), (eb, .inl (E.2.1, 1920, .inl f)), (es, .inl (E.2.2.1, 24, .inl sz)), (s0, .inr (5, [.ref m0, .ref d0, .ref h0, .ref x0])), (m0, .inl (E.2.1, 32, .inl mf)), (d0, .inl (E.2.1, 32, .inl df)), (x0, .inl (E.2.1, 112, .inl xf)), (h0, .inr (4, [.ref a1, .ref a2])), (a1, .inl (E.2.2.1, 8, .inl st)), (a2, .inl (E.2.2.1, 64, .inl wv)), (c0, .inr (0, [.int (nI bo), .int (nI bh)]))] := hD
    refine zb_eq C false rfl d_Run_reckon_20 rfl (fun hc3 => ?_) (fun hc3 => absurd hc3 (by simp_all))
    refine lv_iconst (v := nI 0) hx hb d_Run_reckon_34 (by decide) ?_
    exact kret (nI 0) [(u0, .inr (3, [.ref e0, .ref s0, .ref h0, .ref c0])), (e0, .inr (1, [.ref eb, .ref es, .int (nI 0)])), (eb, .inl (E.2.1, 1920, .inl f)), (es, .inl (E.2.2.1, 24, .inl sz)), (s0, .inr (5, [.ref m0, .ref d0, .ref h0, .ref x0])), (m0, .inl (E.2.1, 32, .inl mf)), (d0, .inl (E.2.1, 32, .inl df)), (x0, .inl (E.2.1, 112, .inl xf)), (h0, .inr (4, [.ref a1, .ref a2])), (a1, .inl (E.2.2.1, 8, .inl st)), (a2, .inl (E.2.2.1, 64, .inl wv)), (c0, .inr (0, [.int (nI bo), .int (nI bh)]))] _ _ _ _ d_Run_reckon_35 (⟨_, _, _, _, _, _, _, rfl, hB, Or.inr ⟨rfl, rfl⟩⟩) rfl hP hS
  · have hx1 : sz 0 = nI x.length ∧ x.length ≤ 80 ∧ lay f (0 * 80) x := rep_top hrep
    have hP : va_P E.1 clz [(u0, .inr (3, [.ref e0, .ref s0, .ref h0, .ref c0])), (e0, .inr (1, [.ref eb, .ref es, .int (nI 1)])), (eb, .inl (E.2.1, 1920, .inl f)), (es, .inl (E.2.2.1, 24, .inl sz)), (s0, .inr (5, [.ref m0, .ref d0, .ref h0, .ref x0])), (m0, .inl (E.2.1, 32, .inl mf)), (d0, .inl (E.2.1, 32, .inl df)), (x0, .inl (E.2.1, 112, .inl xf)), (h0, .inr (4, [.ref a1, .ref a2])), (a1, .inl (E.2.2.1, 8, .inl st)), (a2, .inl (E.2.2.1, 64, .inl wv)), (c0, .inr (0, [.int (nI bo), .int (nI bh)]))] H := hP
    have hD : va_D A [(u0, .inr (3, [.ref e0, .ref s0, .ref h0, .ref c0])), (e0, .inr (1, [.ref eb, .ref es, .int (nI 1)])), (eb, .inl (E.2.1, 1920, .inl f)), (es, .inl (E.2.2.1, 24, .inl sz)), (s0, .inr (5, [.ref m0, .ref d0, .ref h0, .ref x0])), (m0, .inl (E.2.1, 32, .inl mf)), (d0, .inl (E.2.1, 32, .inl df)), (x0, .inl (E.2.1, 112, .inl xf)), (h0, .inr (4, [.ref a1, .ref a2])), (a1, .inl (E.2.2.1, 8, .inl st)), (a2, .inl (E.2.2.1, 64, .inl wv)), (c0, .inr (0, [.int (nI bo), .int (nI bh)]))] := hD
    refine lv_aload_n hx hb d_Run_reckon_0 rfl (lv_at hl 0 rfl) ?_
    refine n_get C fg_Run_12 hP 0 rfl rfl d_Run_reckon_1 ?_
    refine n_get C fg_Run_79 hP 1 rfl rfl d_Run_reckon_4 ?_
    refine lv_iconst (v := nI 1) hx hb d_Run_reckon_7 (by decide) ?_
    refine lv_isub hx hb d_Run_reckon_8 ?_
    refine tope (z := nI 0) (pk_sub (by omega)) ?_
    refine lv_istore_n (lv' := [(2, .int (nI 0)), (0, .ref u0), (1, .int (nI 91))]) hx hb d_Run_reckon_9 rfl hl (by decide) rfl (fun ls hl => ?_)
    refine lv_aload_n hx hb d_Run_reckon_10 rfl (lv_at hl 1 rfl) ?_
    refine n_get C fg_Run_12 hP 0 rfl rfl d_Run_reckon_11 ?_
    refine lv_iload_n hx hb d_Run_reckon_14 rfl (lv_at hl 0 rfl) ?_
    refine lv_iconst (v := nI 1) hx hb d_Run_reckon_15 (by decide) ?_
    refine lv_isub hx hb d_Run_reckon_16 ?_
    refine tope (z := (-1)) (by decide) ?_
    refine cal_I (As := [.int (-1)]) (rest := []) C lk_Run_104 (c_El_isNumber_no l E e0 eb es 1 f sz (-1) (by first | exact hasB_m1 _ | exact hasB_m2 _)) (by decide) hP hD hS 1 1 rfl rfl [1, 2, 3] rfl (by decide) hl.1 rfl (Nat.le_of_ble_eq_true rfl) d_Run_reckon_17 (fun r4 w1 H locs hp5 hP hD hS => ?_)
    obtain ⟨rfl, rfl⟩ := hp5
    have hP : va_P E.1 clz [(u0, .inr (3, [.ref e0, .ref s0, .ref h0, .ref c0])), (e0, .inr (1, [.ref eb, .ref es, .int (nI 1)])), (eb, .inl (E.2.1, 1920, .inl f)), (es, .inl (E.2.2.1, 24, .inl sz)), (s0, .inr (5, [.ref m0, .ref d0, .ref h0, .ref x0])), (m0, .inl (E.2.1, 32, .inl mf)), (d0, .inl (E.2.1, 32, .inl df)), (x0, .inl (E.2.1, 112, .inl xf)), (h0, .inr (4, [.ref a1, .ref a2])), (a1, .inl (E.2.2.1, 8, .inl st)), (a2, .inl (E.2.2.1, 64, .inl wv)), (c0, .inr (0, [.int (nI bo), .int (nI bh)]))] H := hP
    have hD : va_D A [(u0, .inr (3, [.ref e0, .ref s0, .ref h0, .ref c0])), (e0, .inr (1, [.ref eb, .ref es, .int (nI 1)])), (eb, .inl (E.2.1, 1920, .inl f)), (es, .inl (E.2.2.1, 24, .inl sz)), (s0, .inr (5, [.ref m0, .ref d0, .ref h0, .ref x0])), (m0, .inl (E.2.1, 32, .inl mf)), (d0, .inl (E.2.1, 32, .inl df)), (x0, .inl (E.2.1, 112, .inl xf)), (h0, .inr (4, [.ref a1, .ref a2])), (a1, .inl (E.2.2.1, 8, .inl st)), (a2, .inl (E.2.2.1, 64, .inl wv)), (c0, .inr (0, [.int (nI bo), .int (nI bh)]))] := hD
    refine zb_eq C false rfl d_Run_reckon_20 rfl (fun hc6 => ?_) (fun hc6 => absurd hc6 (by simp_all))
    refine lv_iconst (v := nI 0) hx hb d_Run_reckon_34 (by decide) ?_
    exact kret (nI 0) [(u0, .inr (3, [.ref e0, .ref s0, .ref h0, .ref c0])), (e0, .inr (1, [.ref eb, .ref es, .int (nI 1)])), (eb, .inl (E.2.1, 1920, .inl f)), (es, .inl (E.2.2.1, 24, .inl sz)), (s0, .inr (5, [.ref m0, .ref d0, .ref h0, .ref x0])), (m0, .inl (E.2.1, 32, .inl mf)), (d0, .inl (E.2.1, 32, .inl df)), (x0, .inl (E.2.1, 112, .inl xf)), (h0, .inr (4, [.ref a1, .ref a2])), (a1, .inl (E.2.2.1, 8, .inl st)), (a2, .inl (E.2.2.1, 64, .inl wv)), (c0, .inr (0, [.int (nI bo), .int (nI bh)]))] _ _ _ _ d_Run_reckon_35 (⟨_, _, _, _, _, _, _, rfl, hB, Or.inr ⟨rfl, rfl⟩⟩) rfl hP hS
  · have hx1 : sz (S.length + 1) = nI x.length ∧ x.length ≤ 80 ∧ lay f ((S.length + 1) * 80) x := rep_top hrep
    have hy1 : sz S.length = nI y.length ∧ y.length ≤ 80 ∧ lay f (S.length * 80) y := rep_top (rep_tail hrep)
    have hr0 : rep f sz S := rep_tail (rep_tail hrep)
    have hlen : S.length + 2 ≤ 24 := hlen
    have hP : va_P E.1 clz [(u0, .inr (3, [.ref e0, .ref s0, .ref h0, .ref c0])), (e0, .inr (1, [.ref eb, .ref es, .int (nI (S.length + 2))])), (eb, .inl (E.2.1, 1920, .inl f)), (es, .inl (E.2.2.1, 24, .inl sz)), (s0, .inr (5, [.ref m0, .ref d0, .ref h0, .ref x0])), (m0, .inl (E.2.1, 32, .inl mf)), (d0, .inl (E.2.1, 32, .inl df)), (x0, .inl (E.2.1, 112, .inl xf)), (h0, .inr (4, [.ref a1, .ref a2])), (a1, .inl (E.2.2.1, 8, .inl st)), (a2, .inl (E.2.2.1, 64, .inl wv)), (c0, .inr (0, [.int (nI bo), .int (nI bh)]))] H := hP
    have hD : va_D A [(u0, .inr (3, [.ref e0, .ref s0, .ref h0, .ref c0])), (e0, .inr (1, [.ref eb, .ref es, .int (nI (S.length + 2))])), (eb, .inl (E.2.1, 1920, .inl f)), (es, .inl (E.2.2.1, 24, .inl sz)), (s0, .inr (5, [.ref m0, .ref d0, .ref h0, .ref x0])), (m0, .inl (E.2.1, 32, .inl mf)), (d0, .inl (E.2.1, 32, .inl df)), (x0, .inl (E.2.1, 112, .inl xf)), (h0, .inr (4, [.ref a1, .ref a2])), (a1, .inl (E.2.2.1, 8, .inl st)), (a2, .inl (E.2.2.1, 64, .inl wv)), (c0, .inr (0, [.int (nI bo), .int (nI bh)]))] := hD
    refine lv_aload_n hx hb d_Run_reckon_0 rfl (lv_at hl 0 rfl) ?_
    refine n_get C fg_Run_12 hP 0 rfl rfl d_Run_reckon_1 ?_
    refine n_get C fg_Run_79 hP 1 rfl rfl d_Run_reckon_4 ?_
    refine lv_iconst (v := nI 1) hx hb d_Run_reckon_7 (by decide) ?_
    refine lv_isub hx hb d_Run_reckon_8 ?_
    refine tope (z := nI (S.length + 1)) ((pk_sub (by omega)).trans (congrArg nI (by omega))) ?_
    refine lv_istore_n (lv' := [(2, .int (nI (S.length + 1))), (0, .ref u0), (1, .int (nI 91))]) hx hb d_Run_reckon_9 rfl hl (by decide) rfl (fun ls hl => ?_)
    refine lv_aload_n hx hb d_Run_reckon_10 rfl (lv_at hl 1 rfl) ?_
    refine n_get C fg_Run_12 hP 0 rfl rfl d_Run_reckon_11 ?_
    refine lv_iload_n hx hb d_Run_reckon_14 rfl (lv_at hl 0 rfl) ?_
    refine lv_iconst (v := nI 1) hx hb d_Run_reckon_15 (by decide) ?_
    refine lv_isub hx hb d_Run_reckon_16 ?_
    refine tope (z := nI S.length) ((pk_sub (by omega)).trans (congrArg nI (by omega))) ?_
    refine cal_I (As := [.int (nI S.length)]) (rest := []) C lk_Run_104 (c_El_isNumber l E e0 eb es (S.length + 2) f sz S.length y.length (by omega) (by omega) hy1.1 hy1.2.1) (by decide) hP hD hS 1 1 rfl rfl [1, 2, 3] rfl (by decide) hl.1 rfl (Nat.le_of_ble_eq_true rfl) d_Run_reckon_17 (fun r7 w1 H locs hp8 hP hD hS => ?_)
    obtain ⟨rfl, rfl⟩ := hp8
    have hP : va_P E.1 clz [(u0, .inr (3, [.ref e0, .ref s0, .ref h0, .ref c0])), (e0, .inr (1, [.ref eb, .ref es, .int (nI (S.length + 2))])), (eb, .inl (E.2.1, 1920, .inl f)), (es, .inl (E.2.2.1, 24, .inl sz)), (s0, .inr (5, [.ref m0, .ref d0, .ref h0, .ref x0])), (m0, .inl (E.2.1, 32, .inl mf)), (d0, .inl (E.2.1, 32, .inl df)), (x0, .inl (E.2.1, 112, .inl xf)), (h0, .inr (4, [.ref a1, .ref a2])), (a1, .inl (E.2.2.1, 8, .inl st)), (a2, .inl (E.2.2.1, 64, .inl wv)), (c0, .inr (0, [.int (nI bo), .int (nI bh)]))] H := hP
    have hD : va_D A [(u0, .inr (3, [.ref e0, .ref s0, .ref h0, .ref c0])), (e0, .inr (1, [.ref eb, .ref es, .int (nI (S.length + 2))])), (eb, .inl (E.2.1, 1920, .inl f)), (es, .inl (E.2.2.1, 24, .inl sz)), (s0, .inr (5, [.ref m0, .ref d0, .ref h0, .ref x0])), (m0, .inl (E.2.1, 32, .inl mf)), (d0, .inl (E.2.1, 32, .inl df)), (x0, .inl (E.2.1, 112, .inl xf)), (h0, .inr (4, [.ref a1, .ref a2])), (a1, .inl (E.2.2.1, 8, .inl st)), (a2, .inl (E.2.2.1, 64, .inl wv)), (c0, .inr (0, [.int (nI bo), .int (nI bh)]))] := hD
    refine zb_eq C (decide (y.length ≤ 4)) rfl d_Run_reckon_20 rfl (fun hc9 => ?_) (fun hc9 => ?_)
    · refine lv_iconst (v := nI 0) hx hb d_Run_reckon_34 (by decide) ?_
      exact kret (nI 0) [(u0, .inr (3, [.ref e0, .ref s0, .ref h0, .ref c0])), (e0, .inr (1, [.ref eb, .ref es, .int (nI (S.length + 2))])), (eb, .inl (E.2.1, 1920, .inl f)), (es, .inl (E.2.2.1, 24, .inl sz)), (s0, .inr (5, [.ref m0, .ref d0, .ref h0, .ref x0])), (m0, .inl (E.2.1, 32, .inl mf)), (d0, .inl (E.2.1, 32, .inl df)), (x0, .inl (E.2.1, 112, .inl xf)), (h0, .inr (4, [.ref a1, .ref a2])), (a1, .inl (E.2.2.1, 8, .inl st)), (a2, .inl (E.2.2.1, 64, .inl wv)), (c0, .inr (0, [.int (nI bo), .int (nI bh)]))] _ _ _ _ d_Run_reckon_35 (⟨_, _, _, _, _, _, _, rfl, hB, Or.inr ⟨by show (if y.length ≤ 4 ∧ x.length ≤ 4 then some (numB (b2 (decide (numL y < numL x))) :: S) else none) = _; rw [if_neg (fun q => by first | exact absurd q.1 (of_decide_eq_false (by assumption)) | exact absurd q.2 (of_decide_eq_false (by assumption)))], rfl⟩⟩) rfl hP hS
    · refine lv_aload_n hx hb d_Run_reckon_23 rfl (lv_at hl 1 rfl) ?_
      refine n_get C fg_Run_12 hP 0 rfl rfl d_Run_reckon_24 ?_
      refine lv_iload_n hx hb d_Run_reckon_27 rfl (lv_at hl 0 rfl) ?_
      refine cal_I (As := [.int (nI (S.length + 1))]) (rest := []) C lk_Run_104 (c_El_isNumber l E e0 eb es (S.length + 2) f sz (S.length + 1) x.length (by omega) (by omega) hx1.1 hx1.2.1) (by decide) hP hD hS 1 1 rfl rfl [1, 2, 3] rfl (by decide) hl.1 rfl (Nat.le_of_ble_eq_true rfl) d_Run_reckon_28 (fun r10 w1 H locs hp11 hP hD hS => ?_)
      obtain ⟨rfl, rfl⟩ := hp11
      have hP : va_P E.1 clz [(u0, .inr (3, [.ref e0, .ref s0, .ref h0, .ref c0])), (e0, .inr (1, [.ref eb, .ref es, .int (nI (S.length + 2))])), (eb, .inl (E.2.1, 1920, .inl f)), (es, .inl (E.2.2.1, 24, .inl sz)), (s0, .inr (5, [.ref m0, .ref d0, .ref h0, .ref x0])), (m0, .inl (E.2.1, 32, .inl mf)), (d0, .inl (E.2.1, 32, .inl df)), (x0, .inl (E.2.1, 112, .inl xf)), (h0, .inr (4, [.ref a1, .ref a2])), (a1, .inl (E.2.2.1, 8, .inl st)), (a2, .inl (E.2.2.1, 64, .inl wv)), (c0, .inr (0, [.int (nI bo), .int (nI bh)]))] H := hP
      have hD : va_D A [(u0, .inr (3, [.ref e0, .ref s0, .ref h0, .ref c0])), (e0, .inr (1, [.ref eb, .ref es, .int (nI (S.length + 2))])), (eb, .inl (E.2.1, 1920, .inl f)), (es, .inl (E.2.2.1, 24, .inl sz)), (s0, .inr (5, [.ref m0, .ref d0, .ref h0, .ref x0])), (m0, .inl (E.2.1, 32, .inl mf)), (d0, .inl (E.2.1, 32, .inl df)), (x0, .inl (E.2.1, 112, .inl xf)), (h0, .inr (4, [.ref a1, .ref a2])), (a1, .inl (E.2.2.1, 8, .inl st)), (a2, .inl (E.2.2.1, 64, .inl wv)), (c0, .inr (0, [.int (nI bo), .int (nI bh)]))] := hD
      refine zb_ne C (decide (x.length ≤ 4)) rfl d_Run_reckon_31 rfl (fun hc12 => ?_) (fun hc12 => ?_)
      · refine lv_aload_n hx hb d_Run_reckon_36 rfl (lv_at hl 1 rfl) ?_
        refine n_get C fg_Run_12 hP 0 rfl rfl d_Run_reckon_37 ?_
        refine lv_iload_n hx hb d_Run_reckon_40 rfl (lv_at hl 0 rfl) ?_
        refine lv_iconst (v := nI 1) hx hb d_Run_reckon_41 (by decide) ?_
        refine lv_isub hx hb d_Run_reckon_42 ?_
        refine tope (z := nI S.length) ((pk_sub (by omega)).trans (congrArg nI (by omega))) ?_
        refine cal_I (As := [.int (nI S.length)]) (rest := []) C lk_Run_107 (c_El_number l E e0 eb es (S.length + 2) f sz S.length y (by omega) (by omega) hy1.1 hy1.2.1 hy1.2.2 (of_decide_eq_true (by assumption))) (by decide) hP hD hS 1 1 rfl rfl [1, 2, 3] rfl (by decide) hl.1 rfl (Nat.le_of_ble_eq_true rfl) d_Run_reckon_43 (fun r13 w1 H locs hp14 hP hD hS => ?_)
        obtain ⟨rfl, rfl⟩ := hp14
        have hP : va_P E.1 clz [(u0, .inr (3, [.ref e0, .ref s0, .ref h0, .ref c0])), (e0, .inr (1, [.ref eb, .ref es, .int (nI (S.length + 2))])), (eb, .inl (E.2.1, 1920, .inl f)), (es, .inl (E.2.2.1, 24, .inl sz)), (s0, .inr (5, [.ref m0, .ref d0, .ref h0, .ref x0])), (m0, .inl (E.2.1, 32, .inl mf)), (d0, .inl (E.2.1, 32, .inl df)), (x0, .inl (E.2.1, 112, .inl xf)), (h0, .inr (4, [.ref a1, .ref a2])), (a1, .inl (E.2.2.1, 8, .inl st)), (a2, .inl (E.2.2.1, 64, .inl wv)), (c0, .inr (0, [.int (nI bo), .int (nI bh)]))] H := hP
        have hD : va_D A [(u0, .inr (3, [.ref e0, .ref s0, .ref h0, .ref c0])), (e0, .inr (1, [.ref eb, .ref es, .int (nI (S.length + 2))])), (eb, .inl (E.2.1, 1920, .inl f)), (es, .inl (E.2.2.1, 24, .inl sz)), (s0, .inr (5, [.ref m0, .ref d0, .ref h0, .ref x0])), (m0, .inl (E.2.1, 32, .inl mf)), (d0, .inl (E.2.1, 32, .inl df)), (x0, .inl (E.2.1, 112, .inl xf)), (h0, .inr (4, [.ref a1, .ref a2])), (a1, .inl (E.2.2.1, 8, .inl st)), (a2, .inl (E.2.2.1, 64, .inl wv)), (c0, .inr (0, [.int (nI bo), .int (nI bh)]))] := hD
        refine lv_istore_n (lv' := [(3, .int (numL y)), (2, .int (nI (S.length + 1))), (0, .ref u0), (1, .int (nI 91))]) hx hb d_Run_reckon_46 rfl hl (by decide) rfl (fun ls hl => ?_)
        refine lv_aload_n hx hb d_Run_reckon_47 rfl (lv_at hl 2 rfl) ?_
        refine n_get C fg_Run_12 hP 0 rfl rfl d_Run_reckon_48 ?_
        refine lv_iload_n hx hb d_Run_reckon_51 rfl (lv_at hl 1 rfl) ?_
        refine cal_I (As := [.int (nI (S.length + 1))]) (rest := []) C lk_Run_107 (c_El_number l E e0 eb es (S.length + 2) f sz (S.length + 1) x (by omega) (by omega) hx1.1 hx1.2.1 hx1.2.2 (of_decide_eq_true (by assumption))) (by decide) hP hD hS 1 1 rfl rfl [1, 2, 3] rfl (by decide) hl.1 rfl (Nat.le_of_ble_eq_true rfl) d_Run_reckon_52 (fun r15 w1 H locs hp16 hP hD hS => ?_)
        obtain ⟨rfl, rfl⟩ := hp16
        have hP : va_P E.1 clz [(u0, .inr (3, [.ref e0, .ref s0, .ref h0, .ref c0])), (e0, .inr (1, [.ref eb, .ref es, .int (nI (S.length + 2))])), (eb, .inl (E.2.1, 1920, .inl f)), (es, .inl (E.2.2.1, 24, .inl sz)), (s0, .inr (5, [.ref m0, .ref d0, .ref h0, .ref x0])), (m0, .inl (E.2.1, 32, .inl mf)), (d0, .inl (E.2.1, 32, .inl df)), (x0, .inl (E.2.1, 112, .inl xf)), (h0, .inr (4, [.ref a1, .ref a2])), (a1, .inl (E.2.2.1, 8, .inl st)), (a2, .inl (E.2.2.1, 64, .inl wv)), (c0, .inr (0, [.int (nI bo), .int (nI bh)]))] H := hP
        have hD : va_D A [(u0, .inr (3, [.ref e0, .ref s0, .ref h0, .ref c0])), (e0, .inr (1, [.ref eb, .ref es, .int (nI (S.length + 2))])), (eb, .inl (E.2.1, 1920, .inl f)), (es, .inl (E.2.2.1, 24, .inl sz)), (s0, .inr (5, [.ref m0, .ref d0, .ref h0, .ref x0])), (m0, .inl (E.2.1, 32, .inl mf)), (d0, .inl (E.2.1, 32, .inl df)), (x0, .inl (E.2.1, 112, .inl xf)), (h0, .inr (4, [.ref a1, .ref a2])), (a1, .inl (E.2.2.1, 8, .inl st)), (a2, .inl (E.2.2.1, 64, .inl wv)), (c0, .inr (0, [.int (nI bo), .int (nI bh)]))] := hD
        refine lv_istore (lv' := [(4, .int (numL x)), (3, .int (numL y)), (2, .int (nI (S.length + 1))), (0, .ref u0), (1, .int (nI 91))]) hx hb d_Run_reckon_55 hl (by decide) rfl (fun ls hl => ?_)
        refine lv_iload_n hx hb d_Run_reckon_57 rfl (lv_at hl 4 rfl) ?_
        refine lv_bipush (v := nI 91) hx hb d_Run_reckon_58 (by decide) ?_
        refine j_ne C 91 91 rfl rfl (by decide) (by decide) d_Run_reckon_60 rfl (fun hc17 => absurd hc17 (by decide)) (fun hc17 => ?_)
        refine lv_aload_n hx hb d_Run_reckon_63 rfl (lv_at hl 3 rfl) ?_
        refine n_get C fg_Run_12 hP 0 rfl rfl d_Run_reckon_64 ?_
        refine lv_iconst (v := nI 2) hx hb d_Run_reckon_67 (by decide) ?_
        refine lv_iload_n hx hb d_Run_reckon_68 rfl (lv_at hl 1 rfl) ?_
        refine lv_iload hx hb d_Run_reckon_69 (lv_at hl 0 rfl) ?_
        refine lv_icmp_ge hx hb d_Run_reckon_71 rfl (fun hc18 => ?_) (fun hc18 => ?_)
        · refine lv_iconst (v := nI 0) hx hb d_Run_reckon_78 (by decide) ?_
          refine cal_I (As := [.int (nI 2), .int (b2 false)]) (rest := []) C lk_Run_111 (c_El_truth l E e0 eb es (S.length + 2) f sz 2 false (by omega) (by omega) (by omega)) (by decide) hP hD hS 1 1 rfl rfl [1, 2, 3] rfl (by decide) hl.1 rfl (Nat.le_of_ble_eq_true rfl) d_Run_reckon_79 (fun r19 w1 H locs hp20 hP hD hS => ?_)
          obtain ⟨rfl, rfl⟩ := hp20
          have hP : va_P E.1 clz [(u0, .inr (3, [.ref e0, .ref s0, .ref h0, .ref c0])), (e0, .inr (1, [.ref eb, .ref es, .int (nI ((S.length + 2) - 2 + 1))])), (eb, .inl (E.2.1, 1920, .inl (pn4 f (((S.length + 2) - 2) * 80) (b2 false)))), (es, .inl (E.2.2.1, 24, .inl (upd sz ((S.length + 2) - 2) (pnz (b2 false))))), (s0, .inr (5, [.ref m0, .ref d0, .ref h0, .ref x0])), (m0, .inl (E.2.1, 32, .inl mf)), (d0, .inl (E.2.1, 32, .inl df)), (x0, .inl (E.2.1, 112, .inl xf)), (h0, .inr (4, [.ref a1, .ref a2])), (a1, .inl (E.2.2.1, 8, .inl st)), (a2, .inl (E.2.2.1, 64, .inl wv)), (c0, .inr (0, [.int (nI bo), .int (nI bh)]))] H := hP
          have hD : va_D A [(u0, .inr (3, [.ref e0, .ref s0, .ref h0, .ref c0])), (e0, .inr (1, [.ref eb, .ref es, .int (nI ((S.length + 2) - 2 + 1))])), (eb, .inl (E.2.1, 1920, .inl (pn4 f (((S.length + 2) - 2) * 80) (b2 false)))), (es, .inl (E.2.2.1, 24, .inl (upd sz ((S.length + 2) - 2) (pnz (b2 false))))), (s0, .inr (5, [.ref m0, .ref d0, .ref h0, .ref x0])), (m0, .inl (E.2.1, 32, .inl mf)), (d0, .inl (E.2.1, 32, .inl df)), (x0, .inl (E.2.1, 112, .inl xf)), (h0, .inr (4, [.ref a1, .ref a2])), (a1, .inl (E.2.2.1, 8, .inl st)), (a2, .inl (E.2.2.1, 64, .inl wv)), (c0, .inr (0, [.int (nI bo), .int (nI bh)]))] := hD
          exact kret (b2 true) [(u0, .inr (3, [.ref e0, .ref s0, .ref h0, .ref c0])), (e0, .inr (1, [.ref eb, .ref es, .int (nI ((S.length + 2) - 2 + 1))])), (eb, .inl (E.2.1, 1920, .inl (pn4 f (((S.length + 2) - 2) * 80) (b2 false)))), (es, .inl (E.2.2.1, 24, .inl (upd sz ((S.length + 2) - 2) (pnz (b2 false))))), (s0, .inr (5, [.ref m0, .ref d0, .ref h0, .ref x0])), (m0, .inl (E.2.1, 32, .inl mf)), (d0, .inl (E.2.1, 32, .inl df)), (x0, .inl (E.2.1, 112, .inl xf)), (h0, .inr (4, [.ref a1, .ref a2])), (a1, .inl (E.2.2.1, 8, .inl st)), (a2, .inl (E.2.2.1, 64, .inl wv)), (c0, .inr (0, [.int (nI bo), .int (nI bh)]))] _ _ _ _ d_Run_reckon_82 (⟨_, _, _, _, _, _, _, rfl, fB_pn4 hB, Or.inl ⟨(numB (b2 false) :: S), by show (if y.length ≤ 4 ∧ x.length ≤ 4 then some (numB (b2 (decide (numL y < numL x))) :: S) else none) = _; rw [if_pos ⟨of_decide_eq_true (by assumption), of_decide_eq_true (by assumption)⟩, decide_eq_false (Int32.not_lt.mpr hc18)], rfl, by first | rfl | (simp only [List.length_cons]; omega) | (simp only [List.length_cons]), rep_num hr0 (by omega), by first | (simp only [List.length_cons]; omega) | (simp only [List.length_cons]) | omega⟩⟩) rfl hP hS
        · refine lv_iconst (v := nI 1) hx hb d_Run_reckon_74 (by decide) ?_
          refine lv_goto hx hb d_Run_reckon_75 rfl ?_
          refine cal_I (As := [.int (nI 2), .int (b2 true)]) (rest := []) C lk_Run_111 (c_El_truth l E e0 eb es (S.length + 2) f sz 2 true (by omega) (by omega) (by omega)) (by decide) hP hD hS 1 1 rfl rfl [1, 2, 3] rfl (by decide) hl.1 rfl (Nat.le_of_ble_eq_true rfl) d_Run_reckon_79 (fun r21 w1 H locs hp22 hP hD hS => ?_)
          obtain ⟨rfl, rfl⟩ := hp22
          have hP : va_P E.1 clz [(u0, .inr (3, [.ref e0, .ref s0, .ref h0, .ref c0])), (e0, .inr (1, [.ref eb, .ref es, .int (nI ((S.length + 2) - 2 + 1))])), (eb, .inl (E.2.1, 1920, .inl (pn4 f (((S.length + 2) - 2) * 80) (b2 true)))), (es, .inl (E.2.2.1, 24, .inl (upd sz ((S.length + 2) - 2) (pnz (b2 true))))), (s0, .inr (5, [.ref m0, .ref d0, .ref h0, .ref x0])), (m0, .inl (E.2.1, 32, .inl mf)), (d0, .inl (E.2.1, 32, .inl df)), (x0, .inl (E.2.1, 112, .inl xf)), (h0, .inr (4, [.ref a1, .ref a2])), (a1, .inl (E.2.2.1, 8, .inl st)), (a2, .inl (E.2.2.1, 64, .inl wv)), (c0, .inr (0, [.int (nI bo), .int (nI bh)]))] H := hP
          have hD : va_D A [(u0, .inr (3, [.ref e0, .ref s0, .ref h0, .ref c0])), (e0, .inr (1, [.ref eb, .ref es, .int (nI ((S.length + 2) - 2 + 1))])), (eb, .inl (E.2.1, 1920, .inl (pn4 f (((S.length + 2) - 2) * 80) (b2 true)))), (es, .inl (E.2.2.1, 24, .inl (upd sz ((S.length + 2) - 2) (pnz (b2 true))))), (s0, .inr (5, [.ref m0, .ref d0, .ref h0, .ref x0])), (m0, .inl (E.2.1, 32, .inl mf)), (d0, .inl (E.2.1, 32, .inl df)), (x0, .inl (E.2.1, 112, .inl xf)), (h0, .inr (4, [.ref a1, .ref a2])), (a1, .inl (E.2.2.1, 8, .inl st)), (a2, .inl (E.2.2.1, 64, .inl wv)), (c0, .inr (0, [.int (nI bo), .int (nI bh)]))] := hD
          exact kret (b2 true) [(u0, .inr (3, [.ref e0, .ref s0, .ref h0, .ref c0])), (e0, .inr (1, [.ref eb, .ref es, .int (nI ((S.length + 2) - 2 + 1))])), (eb, .inl (E.2.1, 1920, .inl (pn4 f (((S.length + 2) - 2) * 80) (b2 true)))), (es, .inl (E.2.2.1, 24, .inl (upd sz ((S.length + 2) - 2) (pnz (b2 true))))), (s0, .inr (5, [.ref m0, .ref d0, .ref h0, .ref x0])), (m0, .inl (E.2.1, 32, .inl mf)), (d0, .inl (E.2.1, 32, .inl df)), (x0, .inl (E.2.1, 112, .inl xf)), (h0, .inr (4, [.ref a1, .ref a2])), (a1, .inl (E.2.2.1, 8, .inl st)), (a2, .inl (E.2.2.1, 64, .inl wv)), (c0, .inr (0, [.int (nI bo), .int (nI bh)]))] _ _ _ _ d_Run_reckon_82 (⟨_, _, _, _, _, _, _, rfl, fB_pn4 hB, Or.inl ⟨(numB (b2 true) :: S), by show (if y.length ≤ 4 ∧ x.length ≤ 4 then some (numB (b2 (decide (numL y < numL x))) :: S) else none) = _; rw [if_pos ⟨of_decide_eq_true (by assumption), of_decide_eq_true (by assumption)⟩, decide_eq_true (Int32.not_le.mp hc18)], rfl, by first | rfl | (simp only [List.length_cons]; omega) | (simp only [List.length_cons]), rep_num hr0 (by omega), by first | (simp only [List.length_cons]; omega) | (simp only [List.length_cons]) | omega⟩⟩) rfl hP hS
      · refine lv_iconst (v := nI 0) hx hb d_Run_reckon_34 (by decide) ?_
        exact kret (nI 0) [(u0, .inr (3, [.ref e0, .ref s0, .ref h0, .ref c0])), (e0, .inr (1, [.ref eb, .ref es, .int (nI (S.length + 2))])), (eb, .inl (E.2.1, 1920, .inl f)), (es, .inl (E.2.2.1, 24, .inl sz)), (s0, .inr (5, [.ref m0, .ref d0, .ref h0, .ref x0])), (m0, .inl (E.2.1, 32, .inl mf)), (d0, .inl (E.2.1, 32, .inl df)), (x0, .inl (E.2.1, 112, .inl xf)), (h0, .inr (4, [.ref a1, .ref a2])), (a1, .inl (E.2.2.1, 8, .inl st)), (a2, .inl (E.2.2.1, 64, .inl wv)), (c0, .inr (0, [.int (nI bo), .int (nI bh)]))] _ _ _ _ d_Run_reckon_35 (⟨_, _, _, _, _, _, _, rfl, hB, Or.inr ⟨by show (if y.length ≤ 4 ∧ x.length ≤ 4 then some (numB (b2 (decide (numL y < numL x))) :: S) else none) = _; rw [if_neg (fun q => by first | exact absurd q.1 (of_decide_eq_false (by assumption)) | exact absurd q.2 (of_decide_eq_false (by assumption)))], rfl⟩⟩) rfl hP hS
