set_option maxHeartbeats 4000000 in
set_option maxRecDepth 100000 in
theorem c_perf_80 (l : Launch) (E : En) (u0 e0 eb es s0 m0 d0 x0 h0 a1 a2 c0 bo bh : Nat) (mf f sz df xf st wv : Nat → Int32) (S : Stk) (msg : Byl) (hrep : rep f sz S) (hB : fB f) (hBm : fB mf) (hlen : S.length ≤ 24) (hm : lay mf 0 msg) (hm32 : msg.length = 32) (ht : Int32) : CtI l y_Run_perform b_Run_perform 4 .boolean (rmd 5) E [.ref u0, .int (nI 80), .int ht] [(u0, .inr (3, [.ref e0, .ref s0, .ref h0, .ref c0])), (e0, .inr (1, [.ref eb, .ref es, .int (nI S.length)])), (eb, .inl (E.2.1, 1920, .inl f)), (es, .inl (E.2.2.1, 24, .inl sz)), (s0, .inr (5, [.ref m0, .ref d0, .ref h0, .ref x0])), (m0, .inl (E.2.1, 32, .inl mf)), (d0, .inl (E.2.1, 32, .inl df)), (x0, .inl (E.2.1, 112, .inl xf)), (h0, .inr (4, [.ref a1, .ref a2])), (a1, .inl (E.2.2.1, 8, .inl st)), (a2, .inl (E.2.2.1, 64, .inl wv)), (c0, .inr (0, [.int (nI bo), .int (nI bh)]))] (stepP E u0 e0 eb es s0 m0 d0 x0 h0 a1 a2 c0 bo bh mf (actS 80 ht msg S)) := by
  refine CtI.of (by decide) (Nat.le_of_ble_eq_true rfl) (stepP_nar) ?_
  intro p e s m args below meth c A Q H locs ls C hP hD hS hl kret
  have hx := C.1
  have hb := C.2.1
  have hl : lv_has ls 4 [(0, .ref u0), (1, .int (nI 80)), (2, .int ht)] := hl
  rcases S with _ | ⟨x, S⟩
  · have hP : va_P E.1 clz [(u0, .inr (3, [.ref e0, .ref s0, .ref h0, .ref c0])), (e0, .inr (1, [.ref eb, .ref es, .int (nI 0)])), (eb, .inl (E.2.1, 1920, .inl f)), (es, .inl (E.2.2.1, 24, .inl sz)), (s0, .inr (5, [.ref m0, .ref d0, .ref h0, .ref x0])), (m0, .inl (E.2.1, 32, .inl mf)), (d0, .inl (E.2.1, 32, .inl df)), (x0, .inl (E.2.1, 112, .inl xf)), (h0, .inr (4, [.ref a1, .ref a2])), (a1, .inl (E.2.2.1, 8, .inl st)), (a2, .inl (E.2.2.1, 64, .inl wv)), (c0, .inr (0, [.int (nI bo), .int (nI bh)]))] H := hP
    have hD : va_D A [(u0, .inr (3, [.ref e0, .ref s0, .ref h0, .ref c0])), (e0, .inr (1, [.ref eb, .ref es, .int (nI 0)])), (eb, .inl (E.2.1, 1920, .inl f)), (es, .inl (E.2.2.1, 24, .inl sz)), (s0, .inr (5, [.ref m0, .ref d0, .ref h0, .ref x0])), (m0, .inl (E.2.1, 32, .inl mf)), (d0, .inl (E.2.1, 32, .inl df)), (x0, .inl (E.2.1, 112, .inl xf)), (h0, .inr (4, [.ref a1, .ref a2])), (a1, .inl (E.2.2.1, 8, .inl st)), (a2, .inl (E.2.2.1, 64, .inl wv)), (c0, .inr (0, [.int (nI bo), .int (nI bh)]))] := hD
    refine lv_aload_n hx hb d_Run_perform_0 rfl (lv_at hl 0 rfl) ?_
    refine n_get C fg_Run_12 hP 0 rfl rfl d_Run_perform_1 ?_
    refine n_get C fg_Run_79 hP 1 rfl rfl d_Run_perform_4 ?_
    refine lv_iconst (v := nI 1) hx hb d_Run_perform_7 (by decide) ?_
    refine lv_isub hx hb d_Run_perform_8 ?_
    refine tope (z := (-1)) (by decide) ?_
    refine lv_istore_n (lv' := [(3, .int (-1)), (0, .ref u0), (1, .int (nI 80)), (2, .int ht)]) hx hb d_Run_perform_9 rfl hl (by decide) rfl (fun ls hl => ?_)
    refine lv_iload_n hx hb d_Run_perform_10 rfl (lv_at hl 2 rfl) ?_
    refine lv_tableIn hx hb d_Run_perform_11 (by decide) (by decide) rfl rfl ?_
    refine lv_aload_n hx hb d_Run_perform_120 rfl (lv_at hl 1 rfl) ?_
    refine n_get C fg_Run_12 hP 0 rfl rfl d_Run_perform_121 ?_
    refine lv_iload_n hx hb d_Run_perform_124 rfl (lv_at hl 0 rfl) ?_
    refine cal_I (As := [.int (-1)]) (rest := []) C lk_Run_88 (c_El_pushCopy_no l E e0 eb es 0 f sz (-1) (by first | exact hasB_m1 _ | exact hasB_m2 _)) (by decide) hP hD hS 1 1 rfl rfl [1, 2, 3] rfl (by decide) hl.1 rfl (Nat.le_of_ble_eq_true rfl) d_Run_perform_125 (fun r1 w1 H locs hp2 hP hD hS => ?_)
    obtain ⟨rfl, rfl⟩ := hp2
    have hP : va_P E.1 clz [(u0, .inr (3, [.ref e0, .ref s0, .ref h0, .ref c0])), (e0, .inr (1, [.ref eb, .ref es, .int (nI 0)])), (eb, .inl (E.2.1, 1920, .inl f)), (es, .inl (E.2.2.1, 24, .inl sz)), (s0, .inr (5, [.ref m0, .ref d0, .ref h0, .ref x0])), (m0, .inl (E.2.1, 32, .inl mf)), (d0, .inl (E.2.1, 32, .inl df)), (x0, .inl (E.2.1, 112, .inl xf)), (h0, .inr (4, [.ref a1, .ref a2])), (a1, .inl (E.2.2.1, 8, .inl st)), (a2, .inl (E.2.2.1, 64, .inl wv)), (c0, .inr (0, [.int (nI bo), .int (nI bh)]))] H := hP
    have hD : va_D A [(u0, .inr (3, [.ref e0, .ref s0, .ref h0, .ref c0])), (e0, .inr (1, [.ref eb, .ref es, .int (nI 0)])), (eb, .inl (E.2.1, 1920, .inl f)), (es, .inl (E.2.2.1, 24, .inl sz)), (s0, .inr (5, [.ref m0, .ref d0, .ref h0, .ref x0])), (m0, .inl (E.2.1, 32, .inl mf)), (d0, .inl (E.2.1, 32, .inl df)), (x0, .inl (E.2.1, 112, .inl xf)), (h0, .inr (4, [.ref a1, .ref a2])), (a1, .inl (E.2.2.1, 8, .inl st)), (a2, .inl (E.2.2.1, 64, .inl wv)), (c0, .inr (0, [.int (nI bo), .int (nI bh)]))] := hD
    exact kret (b2 false) [(u0, .inr (3, [.ref e0, .ref s0, .ref h0, .ref c0])), (e0, .inr (1, [.ref eb, .ref es, .int (nI 0)])), (eb, .inl (E.2.1, 1920, .inl f)), (es, .inl (E.2.2.1, 24, .inl sz)), (s0, .inr (5, [.ref m0, .ref d0, .ref h0, .ref x0])), (m0, .inl (E.2.1, 32, .inl mf)), (d0, .inl (E.2.1, 32, .inl df)), (x0, .inl (E.2.1, 112, .inl xf)), (h0, .inr (4, [.ref a1, .ref a2])), (a1, .inl (E.2.2.1, 8, .inl st)), (a2, .inl (E.2.2.1, 64, .inl wv)), (c0, .inr (0, [.int (nI bo), .int (nI bh)]))] _ _ _ _ d_Run_perform_128 (⟨_, _, _, _, _, _, _, rfl, hB, Or.inr ⟨rfl, rfl⟩⟩) rfl hP hS
  · have hx1 : sz S.length = nI x.length ∧ x.length ≤ 80 ∧ lay f (S.length * 80) x := rep_top hrep
    have hr0 : rep f sz S := rep_tail hrep
    have hlen : S.length + 1 ≤ 24 := hlen
    have hP : va_P E.1 clz [(u0, .inr (3, [.ref e0, .ref s0, .ref h0, .ref c0])), (e0, .inr (1, [.ref eb, .ref es, .int (nI (S.length + 1))])), (eb, .inl (E.2.1, 1920, .inl f)), (es, .inl (E.2.2.1, 24, .inl sz)), (s0, .inr (5, [.ref m0, .ref d0, .ref h0, .ref x0])), (m0, .inl (E.2.1, 32, .inl mf)), (d0, .inl (E.2.1, 32, .inl df)), (x0, .inl (E.2.1, 112, .inl xf)), (h0, .inr (4, [.ref a1, .ref a2])), (a1, .inl (E.2.2.1, 8, .inl st)), (a2, .inl (E.2.2.1, 64, .inl wv)), (c0, .inr (0, [.int (nI bo), .int (nI bh)]))] H := hP
    have hD : va_D A [(u0, .inr (3, [.ref e0, .ref s0, .ref h0, .ref c0])), (e0, .inr (1, [.ref eb, .ref es, .int (nI (S.length + 1))])), (eb, .inl (E.2.1, 1920, .inl f)), (es, .inl (E.2.2.1, 24, .inl sz)), (s0, .inr (5, [.ref m0, .ref d0, .ref h0, .ref x0])), (m0, .inl (E.2.1, 32, .inl mf)), (d0, .inl (E.2.1, 32, .inl df)), (x0, .inl (E.2.1, 112, .inl xf)), (h0, .inr (4, [.ref a1, .ref a2])), (a1, .inl (E.2.2.1, 8, .inl st)), (a2, .inl (E.2.2.1, 64, .inl wv)), (c0, .inr (0, [.int (nI bo), .int (nI bh)]))] := hD
    rcases Nat.lt_or_ge (S.length + 1) 24 with h24 | h24
    · refine lv_aload_n hx hb d_Run_perform_0 rfl (lv_at hl 0 rfl) ?_
      refine n_get C fg_Run_12 hP 0 rfl rfl d_Run_perform_1 ?_
      refine n_get C fg_Run_79 hP 1 rfl rfl d_Run_perform_4 ?_
      refine lv_iconst (v := nI 1) hx hb d_Run_perform_7 (by decide) ?_
      refine lv_isub hx hb d_Run_perform_8 ?_
      refine tope (z := nI S.length) ((pk_sub (by omega)).trans (congrArg nI (by omega))) ?_
      refine lv_istore_n (lv' := [(3, .int (nI S.length)), (0, .ref u0), (1, .int (nI 80)), (2, .int ht)]) hx hb d_Run_perform_9 rfl hl (by decide) rfl (fun ls hl => ?_)
      refine lv_iload_n hx hb d_Run_perform_10 rfl (lv_at hl 2 rfl) ?_
      refine lv_tableIn hx hb d_Run_perform_11 (by decide) (by decide) rfl rfl ?_
      refine lv_aload_n hx hb d_Run_perform_120 rfl (lv_at hl 1 rfl) ?_
      refine n_get C fg_Run_12 hP 0 rfl rfl d_Run_perform_121 ?_
      refine lv_iload_n hx hb d_Run_perform_124 rfl (lv_at hl 0 rfl) ?_
      refine cal_I (As := [.int (nI S.length)]) (rest := []) C lk_Run_88 (c_El_pushCopy l E e0 eb es (S.length + 1) f sz S.length x.length (by omega) hx1.1 hx1.2.1 (by omega) hB) (by decide) hP hD hS 1 1 rfl rfl [1, 2, 3] rfl (by decide) hl.1 rfl (Nat.le_of_ble_eq_true rfl) d_Run_perform_125 (fun r3 w1 H locs hp4 hP hD hS => ?_)
      obtain ⟨rfl, rfl⟩ := hp4
      have hP : va_P E.1 clz [(u0, .inr (3, [.ref e0, .ref s0, .ref h0, .ref c0])), (e0, .inr (1, [.ref eb, .ref es, .int (nI (S.length + 1 + 1))])), (eb, .inl (E.2.1, 1920, .inl (va_cpy f f (S.length * 80) ((S.length + 1) * 80) x.length))), (es, .inl (E.2.2.1, 24, .inl (upd sz (S.length + 1) (nI x.length)))), (s0, .inr (5, [.ref m0, .ref d0, .ref h0, .ref x0])), (m0, .inl (E.2.1, 32, .inl mf)), (d0, .inl (E.2.1, 32, .inl df)), (x0, .inl (E.2.1, 112, .inl xf)), (h0, .inr (4, [.ref a1, .ref a2])), (a1, .inl (E.2.2.1, 8, .inl st)), (a2, .inl (E.2.2.1, 64, .inl wv)), (c0, .inr (0, [.int (nI bo), .int (nI bh)]))] H := hP
      have hD : va_D A [(u0, .inr (3, [.ref e0, .ref s0, .ref h0, .ref c0])), (e0, .inr (1, [.ref eb, .ref es, .int (nI (S.length + 1 + 1))])), (eb, .inl (E.2.1, 1920, .inl (va_cpy f f (S.length * 80) ((S.length + 1) * 80) x.length))), (es, .inl (E.2.2.1, 24, .inl (upd sz (S.length + 1) (nI x.length)))), (s0, .inr (5, [.ref m0, .ref d0, .ref h0, .ref x0])), (m0, .inl (E.2.1, 32, .inl mf)), (d0, .inl (E.2.1, 32, .inl df)), (x0, .inl (E.2.1, 112, .inl xf)), (h0, .inr (4, [.ref a1, .ref a2])), (a1, .inl (E.2.2.1, 8, .inl st)), (a2, .inl (E.2.2.1, 64, .inl wv)), (c0, .inr (0, [.int (nI bo), .int (nI bh)]))] := hD
      exact kret (b2 true) [(u0, .inr (3, [.ref e0, .ref s0, .ref h0, .ref c0])), (e0, .inr (1, [.ref eb, .ref es, .int (nI (S.length + 1 + 1))])), (eb, .inl (E.2.1, 1920, .inl (va_cpy f f (S.length * 80) ((S.length + 1) * 80) x.length))), (es, .inl (E.2.2.1, 24, .inl (upd sz (S.length + 1) (nI x.length)))), (s0, .inr (5, [.ref m0, .ref d0, .ref h0, .ref x0])), (m0, .inl (E.2.1, 32, .inl mf)), (d0, .inl (E.2.1, 32, .inl df)), (x0, .inl (E.2.1, 112, .inl xf)), (h0, .inr (4, [.ref a1, .ref a2])), (a1, .inl (E.2.2.1, 8, .inl st)), (a2, .inl (E.2.2.1, 64, .inl wv)), (c0, .inr (0, [.int (nI bo), .int (nI bh)]))] _ _ _ _ d_Run_perform_128 (⟨_, _, _, _, _, _, _, rfl, fB_cpy hB hB, Or.inl ⟨(x :: x :: S), by show pushE _ _ = _; unfold pushE; rw [if_pos (by first | (simp only [List.length_cons]; omega) | omega)], rfl, by first | rfl | (simp only [List.length_cons]; omega) | (simp only [List.length_cons]), rep_cpy hrep rfl rfl hx1.2.1 hx1.2.2, by first | (simp only [List.length_cons]; omega) | (simp only [List.length_cons]) | omega⟩⟩) rfl hP hS
    · refine lv_aload_n hx hb d_Run_perform_0 rfl (lv_at hl 0 rfl) ?_
      refine n_get C fg_Run_12 hP 0 rfl rfl d_Run_perform_1 ?_
      refine n_get C fg_Run_79 hP 1 rfl rfl d_Run_perform_4 ?_
      refine lv_iconst (v := nI 1) hx hb d_Run_perform_7 (by decide) ?_
      refine lv_isub hx hb d_Run_perform_8 ?_
      refine tope (z := nI S.length) ((pk_sub (by omega)).trans (congrArg nI (by omega))) ?_
      refine lv_istore_n (lv' := [(3, .int (nI S.length)), (0, .ref u0), (1, .int (nI 80)), (2, .int ht)]) hx hb d_Run_perform_9 rfl hl (by decide) rfl (fun ls hl => ?_)
      refine lv_iload_n hx hb d_Run_perform_10 rfl (lv_at hl 2 rfl) ?_
      refine lv_tableIn hx hb d_Run_perform_11 (by decide) (by decide) rfl rfl ?_
      refine lv_aload_n hx hb d_Run_perform_120 rfl (lv_at hl 1 rfl) ?_
      refine n_get C fg_Run_12 hP 0 rfl rfl d_Run_perform_121 ?_
      refine lv_iload_n hx hb d_Run_perform_124 rfl (lv_at hl 0 rfl) ?_
      refine cal_I (As := [.int (nI S.length)]) (rest := []) C lk_Run_88 (c_El_pushCopy_full l E e0 eb es (S.length + 1) f sz S.length x.length (by omega) hx1.1 hx1.2.1 (by omega) (by omega)) (by decide) hP hD hS 1 1 rfl rfl [1, 2, 3] rfl (by decide) hl.1 rfl (Nat.le_of_ble_eq_true rfl) d_Run_perform_125 (fun r5 w1 H locs hp6 hP hD hS => ?_)
      obtain ⟨rfl, rfl⟩ := hp6
      have hP : va_P E.1 clz [(u0, .inr (3, [.ref e0, .ref s0, .ref h0, .ref c0])), (e0, .inr (1, [.ref eb, .ref es, .int (nI (S.length + 1))])), (eb, .inl (E.2.1, 1920, .inl f)), (es, .inl (E.2.2.1, 24, .inl sz)), (s0, .inr (5, [.ref m0, .ref d0, .ref h0, .ref x0])), (m0, .inl (E.2.1, 32, .inl mf)), (d0, .inl (E.2.1, 32, .inl df)), (x0, .inl (E.2.1, 112, .inl xf)), (h0, .inr (4, [.ref a1, .ref a2])), (a1, .inl (E.2.2.1, 8, .inl st)), (a2, .inl (E.2.2.1, 64, .inl wv)), (c0, .inr (0, [.int (nI bo), .int (nI bh)]))] H := hP
      have hD : va_D A [(u0, .inr (3, [.ref e0, .ref s0, .ref h0, .ref c0])), (e0, .inr (1, [.ref eb, .ref es, .int (nI (S.length + 1))])), (eb, .inl (E.2.1, 1920, .inl f)), (es, .inl (E.2.2.1, 24, .inl sz)), (s0, .inr (5, [.ref m0, .ref d0, .ref h0, .ref x0])), (m0, .inl (E.2.1, 32, .inl mf)), (d0, .inl (E.2.1, 32, .inl df)), (x0, .inl (E.2.1, 112, .inl xf)), (h0, .inr (4, [.ref a1, .ref a2])), (a1, .inl (E.2.2.1, 8, .inl st)), (a2, .inl (E.2.2.1, 64, .inl wv)), (c0, .inr (0, [.int (nI bo), .int (nI bh)]))] := hD
      exact kret (b2 false) [(u0, .inr (3, [.ref e0, .ref s0, .ref h0, .ref c0])), (e0, .inr (1, [.ref eb, .ref es, .int (nI (S.length + 1))])), (eb, .inl (E.2.1, 1920, .inl f)), (es, .inl (E.2.2.1, 24, .inl sz)), (s0, .inr (5, [.ref m0, .ref d0, .ref h0, .ref x0])), (m0, .inl (E.2.1, 32, .inl mf)), (d0, .inl (E.2.1, 32, .inl df)), (x0, .inl (E.2.1, 112, .inl xf)), (h0, .inr (4, [.ref a1, .ref a2])), (a1, .inl (E.2.2.1, 8, .inl st)), (a2, .inl (E.2.2.1, 64, .inl wv)), (c0, .inr (0, [.int (nI bo), .int (nI bh)]))] _ _ _ _ d_Run_perform_128 (⟨_, _, _, _, _, _, _, rfl, hB, Or.inr ⟨by show pushE _ _ = _; unfold pushE; rw [if_neg (by first | (simp only [List.length_cons]; omega) | omega)], rfl⟩⟩) rfl hP hS

set_option maxHeartbeats 4000000 in
set_option maxRecDepth 100000 in
theorem c_perf_81 (l : Launch) (E : En) (u0 e0 eb es s0 m0 d0 x0 h0 a1 a2 c0 bo bh : Nat) (mf f sz df xf st wv : Nat → Int32) (S : Stk) (msg : Byl) (hrep : rep f sz S) (hB : fB f) (hBm : fB mf) (hlen : S.length ≤ 24) (hm : lay mf 0 msg) (hm32 : msg.length = 32) (ht : Int32) : CtI l y_Run_perform b_Run_perform 4 .boolean (rmd 5) E [.ref u0, .int (nI 81), .int ht] [(u0, .inr (3, [.ref e0, .ref s0, .ref h0, .ref c0])), (e0, .inr (1, [.ref eb, .ref es, .int (nI S.length)])), (eb, .inl (E.2.1, 1920, .inl f)), (es, .inl (E.2.2.1, 24, .inl sz)), (s0, .inr (5, [.ref m0, .ref d0, .ref h0, .ref x0])), (m0, .inl (E.2.1, 32, .inl mf)), (d0, .inl (E.2.1, 32, .inl df)), (x0, .inl (E.2.1, 112, .inl xf)), (h0, .inr (4, [.ref a1, .ref a2])), (a1, .inl (E.2.2.1, 8, .inl st)), (a2, .inl (E.2.2.1, 64, .inl wv)), (c0, .inr (0, [.int (nI bo), .int (nI bh)]))] (stepP E u0 e0 eb es s0 m0 d0 x0 h0 a1 a2 c0 bo bh mf (actS 81 ht msg S)) := by
  refine CtI.of (by decide) (Nat.le_of_ble_eq_true rfl) (stepP_nar) ?_
  intro p e s m args below meth c A Q H locs ls C hP hD hS hl kret
  have hx := C.1
  have hb := C.2.1
  have hl : lv_has ls 4 [(0, .ref u0), (1, .int (nI 81)), (2, .int ht)] := hl
  rcases S with _ | ⟨x, S⟩
  · have hP : va_P E.1 clz [(u0, .inr (3, [.ref e0, .ref s0, .ref h0, .ref c0])), (e0, .inr (1, [.ref eb, .ref es, .int (nI 0)])), (eb, .inl (E.2.1, 1920, .inl f)), (es, .inl (E.2.2.1, 24, .inl sz)), (s0, .inr (5, [.ref m0, .ref d0, .ref h0, .ref x0])), (m0, .inl (E.2.1, 32, .inl mf)), (d0, .inl (E.2.1, 32, .inl df)), (x0, .inl (E.2.1, 112, .inl xf)), (h0, .inr (4, [.ref a1, .ref a2])), (a1, .inl (E.2.2.1, 8, .inl st)), (a2, .inl (E.2.2.1, 64, .inl wv)), (c0, .inr (0, [.int (nI bo), .int (nI bh)]))] H := hP
    have hD : va_D A [(u0, .inr (3, [.ref e0, .ref s0, .ref h0, .ref c0])), (e0, .inr (1, [.ref eb, .ref es, .int (nI 0)])), (eb, .inl (E.2.1, 1920, .inl f)), (es, .inl (E.2.2.1, 24, .inl sz)), (s0, .inr (5, [.ref m0, .ref d0, .ref h0, .ref x0])), (m0, .inl (E.2.1, 32, .inl mf)), (d0, .inl (E.2.1, 32, .inl df)), (x0, .inl (E.2.1, 112, .inl xf)), (h0, .inr (4, [.ref a1, .ref a2])), (a1, .inl (E.2.2.1, 8, .inl st)), (a2, .inl (E.2.2.1, 64, .inl wv)), (c0, .inr (0, [.int (nI bo), .int (nI bh)]))] := hD
    refine lv_aload_n hx hb d_Run_perform_0 rfl (lv_at hl 0 rfl) ?_
    refine n_get C fg_Run_12 hP 0 rfl rfl d_Run_perform_1 ?_
    refine n_get C fg_Run_79 hP 1 rfl rfl d_Run_perform_4 ?_
    refine lv_iconst (v := nI 1) hx hb d_Run_perform_7 (by decide) ?_
    refine lv_isub hx hb d_Run_perform_8 ?_
    refine tope (z := (-1)) (by decide) ?_
    refine lv_istore_n (lv' := [(3, .int (-1)), (0, .ref u0), (1, .int (nI 81)), (2, .int ht)]) hx hb d_Run_perform_9 rfl hl (by decide) rfl (fun ls hl => ?_)
    refine lv_iload_n hx hb d_Run_perform_10 rfl (lv_at hl 2 rfl) ?_
    refine lv_tableIn hx hb d_Run_perform_11 (by decide) (by decide) rfl rfl ?_
    refine lv_aload_n hx hb d_Run_perform_129 rfl (lv_at hl 1 rfl) ?_
    refine n_get C fg_Run_12 hP 0 rfl rfl d_Run_perform_130 ?_
    refine lv_iconst (v := nI 1) hx hb d_Run_perform_133 (by decide) ?_
    refine cal_I (As := [.int (nI 1)]) (rest := []) C lk_Run_85 (c_El_drop_no l E e0 eb es 0 f sz 1 (by omega) (by omega)) (by decide) hP hD hS 1 1 rfl rfl [1, 2, 3] rfl (by decide) hl.1 rfl (Nat.le_of_ble_eq_true rfl) d_Run_perform_134 (fun r1 w1 H locs hp2 hP hD hS => ?_)
    obtain ⟨rfl, rfl⟩ := hp2
    have hP : va_P E.1 clz [(u0, .inr (3, [.ref e0, .ref s0, .ref h0, .ref c0])), (e0, .inr (1, [.ref eb, .ref es, .int (nI 0)])), (eb, .inl (E.2.1, 1920, .inl f)), (es, .inl (E.2.2.1, 24, .inl sz)), (s0, .inr (5, [.ref m0, .ref d0, .ref h0, .ref x0])), (m0, .inl (E.2.1, 32, .inl mf)), (d0, .inl (E.2.1, 32, .inl df)), (x0, .inl (E.2.1, 112, .inl xf)), (h0, .inr (4, [.ref a1, .ref a2])), (a1, .inl (E.2.2.1, 8, .inl st)), (a2, .inl (E.2.2.1, 64, .inl wv)), (c0, .inr (0, [.int (nI bo), .int (nI bh)]))] H := hP
    have hD : va_D A [(u0, .inr (3, [.ref e0, .ref s0, .ref h0, .ref c0])), (e0, .inr (1, [.ref eb, .ref es, .int (nI 0)])), (eb, .inl (E.2.1, 1920, .inl f)), (es, .inl (E.2.2.1, 24, .inl sz)), (s0, .inr (5, [.ref m0, .ref d0, .ref h0, .ref x0])), (m0, .inl (E.2.1, 32, .inl mf)), (d0, .inl (E.2.1, 32, .inl df)), (x0, .inl (E.2.1, 112, .inl xf)), (h0, .inr (4, [.ref a1, .ref a2])), (a1, .inl (E.2.2.1, 8, .inl st)), (a2, .inl (E.2.2.1, 64, .inl wv)), (c0, .inr (0, [.int (nI bo), .int (nI bh)]))] := hD
    exact kret (b2 false) [(u0, .inr (3, [.ref e0, .ref s0, .ref h0, .ref c0])), (e0, .inr (1, [.ref eb, .ref es, .int (nI 0)])), (eb, .inl (E.2.1, 1920, .inl f)), (es, .inl (E.2.2.1, 24, .inl sz)), (s0, .inr (5, [.ref m0, .ref d0, .ref h0, .ref x0])), (m0, .inl (E.2.1, 32, .inl mf)), (d0, .inl (E.2.1, 32, .inl df)), (x0, .inl (E.2.1, 112, .inl xf)), (h0, .inr (4, [.ref a1, .ref a2])), (a1, .inl (E.2.2.1, 8, .inl st)), (a2, .inl (E.2.2.1, 64, .inl wv)), (c0, .inr (0, [.int (nI bo), .int (nI bh)]))] _ _ _ _ d_Run_perform_137 (⟨_, _, _, _, _, _, _, rfl, hB, Or.inr ⟨rfl, rfl⟩⟩) rfl hP hS
  · have hx1 : sz S.length = nI x.length ∧ x.length ≤ 80 ∧ lay f (S.length * 80) x := rep_top hrep
    have hr0 : rep f sz S := rep_tail hrep
    have hlen : S.length + 1 ≤ 24 := hlen
    have hP : va_P E.1 clz [(u0, .inr (3, [.ref e0, .ref s0, .ref h0, .ref c0])), (e0, .inr (1, [.ref eb, .ref es, .int (nI (S.length + 1))])), (eb, .inl (E.2.1, 1920, .inl f)), (es, .inl (E.2.2.1, 24, .inl sz)), (s0, .inr (5, [.ref m0, .ref d0, .ref h0, .ref x0])), (m0, .inl (E.2.1, 32, .inl mf)), (d0, .inl (E.2.1, 32, .inl df)), (x0, .inl (E.2.1, 112, .inl xf)), (h0, .inr (4, [.ref a1, .ref a2])), (a1, .inl (E.2.2.1, 8, .inl st)), (a2, .inl (E.2.2.1, 64, .inl wv)), (c0, .inr (0, [.int (nI bo), .int (nI bh)]))] H := hP
    have hD : va_D A [(u0, .inr (3, [.ref e0, .ref s0, .ref h0, .ref c0])), (e0, .inr (1, [.ref eb, .ref es, .int (nI (S.length + 1))])), (eb, .inl (E.2.1, 1920, .inl f)), (es, .inl (E.2.2.1, 24, .inl sz)), (s0, .inr (5, [.ref m0, .ref d0, .ref h0, .ref x0])), (m0, .inl (E.2.1, 32, .inl mf)), (d0, .inl (E.2.1, 32, .inl df)), (x0, .inl (E.2.1, 112, .inl xf)), (h0, .inr (4, [.ref a1, .ref a2])), (a1, .inl (E.2.2.1, 8, .inl st)), (a2, .inl (E.2.2.1, 64, .inl wv)), (c0, .inr (0, [.int (nI bo), .int (nI bh)]))] := hD
    refine lv_aload_n hx hb d_Run_perform_0 rfl (lv_at hl 0 rfl) ?_
    refine n_get C fg_Run_12 hP 0 rfl rfl d_Run_perform_1 ?_
    refine n_get C fg_Run_79 hP 1 rfl rfl d_Run_perform_4 ?_
    refine lv_iconst (v := nI 1) hx hb d_Run_perform_7 (by decide) ?_
    refine lv_isub hx hb d_Run_perform_8 ?_
    refine tope (z := nI S.length) ((pk_sub (by omega)).trans (congrArg nI (by omega))) ?_
    refine lv_istore_n (lv' := [(3, .int (nI S.length)), (0, .ref u0), (1, .int (nI 81)), (2, .int ht)]) hx hb d_Run_perform_9 rfl hl (by decide) rfl (fun ls hl => ?_)
    refine lv_iload_n hx hb d_Run_perform_10 rfl (lv_at hl 2 rfl) ?_
    refine lv_tableIn hx hb d_Run_perform_11 (by decide) (by decide) rfl rfl ?_
    refine lv_aload_n hx hb d_Run_perform_129 rfl (lv_at hl 1 rfl) ?_
    refine n_get C fg_Run_12 hP 0 rfl rfl d_Run_perform_130 ?_
    refine lv_iconst (v := nI 1) hx hb d_Run_perform_133 (by decide) ?_
    refine cal_I (As := [.int (nI 1)]) (rest := []) C lk_Run_85 (c_El_drop l E e0 eb es (S.length + 1) f sz 1 (by omega) (by omega)) (by decide) hP hD hS 1 1 rfl rfl [1, 2, 3] rfl (by decide) hl.1 rfl (Nat.le_of_ble_eq_true rfl) d_Run_perform_134 (fun r3 w1 H locs hp4 hP hD hS => ?_)
    obtain ⟨rfl, rfl⟩ := hp4
    have hP : va_P E.1 clz [(u0, .inr (3, [.ref e0, .ref s0, .ref h0, .ref c0])), (e0, .inr (1, [.ref eb, .ref es, .int (nI ((S.length + 1) - 1))])), (eb, .inl (E.2.1, 1920, .inl f)), (es, .inl (E.2.2.1, 24, .inl sz)), (s0, .inr (5, [.ref m0, .ref d0, .ref h0, .ref x0])), (m0, .inl (E.2.1, 32, .inl mf)), (d0, .inl (E.2.1, 32, .inl df)), (x0, .inl (E.2.1, 112, .inl xf)), (h0, .inr (4, [.ref a1, .ref a2])), (a1, .inl (E.2.2.1, 8, .inl st)), (a2, .inl (E.2.2.1, 64, .inl wv)), (c0, .inr (0, [.int (nI bo), .int (nI bh)]))] H := hP
    have hD : va_D A [(u0, .inr (3, [.ref e0, .ref s0, .ref h0, .ref c0])), (e0, .inr (1, [.ref eb, .ref es, .int (nI ((S.length + 1) - 1))])), (eb, .inl (E.2.1, 1920, .inl f)), (es, .inl (E.2.2.1, 24, .inl sz)), (s0, .inr (5, [.ref m0, .ref d0, .ref h0, .ref x0])), (m0, .inl (E.2.1, 32, .inl mf)), (d0, .inl (E.2.1, 32, .inl df)), (x0, .inl (E.2.1, 112, .inl xf)), (h0, .inr (4, [.ref a1, .ref a2])), (a1, .inl (E.2.2.1, 8, .inl st)), (a2, .inl (E.2.2.1, 64, .inl wv)), (c0, .inr (0, [.int (nI bo), .int (nI bh)]))] := hD
    exact kret (b2 true) [(u0, .inr (3, [.ref e0, .ref s0, .ref h0, .ref c0])), (e0, .inr (1, [.ref eb, .ref es, .int (nI ((S.length + 1) - 1))])), (eb, .inl (E.2.1, 1920, .inl f)), (es, .inl (E.2.2.1, 24, .inl sz)), (s0, .inr (5, [.ref m0, .ref d0, .ref h0, .ref x0])), (m0, .inl (E.2.1, 32, .inl mf)), (d0, .inl (E.2.1, 32, .inl df)), (x0, .inl (E.2.1, 112, .inl xf)), (h0, .inr (4, [.ref a1, .ref a2])), (a1, .inl (E.2.2.1, 8, .inl st)), (a2, .inl (E.2.2.1, 64, .inl wv)), (c0, .inr (0, [.int (nI bo), .int (nI bh)]))] _ _ _ _ d_Run_perform_137 (⟨_, _, _, _, _, _, _, rfl, hB, Or.inl ⟨S, rfl, rfl, by first | rfl | (simp only [List.length_cons]; omega) | (simp only [List.length_cons]), hr0, by first | (simp only [List.length_cons]; omega) | (simp only [List.length_cons]) | omega⟩⟩) rfl hP hS

set_option maxHeartbeats 4000000 in
set_option maxRecDepth 100000 in
theorem c_perf_82 (l : Launch) (E : En) (u0 e0 eb es s0 m0 d0 x0 h0 a1 a2 c0 bo bh : Nat) (mf f sz df xf st wv : Nat → Int32) (S : Stk) (msg : Byl) (hrep : rep f sz S) (hB : fB f) (hBm : fB mf) (hlen : S.length ≤ 24) (hm : lay mf 0 msg) (hm32 : msg.length = 32) (ht : Int32) : CtI l y_Run_perform b_Run_perform 4 .boolean (rmd 5) E [.ref u0, .int (nI 82), .int ht] [(u0, .inr (3, [.ref e0, .ref s0, .ref h0, .ref c0])), (e0, .inr (1, [.ref eb, .ref es, .int (nI S.length)])), (eb, .inl (E.2.1, 1920, .inl f)), (es, .inl (E.2.2.1, 24, .inl sz)), (s0, .inr (5, [.ref m0, .ref d0, .ref h0, .ref x0])), (m0, .inl (E.2.1, 32, .inl mf)), (d0, .inl (E.2.1, 32, .inl df)), (x0, .inl (E.2.1, 112, .inl xf)), (h0, .inr (4, [.ref a1, .ref a2])), (a1, .inl (E.2.2.1, 8, .inl st)), (a2, .inl (E.2.2.1, 64, .inl wv)), (c0, .inr (0, [.int (nI bo), .int (nI bh)]))] (stepP E u0 e0 eb es s0 m0 d0 x0 h0 a1 a2 c0 bo bh mf (actS 82 ht msg S)) := by
  refine CtI.of (by decide) (Nat.le_of_ble_eq_true rfl) (stepP_nar) ?_
  intro p e s m args below meth c A Q H locs ls C hP hD hS hl kret
  have hx := C.1
  have hb := C.2.1
  have hl : lv_has ls 4 [(0, .ref u0), (1, .int (nI 82)), (2, .int ht)] := hl
  rcases S with _ | ⟨x, _ | ⟨y, S⟩⟩
  · have hP : va_P E.1 clz [(u0, .inr (3, [.ref e0, .ref s0, .ref h0, .ref c0])), (e0, .inr (1, [.ref eb, .ref es, .int (nI 0)])), (eb, .inl (E.2.1, 1920, .inl f)), (es, .inl (E.2.2.1, 24, .inl sz)), (s0, .inr (5, [.ref m0, .ref d0, .ref h0, .ref x0])), (m0, .inl (E.2.1, 32, .inl mf)), (d0, .inl (E.2.1, 32, .inl df)), (x0, .inl (E.2.1, 112, .inl xf)), (h0, .inr (4, [.ref a1, .ref a2])), (a1, .inl (E.2.2.1, 8, .inl st)), (a2, .inl (E.2.2.1, 64, .inl wv)), (c0, .inr (0, [.int (nI bo), .int (nI bh)]))] H := hP
    have hD : va_D A [(u0, .inr (3, [.ref e0, .ref s0, .ref h0, .ref c0])), (e0, .inr (1, [.ref eb, .ref es, .int (nI 0)])), (eb, .inl (E.2.1, 1920, .inl f)), (es, .inl (E.2.2.1, 24, .inl sz)), (s0, .inr (5, [.ref m0, .ref d0, .ref h0, .ref x0])), (m0, .inl (E.2.1, 32, .inl mf)), (d0, .inl (E.2.1, 32, .inl df)), (x0, .inl (E.2.1, 112, .inl xf)), (h0, .inr (4, [.ref a1, .ref a2])), (a1, .inl (E.2.2.1, 8, .inl st)), (a2, .inl (E.2.2.1, 64, .inl wv)), (c0, .inr (0, [.int (nI bo), .int (nI bh)]))] := hD
    refine lv_aload_n hx hb d_Run_perform_0 rfl (lv_at hl 0 rfl) ?_
    refine n_get C fg_Run_12 hP 0 rfl rfl d_Run_perform_1 ?_
    refine n_get C fg_Run_79 hP 1 rfl rfl d_Run_perform_4 ?_
    refine lv_iconst (v := nI 1) hx hb d_Run_perform_7 (by decide) ?_
    refine lv_isub hx hb d_Run_perform_8 ?_
    refine tope (z := (-1)) (by decide) ?_
    refine lv_istore_n (lv' := [(3, .int (-1)), (0, .ref u0), (1, .int (nI 82)), (2, .int ht)]) hx hb d_Run_perform_9 rfl hl (by decide) rfl (fun ls hl => ?_)
    refine lv_iload_n hx hb d_Run_perform_10 rfl (lv_at hl 2 rfl) ?_
    refine lv_tableIn hx hb d_Run_perform_11 (by decide) (by decide) rfl rfl ?_
    refine lv_aload_n hx hb d_Run_perform_138 rfl (lv_at hl 1 rfl) ?_
    refine n_get C fg_Run_12 hP 0 rfl rfl d_Run_perform_139 ?_
    refine cal_I (As := []) (rest := []) C lk_Run_91 (c_El_swapLast_no l E e0 eb es 0 f sz (by decide)) (by decide) hP hD hS 1 1 rfl rfl [1, 2, 3] rfl (by decide) hl.1 rfl (Nat.le_of_ble_eq_true rfl) d_Run_perform_142 (fun r1 w1 H locs hp2 hP hD hS => ?_)
    obtain ⟨rfl, rfl⟩ := hp2
    have hP : va_P E.1 clz [(u0, .inr (3, [.ref e0, .ref s0, .ref h0, .ref c0])), (e0, .inr (1, [.ref eb, .ref es, .int (nI 0)])), (eb, .inl (E.2.1, 1920, .inl f)), (es, .inl (E.2.2.1, 24, .inl sz)), (s0, .inr (5, [.ref m0, .ref d0, .ref h0, .ref x0])), (m0, .inl (E.2.1, 32, .inl mf)), (d0, .inl (E.2.1, 32, .inl df)), (x0, .inl (E.2.1, 112, .inl xf)), (h0, .inr (4, [.ref a1, .ref a2])), (a1, .inl (E.2.2.1, 8, .inl st)), (a2, .inl (E.2.2.1, 64, .inl wv)), (c0, .inr (0, [.int (nI bo), .int (nI bh)]))] H := hP
    have hD : va_D A [(u0, .inr (3, [.ref e0, .ref s0, .ref h0, .ref c0])), (e0, .inr (1, [.ref eb, .ref es, .int (nI 0)])), (eb, .inl (E.2.1, 1920, .inl f)), (es, .inl (E.2.2.1, 24, .inl sz)), (s0, .inr (5, [.ref m0, .ref d0, .ref h0, .ref x0])), (m0, .inl (E.2.1, 32, .inl mf)), (d0, .inl (E.2.1, 32, .inl df)), (x0, .inl (E.2.1, 112, .inl xf)), (h0, .inr (4, [.ref a1, .ref a2])), (a1, .inl (E.2.2.1, 8, .inl st)), (a2, .inl (E.2.2.1, 64, .inl wv)), (c0, .inr (0, [.int (nI bo), .int (nI bh)]))] := hD
    exact kret (b2 false) [(u0, .inr (3, [.ref e0, .ref s0, .ref h0, .ref c0])), (e0, .inr (1, [.ref eb, .ref es, .int (nI 0)])), (eb, .inl (E.2.1, 1920, .inl f)), (es, .inl (E.2.2.1, 24, .inl sz)), (s0, .inr (5, [.ref m0, .ref d0, .ref h0, .ref x0])), (m0, .inl (E.2.1, 32, .inl mf)), (d0, .inl (E.2.1, 32, .inl df)), (x0, .inl (E.2.1, 112, .inl xf)), (h0, .inr (4, [.ref a1, .ref a2])), (a1, .inl (E.2.2.1, 8, .inl st)), (a2, .inl (E.2.2.1, 64, .inl wv)), (c0, .inr (0, [.int (nI bo), .int (nI bh)]))] _ _ _ _ d_Run_perform_145 (⟨_, _, _, _, _, _, _, rfl, hB, Or.inr ⟨rfl, rfl⟩⟩) rfl hP hS
  · have hx1 : sz 0 = nI x.length ∧ x.length ≤ 80 ∧ lay f (0 * 80) x := rep_top hrep
    have hP : va_P E.1 clz [(u0, .inr (3, [.ref e0, .ref s0, .ref h0, .ref c0])), (e0, .inr (1, [.ref eb, .ref es, .int (nI 1)])), (eb, .inl (E.2.1, 1920, .inl f)), (es, .inl (E.2.2.1, 24, .inl sz)), (s0, .inr (5, [.ref m0, .ref d0, .ref h0, .ref x0])), (m0, .inl (E.2.1, 32, .inl mf)), (d0, .inl (E.2.1, 32, .inl df)), (x0, .inl (E.2.1, 112, .inl xf)), (h0, .inr (4, [.ref a1, .ref a2])), (a1, .inl (E.2.2.1, 8, .inl st)), (a2, .inl (E.2.2.1, 64, .inl wv)), (c0, .inr (0, [.int (nI bo), .int (nI bh)]))] H := hP
    have hD : va_D A [(u0, .inr (3, [.ref e0, .ref s0, .ref h0, .ref c0])), (e0, .inr (1, [.ref eb, .ref es, .int (nI 1)])), (eb, .inl (E.2.1, 1920, .inl f)), (es, .inl (E.2.2.1, 24, .inl sz)), (s0, .inr (5, [.ref m0, .ref d0, .ref h0, .ref x0])), (m0, .inl (E.2.1, 32, .inl mf)), (d0, .inl (E.2.1, 32, .inl df)), (x0, .inl (E.2.1, 112, .inl xf)), (h0, .inr (4, [.ref a1, .ref a2])), (a1, .inl (E.2.2.1, 8, .inl st)), (a2, .inl (E.2.2.1, 64, .inl wv)), (c0, .inr (0, [.int (nI bo), .int (nI bh)]))] := hD
    refine lv_aload_n hx hb d_Run_perform_0 rfl (lv_at hl 0 rfl) ?_
    refine n_get C fg_Run_12 hP 0 rfl rfl d_Run_perform_1 ?_
    refine n_get C fg_Run_79 hP 1 rfl rfl d_Run_perform_4 ?_
    refine lv_iconst (v := nI 1) hx hb d_Run_perform_7 (by decide) ?_
    refine lv_isub hx hb d_Run_perform_8 ?_
    refine tope (z := nI 0) (pk_sub (by omega)) ?_
    refine lv_istore_n (lv' := [(3, .int (nI 0)), (0, .ref u0), (1, .int (nI 82)), (2, .int ht)]) hx hb d_Run_perform_9 rfl hl (by decide) rfl (fun ls hl => ?_)
    refine lv_iload_n hx hb d_Run_perform_10 rfl (lv_at hl 2 rfl) ?_
    refine lv_tableIn hx hb d_Run_perform_11 (by decide) (by decide) rfl rfl ?_
    refine lv_aload_n hx hb d_Run_perform_138 rfl (lv_at hl 1 rfl) ?_
    refine n_get C fg_Run_12 hP 0 rfl rfl d_Run_perform_139 ?_
    refine cal_I (As := []) (rest := []) C lk_Run_91 (c_El_swapLast_no l E e0 eb es 1 f sz (by decide)) (by decide) hP hD hS 1 1 rfl rfl [1, 2, 3] rfl (by decide) hl.1 rfl (Nat.le_of_ble_eq_true rfl) d_Run_perform_142 (fun r3 w1 H locs hp4 hP hD hS => ?_)
    obtain ⟨rfl, rfl⟩ := hp4
    have hP : va_P E.1 clz [(u0, .inr (3, [.ref e0, .ref s0, .ref h0, .ref c0])), (e0, .inr (1, [.ref eb, .ref es, .int (nI 1)])), (eb, .inl (E.2.1, 1920, .inl f)), (es, .inl (E.2.2.1, 24, .inl sz)), (s0, .inr (5, [.ref m0, .ref d0, .ref h0, .ref x0])), (m0, .inl (E.2.1, 32, .inl mf)), (d0, .inl (E.2.1, 32, .inl df)), (x0, .inl (E.2.1, 112, .inl xf)), (h0, .inr (4, [.ref a1, .ref a2])), (a1, .inl (E.2.2.1, 8, .inl st)), (a2, .inl (E.2.2.1, 64, .inl wv)), (c0, .inr (0, [.int (nI bo), .int (nI bh)]))] H := hP
    have hD : va_D A [(u0, .inr (3, [.ref e0, .ref s0, .ref h0, .ref c0])), (e0, .inr (1, [.ref eb, .ref es, .int (nI 1)])), (eb, .inl (E.2.1, 1920, .inl f)), (es, .inl (E.2.2.1, 24, .inl sz)), (s0, .inr (5, [.ref m0, .ref d0, .ref h0, .ref x0])), (m0, .inl (E.2.1, 32, .inl mf)), (d0, .inl (E.2.1, 32, .inl df)), (x0, .inl (E.2.1, 112, .inl xf)), (h0, .inr (4, [.ref a1, .ref a2])), (a1, .inl (E.2.2.1, 8, .inl st)), (a2, .inl (E.2.2.1, 64, .inl wv)), (c0, .inr (0, [.int (nI bo), .int (nI bh)]))] := hD
    exact kret (b2 false) [(u0, .inr (3, [.ref e0, .ref s0, .ref h0, .ref c0])), (e0, .inr (1, [.ref eb, .ref es, .int (nI 1)])), (eb, .inl (E.2.1, 1920, .inl f)), (es, .inl (E.2.2.1, 24, .inl sz)), (s0, .inr (5, [.ref m0, .ref d0, .ref h0, .ref x0])), (m0, .inl (E.2.1, 32, .inl mf)), (d0, .inl (E.2.1, 32, .inl df)), (x0, .inl (E.2.1, 112, .inl xf)), (h0, .inr (4, [.ref a1, .ref a2])), (a1, .inl (E.2.2.1, 8, .inl st)), (a2, .inl (E.2.2.1, 64, .inl wv)), (c0, .inr (0, [.int (nI bo), .int (nI bh)]))] _ _ _ _ d_Run_perform_145 (⟨_, _, _, _, _, _, _, rfl, hB, Or.inr ⟨rfl, rfl⟩⟩) rfl hP hS
  · have hx1 : sz (S.length + 1) = nI x.length ∧ x.length ≤ 80 ∧ lay f ((S.length + 1) * 80) x := rep_top hrep
    have hy1 : sz S.length = nI y.length ∧ y.length ≤ 80 ∧ lay f (S.length * 80) y := rep_top (rep_tail hrep)
    have hr0 : rep f sz S := rep_tail (rep_tail hrep)
    have hlen : S.length + 2 ≤ 24 := hlen
    have hP : va_P E.1 clz [(u0, .inr (3, [.ref e0, .ref s0, .ref h0, .ref c0])), (e0, .inr (1, [.ref eb, .ref es, .int (nI (S.length + 2))])), (eb, .inl (E.2.1, 1920, .inl f)), (es, .inl (E.2.2.1, 24, .inl sz)), (s0, .inr (5, [.ref m0, .ref d0, .ref h0, .ref x0])), (m0, .inl (E.2.1, 32, .inl mf)), (d0, .inl (E.2.1, 32, .inl df)), (x0, .inl (E.2.1, 112, .inl xf)), (h0, .inr (4, [.ref a1, .ref a2])), (a1, .inl (E.2.2.1, 8, .inl st)), (a2, .inl (E.2.2.1, 64, .inl wv)), (c0, .inr (0, [.int (nI bo), .int (nI bh)]))] H := hP
    have hD : va_D A [(u0, .inr (3, [.ref e0, .ref s0, .ref h0, .ref c0])), (e0, .inr (1, [.ref eb, .ref es, .int (nI (S.length + 2))])), (eb, .inl (E.2.1, 1920, .inl f)), (es, .inl (E.2.2.1, 24, .inl sz)), (s0, .inr (5, [.ref m0, .ref d0, .ref h0, .ref x0])), (m0, .inl (E.2.1, 32, .inl mf)), (d0, .inl (E.2.1, 32, .inl df)), (x0, .inl (E.2.1, 112, .inl xf)), (h0, .inr (4, [.ref a1, .ref a2])), (a1, .inl (E.2.2.1, 8, .inl st)), (a2, .inl (E.2.2.1, 64, .inl wv)), (c0, .inr (0, [.int (nI bo), .int (nI bh)]))] := hD
    refine lv_aload_n hx hb d_Run_perform_0 rfl (lv_at hl 0 rfl) ?_
    refine n_get C fg_Run_12 hP 0 rfl rfl d_Run_perform_1 ?_
    refine n_get C fg_Run_79 hP 1 rfl rfl d_Run_perform_4 ?_
    refine lv_iconst (v := nI 1) hx hb d_Run_perform_7 (by decide) ?_
    refine lv_isub hx hb d_Run_perform_8 ?_
    refine tope (z := nI (S.length + 1)) ((pk_sub (by omega)).trans (congrArg nI (by omega))) ?_
    refine lv_istore_n (lv' := [(3, .int (nI (S.length + 1))), (0, .ref u0), (1, .int (nI 82)), (2, .int ht)]) hx hb d_Run_perform_9 rfl hl (by decide) rfl (fun ls hl => ?_)
    refine lv_iload_n hx hb d_Run_perform_10 rfl (lv_at hl 2 rfl) ?_
    refine lv_tableIn hx hb d_Run_perform_11 (by decide) (by decide) rfl rfl ?_
    refine lv_aload_n hx hb d_Run_perform_138 rfl (lv_at hl 1 rfl) ?_
    refine n_get C fg_Run_12 hP 0 rfl rfl d_Run_perform_139 ?_
    refine cal_I (As := []) (rest := []) C lk_Run_91 (c_El_swapLast l E e0 eb es S.length f sz (by omega) hB) (by decide) hP hD hS 1 1 rfl rfl [1, 2, 3] rfl (by decide) hl.1 rfl (Nat.le_of_ble_eq_true rfl) d_Run_perform_142 (fun r5 w1 H locs hp6 hP hD hS => ?_)
    obtain ⟨rfl, rfl⟩ := hp6
    have hP : va_P E.1 clz [(u0, .inr (3, [.ref e0, .ref s0, .ref h0, .ref c0])), (e0, .inr (1, [.ref eb, .ref es, .int (nI (S.length + 2))])), (eb, .inl (E.2.1, 1920, .inl (swp f (S.length * 80) 80))), (es, .inl (E.2.2.1, 24, .inl (upd (upd sz S.length (sz (S.length + 1))) (S.length + 1) (sz S.length)))), (s0, .inr (5, [.ref m0, .ref d0, .ref h0, .ref x0])), (m0, .inl (E.2.1, 32, .inl mf)), (d0, .inl (E.2.1, 32, .inl df)), (x0, .inl (E.2.1, 112, .inl xf)), (h0, .inr (4, [.ref a1, .ref a2])), (a1, .inl (E.2.2.1, 8, .inl st)), (a2, .inl (E.2.2.1, 64, .inl wv)), (c0, .inr (0, [.int (nI bo), .int (nI bh)]))] H := hP
    have hD : va_D A [(u0, .inr (3, [.ref e0, .ref s0, .ref h0, .ref c0])), (e0, .inr (1, [.ref eb, .ref es, .int (nI (S.length + 2))])), (eb, .inl (E.2.1, 1920, .inl (swp f (S.length * 80) 80))), (es, .inl (E.2.2.1, 24, .inl (upd (upd sz S.length (sz (S.length + 1))) (S.length + 1) (sz S.length)))), (s0, .inr (5, [.ref m0, .ref d0, .ref h0, .ref x0])), (m0, .inl (E.2.1, 32, .inl mf)), (d0, .inl (E.2.1, 32, .inl df)), (x0, .inl (E.2.1, 112, .inl xf)), (h0, .inr (4, [.ref a1, .ref a2])), (a1, .inl (E.2.2.1, 8, .inl st)), (a2, .inl (E.2.2.1, 64, .inl wv)), (c0, .inr (0, [.int (nI bo), .int (nI bh)]))] := hD
    exact kret (b2 true) [(u0, .inr (3, [.ref e0, .ref s0, .ref h0, .ref c0])), (e0, .inr (1, [.ref eb, .ref es, .int (nI (S.length + 2))])), (eb, .inl (E.2.1, 1920, .inl (swp f (S.length * 80) 80))), (es, .inl (E.2.2.1, 24, .inl (upd (upd sz S.length (sz (S.length + 1))) (S.length + 1) (sz S.length)))), (s0, .inr (5, [.ref m0, .ref d0, .ref h0, .ref x0])), (m0, .inl (E.2.1, 32, .inl mf)), (d0, .inl (E.2.1, 32, .inl df)), (x0, .inl (E.2.1, 112, .inl xf)), (h0, .inr (4, [.ref a1, .ref a2])), (a1, .inl (E.2.2.1, 8, .inl st)), (a2, .inl (E.2.2.1, 64, .inl wv)), (c0, .inr (0, [.int (nI bo), .int (nI bh)]))] _ _ _ _ d_Run_perform_145 (⟨_, _, _, _, _, _, _, rfl, swp_B _ _ hB, Or.inl ⟨(y :: x :: S), rfl, rfl, by first | rfl | (simp only [List.length_cons]; omega) | (simp only [List.length_cons]), rep_swp hrep, by first | (simp only [List.length_cons]; omega) | (simp only [List.length_cons]) | omega⟩⟩) rfl hP hS

set_option maxHeartbeats 4000000 in
set_option maxRecDepth 100000 in
theorem c_perf_83 (l : Launch) (E : En) (u0 e0 eb es s0 m0 d0 x0 h0 a1 a2 c0 bo bh : Nat) (mf f sz df xf st wv : Nat → Int32) (S : Stk) (msg : Byl) (hrep : rep f sz S) (hB : fB f) (hBm : fB mf) (hlen : S.length ≤ 24) (hm : lay mf 0 msg) (hm32 : msg.length = 32) (ht : Int32) : CtI l y_Run_perform b_Run_perform 4 .boolean (rmd 5) E [.ref u0, .int (nI 83), .int ht] [(u0, .inr (3, [.ref e0, .ref s0, .ref h0, .ref c0])), (e0, .inr (1, [.ref eb, .ref es, .int (nI S.length)])), (eb, .inl (E.2.1, 1920, .inl f)), (es, .inl (E.2.2.1, 24, .inl sz)), (s0, .inr (5, [.ref m0, .ref d0, .ref h0, .ref x0])), (m0, .inl (E.2.1, 32, .inl mf)), (d0, .inl (E.2.1, 32, .inl df)), (x0, .inl (E.2.1, 112, .inl xf)), (h0, .inr (4, [.ref a1, .ref a2])), (a1, .inl (E.2.2.1, 8, .inl st)), (a2, .inl (E.2.2.1, 64, .inl wv)), (c0, .inr (0, [.int (nI bo), .int (nI bh)]))] (stepP E u0 e0 eb es s0 m0 d0 x0 h0 a1 a2 c0 bo bh mf (actS 83 ht msg S)) := by
  refine CtI.of (by decide) (Nat.le_of_ble_eq_true rfl) (stepP_nar) ?_
  intro p e s m args below meth c A Q H locs ls C hP hD hS hl kret
  have hx := C.1
  have hb := C.2.1
  have hl : lv_has ls 4 [(0, .ref u0), (1, .int (nI 83)), (2, .int ht)] := hl
  rcases S with _ | ⟨x, _ | ⟨y, S⟩⟩
  · have hP : va_P E.1 clz [(u0, .inr (3, [.ref e0, .ref s0, .ref h0, .ref c0])), (e0, .inr (1, [.ref eb, .ref es, .int (nI 0)])), (eb, .inl (E.2.1, 1920, .inl f)), (es, .inl (E.2.2.1, 24, .inl sz)), (s0, .inr (5, [.ref m0, .ref d0, .ref h0, .ref x0])), (m0, .inl (E.2.1, 32, .inl mf)), (d0, .inl (E.2.1, 32, .inl df)), (x0, .inl (E.2.1, 112, .inl xf)), (h0, .inr (4, [.ref a1, .ref a2])), (a1, .inl (E.2.2.1, 8, .inl st)), (a2, .inl (E.2.2.1, 64, .inl wv)), (c0, .inr (0, [.int (nI bo), .int (nI bh)]))] H := hP
    have hD : va_D A [(u0, .inr (3, [.ref e0, .ref s0, .ref h0, .ref c0])), (e0, .inr (1, [.ref eb, .ref es, .int (nI 0)])), (eb, .inl (E.2.1, 1920, .inl f)), (es, .inl (E.2.2.1, 24, .inl sz)), (s0, .inr (5, [.ref m0, .ref d0, .ref h0, .ref x0])), (m0, .inl (E.2.1, 32, .inl mf)), (d0, .inl (E.2.1, 32, .inl df)), (x0, .inl (E.2.1, 112, .inl xf)), (h0, .inr (4, [.ref a1, .ref a2])), (a1, .inl (E.2.2.1, 8, .inl st)), (a2, .inl (E.2.2.1, 64, .inl wv)), (c0, .inr (0, [.int (nI bo), .int (nI bh)]))] := hD
    refine lv_aload_n hx hb d_Run_perform_0 rfl (lv_at hl 0 rfl) ?_
    refine n_get C fg_Run_12 hP 0 rfl rfl d_Run_perform_1 ?_
    refine n_get C fg_Run_79 hP 1 rfl rfl d_Run_perform_4 ?_
    refine lv_iconst (v := nI 1) hx hb d_Run_perform_7 (by decide) ?_
    refine lv_isub hx hb d_Run_perform_8 ?_
    refine tope (z := (-1)) (by decide) ?_
    refine lv_istore_n (lv' := [(3, .int (-1)), (0, .ref u0), (1, .int (nI 83)), (2, .int ht)]) hx hb d_Run_perform_9 rfl hl (by decide) rfl (fun ls hl => ?_)
    refine lv_iload_n hx hb d_Run_perform_10 rfl (lv_at hl 2 rfl) ?_
    refine lv_tableIn hx hb d_Run_perform_11 (by decide) (by decide) rfl rfl ?_
    refine lv_aload_n hx hb d_Run_perform_146 rfl (lv_at hl 1 rfl) ?_
    refine n_get C fg_Run_12 hP 0 rfl rfl d_Run_perform_147 ?_
    refine lv_iload_n hx hb d_Run_perform_150 rfl (lv_at hl 0 rfl) ?_
    refine lv_iconst (v := nI 1) hx hb d_Run_perform_151 (by decide) ?_
    refine lv_isub hx hb d_Run_perform_152 ?_
    refine tope (z := (-2)) (by decide) ?_
    refine cal_I (As := [.int (-2)]) (rest := []) C lk_Run_88 (c_El_pushCopy_no l E e0 eb es 0 f sz (-2) (by first | exact hasB_m1 _ | exact hasB_m2 _)) (by decide) hP hD hS 1 1 rfl rfl [1, 2, 3] rfl (by decide) hl.1 rfl (Nat.le_of_ble_eq_true rfl) d_Run_perform_153 (fun r1 w1 H locs hp2 hP hD hS => ?_)
    obtain ⟨rfl, rfl⟩ := hp2
    have hP : va_P E.1 clz [(u0, .inr (3, [.ref e0, .ref s0, .ref h0, .ref c0])), (e0, .inr (1, [.ref eb, .ref es, .int (nI 0)])), (eb, .inl (E.2.1, 1920, .inl f)), (es, .inl (E.2.2.1, 24, .inl sz)), (s0, .inr (5, [.ref m0, .ref d0, .ref h0, .ref x0])), (m0, .inl (E.2.1, 32, .inl mf)), (d0, .inl (E.2.1, 32, .inl df)), (x0, .inl (E.2.1, 112, .inl xf)), (h0, .inr (4, [.ref a1, .ref a2])), (a1, .inl (E.2.2.1, 8, .inl st)), (a2, .inl (E.2.2.1, 64, .inl wv)), (c0, .inr (0, [.int (nI bo), .int (nI bh)]))] H := hP
    have hD : va_D A [(u0, .inr (3, [.ref e0, .ref s0, .ref h0, .ref c0])), (e0, .inr (1, [.ref eb, .ref es, .int (nI 0)])), (eb, .inl (E.2.1, 1920, .inl f)), (es, .inl (E.2.2.1, 24, .inl sz)), (s0, .inr (5, [.ref m0, .ref d0, .ref h0, .ref x0])), (m0, .inl (E.2.1, 32, .inl mf)), (d0, .inl (E.2.1, 32, .inl df)), (x0, .inl (E.2.1, 112, .inl xf)), (h0, .inr (4, [.ref a1, .ref a2])), (a1, .inl (E.2.2.1, 8, .inl st)), (a2, .inl (E.2.2.1, 64, .inl wv)), (c0, .inr (0, [.int (nI bo), .int (nI bh)]))] := hD
    exact kret (b2 false) [(u0, .inr (3, [.ref e0, .ref s0, .ref h0, .ref c0])), (e0, .inr (1, [.ref eb, .ref es, .int (nI 0)])), (eb, .inl (E.2.1, 1920, .inl f)), (es, .inl (E.2.2.1, 24, .inl sz)), (s0, .inr (5, [.ref m0, .ref d0, .ref h0, .ref x0])), (m0, .inl (E.2.1, 32, .inl mf)), (d0, .inl (E.2.1, 32, .inl df)), (x0, .inl (E.2.1, 112, .inl xf)), (h0, .inr (4, [.ref a1, .ref a2])), (a1, .inl (E.2.2.1, 8, .inl st)), (a2, .inl (E.2.2.1, 64, .inl wv)), (c0, .inr (0, [.int (nI bo), .int (nI bh)]))] _ _ _ _ d_Run_perform_156 (⟨_, _, _, _, _, _, _, rfl, hB, Or.inr ⟨rfl, rfl⟩⟩) rfl hP hS
  · have hx1 : sz 0 = nI x.length ∧ x.length ≤ 80 ∧ lay f (0 * 80) x := rep_top hrep
    have hP : va_P E.1 clz [(u0, .inr (3, [.ref e0, .ref s0, .ref h0, .ref c0])), (e0, .inr (1, [.ref eb, .ref es, .int (nI 1)])), (eb, .inl (E.2.1, 1920, .inl f)), (es, .inl (E.2.2.1, 24, .inl sz)), (s0, .inr (5, [.ref m0, .ref d0, .ref h0, .ref x0])), (m0, .inl (E.2.1, 32, .inl mf)), (d0, .inl (E.2.1, 32, .inl df)), (x0, .inl (E.2.1, 112, .inl xf)), (h0, .inr (4, [.ref a1, .ref a2])), (a1, .inl (E.2.2.1, 8, .inl st)), (a2, .inl (E.2.2.1, 64, .inl wv)), (c0, .inr (0, [.int (nI bo), .int (nI bh)]))] H := hP
    have hD : va_D A [(u0, .inr (3, [.ref e0, .ref s0, .ref h0, .ref c0])), (e0, .inr (1, [.ref eb, .ref es, .int (nI 1)])), (eb, .inl (E.2.1, 1920, .inl f)), (es, .inl (E.2.2.1, 24, .inl sz)), (s0, .inr (5, [.ref m0, .ref d0, .ref h0, .ref x0])), (m0, .inl (E.2.1, 32, .inl mf)), (d0, .inl (E.2.1, 32, .inl df)), (x0, .inl (E.2.1, 112, .inl xf)), (h0, .inr (4, [.ref a1, .ref a2])), (a1, .inl (E.2.2.1, 8, .inl st)), (a2, .inl (E.2.2.1, 64, .inl wv)), (c0, .inr (0, [.int (nI bo), .int (nI bh)]))] := hD
    refine lv_aload_n hx hb d_Run_perform_0 rfl (lv_at hl 0 rfl) ?_
    refine n_get C fg_Run_12 hP 0 rfl rfl d_Run_perform_1 ?_
    refine n_get C fg_Run_79 hP 1 rfl rfl d_Run_perform_4 ?_
    refine lv_iconst (v := nI 1) hx hb d_Run_perform_7 (by decide) ?_
    refine lv_isub hx hb d_Run_perform_8 ?_
    refine tope (z := nI 0) (pk_sub (by omega)) ?_
    refine lv_istore_n (lv' := [(3, .int (nI 0)), (0, .ref u0), (1, .int (nI 83)), (2, .int ht)]) hx hb d_Run_perform_9 rfl hl (by decide) rfl (fun ls hl => ?_)
    refine lv_iload_n hx hb d_Run_perform_10 rfl (lv_at hl 2 rfl) ?_
    refine lv_tableIn hx hb d_Run_perform_11 (by decide) (by decide) rfl rfl ?_
    refine lv_aload_n hx hb d_Run_perform_146 rfl (lv_at hl 1 rfl) ?_
    refine n_get C fg_Run_12 hP 0 rfl rfl d_Run_perform_147 ?_
    refine lv_iload_n hx hb d_Run_perform_150 rfl (lv_at hl 0 rfl) ?_
    refine lv_iconst (v := nI 1) hx hb d_Run_perform_151 (by decide) ?_
    refine lv_isub hx hb d_Run_perform_152 ?_
    refine tope (z := (-1)) (by decide) ?_
    refine cal_I (As := [.int (-1)]) (rest := []) C lk_Run_88 (c_El_pushCopy_no l E e0 eb es 1 f sz (-1) (by first | exact hasB_m1 _ | exact hasB_m2 _)) (by decide) hP hD hS 1 1 rfl rfl [1, 2, 3] rfl (by decide) hl.1 rfl (Nat.le_of_ble_eq_true rfl) d_Run_perform_153 (fun r3 w1 H locs hp4 hP hD hS => ?_)
    obtain ⟨rfl, rfl⟩ := hp4
    have hP : va_P E.1 clz [(u0, .inr (3, [.ref e0, .ref s0, .ref h0, .ref c0])), (e0, .inr (1, [.ref eb, .ref es, .int (nI 1)])), (eb, .inl (E.2.1, 1920, .inl f)), (es, .inl (E.2.2.1, 24, .inl sz)), (s0, .inr (5, [.ref m0, .ref d0, .ref h0, .ref x0])), (m0, .inl (E.2.1, 32, .inl mf)), (d0, .inl (E.2.1, 32, .inl df)), (x0, .inl (E.2.1, 112, .inl xf)), (h0, .inr (4, [.ref a1, .ref a2])), (a1, .inl (E.2.2.1, 8, .inl st)), (a2, .inl (E.2.2.1, 64, .inl wv)), (c0, .inr (0, [.int (nI bo), .int (nI bh)]))] H := hP
    have hD : va_D A [(u0, .inr (3, [.ref e0, .ref s0, .ref h0, .ref c0])), (e0, .inr (1, [.ref eb, .ref es, .int (nI 1)])), (eb, .inl (E.2.1, 1920, .inl f)), (es, .inl (E.2.2.1, 24, .inl sz)), (s0, .inr (5, [.ref m0, .ref d0, .ref h0, .ref x0])), (m0, .inl (E.2.1, 32, .inl mf)), (d0, .inl (E.2.1, 32, .inl df)), (x0, .inl (E.2.1, 112, .inl xf)), (h0, .inr (4, [.ref a1, .ref a2])), (a1, .inl (E.2.2.1, 8, .inl st)), (a2, .inl (E.2.2.1, 64, .inl wv)), (c0, .inr (0, [.int (nI bo), .int (nI bh)]))] := hD
    exact kret (b2 false) [(u0, .inr (3, [.ref e0, .ref s0, .ref h0, .ref c0])), (e0, .inr (1, [.ref eb, .ref es, .int (nI 1)])), (eb, .inl (E.2.1, 1920, .inl f)), (es, .inl (E.2.2.1, 24, .inl sz)), (s0, .inr (5, [.ref m0, .ref d0, .ref h0, .ref x0])), (m0, .inl (E.2.1, 32, .inl mf)), (d0, .inl (E.2.1, 32, .inl df)), (x0, .inl (E.2.1, 112, .inl xf)), (h0, .inr (4, [.ref a1, .ref a2])), (a1, .inl (E.2.2.1, 8, .inl st)), (a2, .inl (E.2.2.1, 64, .inl wv)), (c0, .inr (0, [.int (nI bo), .int (nI bh)]))] _ _ _ _ d_Run_perform_156 (⟨_, _, _, _, _, _, _, rfl, hB, Or.inr ⟨rfl, rfl⟩⟩) rfl hP hS
  · have hx1 : sz (S.length + 1) = nI x.length ∧ x.length ≤ 80 ∧ lay f ((S.length + 1) * 80) x := rep_top hrep
    have hy1 : sz S.length = nI y.length ∧ y.length ≤ 80 ∧ lay f (S.length * 80) y := rep_top (rep_tail hrep)
    have hr0 : rep f sz S := rep_tail (rep_tail hrep)
    have hlen : S.length + 2 ≤ 24 := hlen
    have hP : va_P E.1 clz [(u0, .inr (3, [.ref e0, .ref s0, .ref h0, .ref c0])), (e0, .inr (1, [.ref eb, .ref es, .int (nI (S.length + 2))])), (eb, .inl (E.2.1, 1920, .inl f)), (es, .inl (E.2.2.1, 24, .inl sz)), (s0, .inr (5, [.ref m0, .ref d0, .ref h0, .ref x0])), (m0, .inl (E.2.1, 32, .inl mf)), (d0, .inl (E.2.1, 32, .inl df)), (x0, .inl (E.2.1, 112, .inl xf)), (h0, .inr (4, [.ref a1, .ref a2])), (a1, .inl (E.2.2.1, 8, .inl st)), (a2, .inl (E.2.2.1, 64, .inl wv)), (c0, .inr (0, [.int (nI bo), .int (nI bh)]))] H := hP
    have hD : va_D A [(u0, .inr (3, [.ref e0, .ref s0, .ref h0, .ref c0])), (e0, .inr (1, [.ref eb, .ref es, .int (nI (S.length + 2))])), (eb, .inl (E.2.1, 1920, .inl f)), (es, .inl (E.2.2.1, 24, .inl sz)), (s0, .inr (5, [.ref m0, .ref d0, .ref h0, .ref x0])), (m0, .inl (E.2.1, 32, .inl mf)), (d0, .inl (E.2.1, 32, .inl df)), (x0, .inl (E.2.1, 112, .inl xf)), (h0, .inr (4, [.ref a1, .ref a2])), (a1, .inl (E.2.2.1, 8, .inl st)), (a2, .inl (E.2.2.1, 64, .inl wv)), (c0, .inr (0, [.int (nI bo), .int (nI bh)]))] := hD
    rcases Nat.lt_or_ge (S.length + 2) 24 with h24 | h24
    · refine lv_aload_n hx hb d_Run_perform_0 rfl (lv_at hl 0 rfl) ?_
      refine n_get C fg_Run_12 hP 0 rfl rfl d_Run_perform_1 ?_
      refine n_get C fg_Run_79 hP 1 rfl rfl d_Run_perform_4 ?_
      refine lv_iconst (v := nI 1) hx hb d_Run_perform_7 (by decide) ?_
      refine lv_isub hx hb d_Run_perform_8 ?_
      refine tope (z := nI (S.length + 1)) ((pk_sub (by omega)).trans (congrArg nI (by omega))) ?_
      refine lv_istore_n (lv' := [(3, .int (nI (S.length + 1))), (0, .ref u0), (1, .int (nI 83)), (2, .int ht)]) hx hb d_Run_perform_9 rfl hl (by decide) rfl (fun ls hl => ?_)
      refine lv_iload_n hx hb d_Run_perform_10 rfl (lv_at hl 2 rfl) ?_
      refine lv_tableIn hx hb d_Run_perform_11 (by decide) (by decide) rfl rfl ?_
      refine lv_aload_n hx hb d_Run_perform_146 rfl (lv_at hl 1 rfl) ?_
      refine n_get C fg_Run_12 hP 0 rfl rfl d_Run_perform_147 ?_
      refine lv_iload_n hx hb d_Run_perform_150 rfl (lv_at hl 0 rfl) ?_
      refine lv_iconst (v := nI 1) hx hb d_Run_perform_151 (by decide) ?_
      refine lv_isub hx hb d_Run_perform_152 ?_
      refine tope (z := nI S.length) ((pk_sub (by omega)).trans (congrArg nI (by omega))) ?_
      refine cal_I (As := [.int (nI S.length)]) (rest := []) C lk_Run_88 (c_El_pushCopy l E e0 eb es (S.length + 2) f sz S.length y.length (by omega) hy1.1 hy1.2.1 (by omega) hB) (by decide) hP hD hS 1 1 rfl rfl [1, 2, 3] rfl (by decide) hl.1 rfl (Nat.le_of_ble_eq_true rfl) d_Run_perform_153 (fun r5 w1 H locs hp6 hP hD hS => ?_)
      obtain ⟨rfl, rfl⟩ := hp6
      have hP : va_P E.1 clz [(u0, .inr (3, [.ref e0, .ref s0, .ref h0, .ref c0])), (e0, .inr (1, [.ref eb, .ref es, .int (nI (S.length + 2 + 1))])), (eb, .inl (E.2.1, 1920, .inl (va_cpy f f (S.length * 80) ((S.length + 2) * 80) y.length))), (es, .inl (E.2.2.1, 24, .inl (upd sz (S.length + 2) (nI y.length)))), (s0, .inr (5, [.ref m0, .ref d0, .ref h0, .ref x0])), (m0, .inl (E.2.1, 32, .inl mf)), (d0, .inl (E.2.1, 32, .inl df)), (x0, .inl (E.2.1, 112, .inl xf)), (h0, .inr (4, [.ref a1, .ref a2])), (a1, .inl (E.2.2.1, 8, .inl st)), (a2, .inl (E.2.2.1, 64, .inl wv)), (c0, .inr (0, [.int (nI bo), .int (nI bh)]))] H := hP
      have hD : va_D A [(u0, .inr (3, [.ref e0, .ref s0, .ref h0, .ref c0])), (e0, .inr (1, [.ref eb, .ref es, .int (nI (S.length + 2 + 1))])), (eb, .inl (E.2.1, 1920, .inl (va_cpy f f (S.length * 80) ((S.length + 2) * 80) y.length))), (es, .inl (E.2.2.1, 24, .inl (upd sz (S.length + 2) (nI y.length)))), (s0, .inr (5, [.ref m0, .ref d0, .ref h0, .ref x0])), (m0, .inl (E.2.1, 32, .inl mf)), (d0, .inl (E.2.1, 32, .inl df)), (x0, .inl (E.2.1, 112, .inl xf)), (h0, .inr (4, [.ref a1, .ref a2])), (a1, .inl (E.2.2.1, 8, .inl st)), (a2, .inl (E.2.2.1, 64, .inl wv)), (c0, .inr (0, [.int (nI bo), .int (nI bh)]))] := hD
      exact kret (b2 true) [(u0, .inr (3, [.ref e0, .ref s0, .ref h0, .ref c0])), (e0, .inr (1, [.ref eb, .ref es, .int (nI (S.length + 2 + 1))])), (eb, .inl (E.2.1, 1920, .inl (va_cpy f f (S.length * 80) ((S.length + 2) * 80) y.length))), (es, .inl (E.2.2.1, 24, .inl (upd sz (S.length + 2) (nI y.length)))), (s0, .inr (5, [.ref m0, .ref d0, .ref h0, .ref x0])), (m0, .inl (E.2.1, 32, .inl mf)), (d0, .inl (E.2.1, 32, .inl df)), (x0, .inl (E.2.1, 112, .inl xf)), (h0, .inr (4, [.ref a1, .ref a2])), (a1, .inl (E.2.2.1, 8, .inl st)), (a2, .inl (E.2.2.1, 64, .inl wv)), (c0, .inr (0, [.int (nI bo), .int (nI bh)]))] _ _ _ _ d_Run_perform_156 (⟨_, _, _, _, _, _, _, rfl, fB_cpy hB hB, Or.inl ⟨(y :: x :: y :: S), by show pushE _ _ = _; unfold pushE; rw [if_pos (by first | (simp only [List.length_cons]; omega) | omega)], rfl, by first | rfl | (simp only [List.length_cons]; omega) | (simp only [List.length_cons]), rep_cpy hrep rfl rfl hy1.2.1 hy1.2.2, by first | (simp only [List.length_cons]; omega) | (simp only [List.length_cons]) | omega⟩⟩) rfl hP hS
    · refine lv_aload_n hx hb d_Run_perform_0 rfl (lv_at hl 0 rfl) ?_
      refine n_get C fg_Run_12 hP 0 rfl rfl d_Run_perform_1 ?_
      refine n_get C fg_Run_79 hP 1 rfl rfl d_Run_perform_4 ?_
      refine lv_iconst (v := nI 1) hx hb d_Run_perform_7 (by decide) ?_
      refine lv_isub hx hb d_Run_perform_8 ?_
      refine tope (z := nI (S.length + 1)) ((pk_sub (by omega)).trans (congrArg nI (by omega))) ?_
      refine lv_istore_n (lv' := [(3, .int (nI (S.length + 1))), (0, .ref u0), (1, .int (nI 83)), (2, .int ht)]) hx hb d_Run_perform_9 rfl hl (by decide) rfl (fun ls hl => ?_)
      refine lv_iload_n hx hb d_Run_perform_10 rfl (lv_at hl 2 rfl) ?_
      refine lv_tableIn hx hb d_Run_perform_11 (by decide) (by decide) rfl rfl ?_
      refine lv_aload_n hx hb d_Run_perform_146 rfl (lv_at hl 1 rfl) ?_
      refine n_get C fg_Run_12 hP 0 rfl rfl d_Run_perform_147 ?_
      refine lv_iload_n hx hb d_Run_perform_150 rfl (lv_at hl 0 rfl) ?_
      refine lv_iconst (v := nI 1) hx hb d_Run_perform_151 (by decide) ?_
      refine lv_isub hx hb d_Run_perform_152 ?_
      refine tope (z := nI S.length) ((pk_sub (by omega)).trans (congrArg nI (by omega))) ?_
      refine cal_I (As := [.int (nI S.length)]) (rest := []) C lk_Run_88 (c_El_pushCopy_full l E e0 eb es (S.length + 2) f sz S.length y.length (by omega) hy1.1 hy1.2.1 (by omega) (by omega)) (by decide) hP hD hS 1 1 rfl rfl [1, 2, 3] rfl (by decide) hl.1 rfl (Nat.le_of_ble_eq_true rfl) d_Run_perform_153 (fun r7 w1 H locs hp8 hP hD hS => ?_)
      obtain ⟨rfl, rfl⟩ := hp8
      have hP : va_P E.1 clz [(u0, .inr (3, [.ref e0, .ref s0, .ref h0, .ref c0])), (e0, .inr (1, [.ref eb, .ref es, .int (nI (S.length + 2))])), (eb, .inl (E.2.1, 1920, .inl f)), (es, .inl (E.2.2.1, 24, .inl sz)), (s0, .inr (5, [.ref m0, .ref d0, .ref h0, .ref x0])), (m0, .inl (E.2.1, 32, .inl mf)), (d0, .inl (E.2.1, 32, .inl df)), (x0, .inl (E.2.1, 112, .inl xf)), (h0, .inr (4, [.ref a1, .ref a2])), (a1, .inl (E.2.2.1, 8, .inl st)), (a2, .inl (E.2.2.1, 64, .inl wv)), (c0, .inr (0, [.int (nI bo), .int (nI bh)]))] H := hP
      have hD : va_D A [(u0, .inr (3, [.ref e0, .ref s0, .ref h0, .ref c0])), (e0, .inr (1, [.ref eb, .ref es, .int (nI (S.length + 2))])), (eb, .inl (E.2.1, 1920, .inl f)), (es, .inl (E.2.2.1, 24, .inl sz)), (s0, .inr (5, [.ref m0, .ref d0, .ref h0, .ref x0])), (m0, .inl (E.2.1, 32, .inl mf)), (d0, .inl (E.2.1, 32, .inl df)), (x0, .inl (E.2.1, 112, .inl xf)), (h0, .inr (4, [.ref a1, .ref a2])), (a1, .inl (E.2.2.1, 8, .inl st)), (a2, .inl (E.2.2.1, 64, .inl wv)), (c0, .inr (0, [.int (nI bo), .int (nI bh)]))] := hD
      exact kret (b2 false) [(u0, .inr (3, [.ref e0, .ref s0, .ref h0, .ref c0])), (e0, .inr (1, [.ref eb, .ref es, .int (nI (S.length + 2))])), (eb, .inl (E.2.1, 1920, .inl f)), (es, .inl (E.2.2.1, 24, .inl sz)), (s0, .inr (5, [.ref m0, .ref d0, .ref h0, .ref x0])), (m0, .inl (E.2.1, 32, .inl mf)), (d0, .inl (E.2.1, 32, .inl df)), (x0, .inl (E.2.1, 112, .inl xf)), (h0, .inr (4, [.ref a1, .ref a2])), (a1, .inl (E.2.2.1, 8, .inl st)), (a2, .inl (E.2.2.1, 64, .inl wv)), (c0, .inr (0, [.int (nI bo), .int (nI bh)]))] _ _ _ _ d_Run_perform_156 (⟨_, _, _, _, _, _, _, rfl, hB, Or.inr ⟨by show pushE _ _ = _; unfold pushE; rw [if_neg (by first | (simp only [List.length_cons]; omega) | omega)], rfl⟩⟩) rfl hP hS

set_option maxHeartbeats 4000000 in
set_option maxRecDepth 100000 in
theorem c_perf_85 (l : Launch) (E : En) (u0 e0 eb es s0 m0 d0 x0 h0 a1 a2 c0 bo bh : Nat) (mf f sz df xf st wv : Nat → Int32) (S : Stk) (msg : Byl) (hrep : rep f sz S) (hB : fB f) (hBm : fB mf) (hlen : S.length ≤ 24) (hm : lay mf 0 msg) (hm32 : msg.length = 32) (ht : Int32) : CtI l y_Run_perform b_Run_perform 4 .boolean (rmd 5) E [.ref u0, .int (nI 85), .int ht] [(u0, .inr (3, [.ref e0, .ref s0, .ref h0, .ref c0])), (e0, .inr (1, [.ref eb, .ref es, .int (nI S.length)])), (eb, .inl (E.2.1, 1920, .inl f)), (es, .inl (E.2.2.1, 24, .inl sz)), (s0, .inr (5, [.ref m0, .ref d0, .ref h0, .ref x0])), (m0, .inl (E.2.1, 32, .inl mf)), (d0, .inl (E.2.1, 32, .inl df)), (x0, .inl (E.2.1, 112, .inl xf)), (h0, .inr (4, [.ref a1, .ref a2])), (a1, .inl (E.2.2.1, 8, .inl st)), (a2, .inl (E.2.2.1, 64, .inl wv)), (c0, .inr (0, [.int (nI bo), .int (nI bh)]))] (stepP E u0 e0 eb es s0 m0 d0 x0 h0 a1 a2 c0 bo bh mf (actS 85 ht msg S)) := by
  refine CtI.of (by decide) (Nat.le_of_ble_eq_true rfl) (stepP_nar) ?_
  intro p e s m args below meth c A Q H locs ls C hP hD hS hl kret
  have hx := C.1
  have hb := C.2.1
  have hl : lv_has ls 4 [(0, .ref u0), (1, .int (nI 85)), (2, .int ht)] := hl
  rcases S with _ | ⟨x, S⟩
  · have hP : va_P E.1 clz [(u0, .inr (3, [.ref e0, .ref s0, .ref h0, .ref c0])), (e0, .inr (1, [.ref eb, .ref es, .int (nI 0)])), (eb, .inl (E.2.1, 1920, .inl f)), (es, .inl (E.2.2.1, 24, .inl sz)), (s0, .inr (5, [.ref m0, .ref d0, .ref h0, .ref x0])), (m0, .inl (E.2.1, 32, .inl mf)), (d0, .inl (E.2.1, 32, .inl df)), (x0, .inl (E.2.1, 112, .inl xf)), (h0, .inr (4, [.ref a1, .ref a2])), (a1, .inl (E.2.2.1, 8, .inl st)), (a2, .inl (E.2.2.1, 64, .inl wv)), (c0, .inr (0, [.int (nI bo), .int (nI bh)]))] H := hP
    have hD : va_D A [(u0, .inr (3, [.ref e0, .ref s0, .ref h0, .ref c0])), (e0, .inr (1, [.ref eb, .ref es, .int (nI 0)])), (eb, .inl (E.2.1, 1920, .inl f)), (es, .inl (E.2.2.1, 24, .inl sz)), (s0, .inr (5, [.ref m0, .ref d0, .ref h0, .ref x0])), (m0, .inl (E.2.1, 32, .inl mf)), (d0, .inl (E.2.1, 32, .inl df)), (x0, .inl (E.2.1, 112, .inl xf)), (h0, .inr (4, [.ref a1, .ref a2])), (a1, .inl (E.2.2.1, 8, .inl st)), (a2, .inl (E.2.2.1, 64, .inl wv)), (c0, .inr (0, [.int (nI bo), .int (nI bh)]))] := hD
    refine lv_aload_n hx hb d_Run_perform_0 rfl (lv_at hl 0 rfl) ?_
    refine n_get C fg_Run_12 hP 0 rfl rfl d_Run_perform_1 ?_
    refine n_get C fg_Run_79 hP 1 rfl rfl d_Run_perform_4 ?_
    refine lv_iconst (v := nI 1) hx hb d_Run_perform_7 (by decide) ?_
    refine lv_isub hx hb d_Run_perform_8 ?_
    refine tope (z := (-1)) (by decide) ?_
    refine lv_istore_n (lv' := [(3, .int (-1)), (0, .ref u0), (1, .int (nI 85)), (2, .int ht)]) hx hb d_Run_perform_9 rfl hl (by decide) rfl (fun ls hl => ?_)
    refine lv_iload_n hx hb d_Run_perform_10 rfl (lv_at hl 2 rfl) ?_
    refine lv_tableIn hx hb d_Run_perform_11 (by decide) (by decide) rfl rfl ?_
    refine lv_aload_n hx hb d_Run_perform_157 rfl (lv_at hl 1 rfl) ?_
    refine n_get C fg_Run_12 hP 0 rfl rfl d_Run_perform_158 ?_
    refine lv_iload_n hx hb d_Run_perform_161 rfl (lv_at hl 0 rfl) ?_
    refine cal_I (As := [.int (-1)]) (rest := []) C lk_Run_94 (c_El_has l E e0 eb es 0 (-1)) (by decide) hP hD hS 1 1 rfl rfl [1] rfl (by decide) hl.1 rfl (Nat.le_of_ble_eq_true rfl) d_Run_perform_162 (fun r1 w1 H locs hp2 hP hD hS => ?_)
    obtain ⟨rfl, rfl⟩ := hp2
    have hP : va_P E.1 clz [(u0, .inr (3, [.ref e0, .ref s0, .ref h0, .ref c0])), (e0, .inr (1, [.ref eb, .ref es, .int (nI 0)])), (eb, .inl (E.2.1, 1920, .inl f)), (es, .inl (E.2.2.1, 24, .inl sz)), (s0, .inr (5, [.ref m0, .ref d0, .ref h0, .ref x0])), (m0, .inl (E.2.1, 32, .inl mf)), (d0, .inl (E.2.1, 32, .inl df)), (x0, .inl (E.2.1, 112, .inl xf)), (h0, .inr (4, [.ref a1, .ref a2])), (a1, .inl (E.2.2.1, 8, .inl st)), (a2, .inl (E.2.2.1, 64, .inl wv)), (c0, .inr (0, [.int (nI bo), .int (nI bh)]))] H := hP
    have hD : va_D A [(u0, .inr (3, [.ref e0, .ref s0, .ref h0, .ref c0])), (e0, .inr (1, [.ref eb, .ref es, .int (nI 0)])), (eb, .inl (E.2.1, 1920, .inl f)), (es, .inl (E.2.2.1, 24, .inl sz)), (s0, .inr (5, [.ref m0, .ref d0, .ref h0, .ref x0])), (m0, .inl (E.2.1, 32, .inl mf)), (d0, .inl (E.2.1, 32, .inl df)), (x0, .inl (E.2.1, 112, .inl xf)), (h0, .inr (4, [.ref a1, .ref a2])), (a1, .inl (E.2.2.1, 8, .inl st)), (a2, .inl (E.2.2.1, 64, .inl wv)), (c0, .inr (0, [.int (nI bo), .int (nI bh)]))] := hD
    refine tope (z := b2 false) (congrArg b2 (by first | assumption | exact hasB_m1 _ | exact hasB_m2 _ | exact (hasB_nI (by omega) (by omega)).trans (decide_eq_false (by omega)))) ?_
    refine zb_eq C false rfl d_Run_perform_165 rfl (fun hc3 => ?_) (fun hc3 => absurd hc3 (by simp_all))
    refine lv_iconst (v := nI 0) hx hb d_Run_perform_191 (by decide) ?_
    exact kret (nI 0) [(u0, .inr (3, [.ref e0, .ref s0, .ref h0, .ref c0])), (e0, .inr (1, [.ref eb, .ref es, .int (nI 0)])), (eb, .inl (E.2.1, 1920, .inl f)), (es, .inl (E.2.2.1, 24, .inl sz)), (s0, .inr (5, [.ref m0, .ref d0, .ref h0, .ref x0])), (m0, .inl (E.2.1, 32, .inl mf)), (d0, .inl (E.2.1, 32, .inl df)), (x0, .inl (E.2.1, 112, .inl xf)), (h0, .inr (4, [.ref a1, .ref a2])), (a1, .inl (E.2.2.1, 8, .inl st)), (a2, .inl (E.2.2.1, 64, .inl wv)), (c0, .inr (0, [.int (nI bo), .int (nI bh)]))] _ _ _ _ d_Run_perform_192 (⟨_, _, _, _, _, _, _, rfl, hB, Or.inr ⟨rfl, rfl⟩⟩) rfl hP hS
  · have hx1 : sz S.length = nI x.length ∧ x.length ≤ 80 ∧ lay f (S.length * 80) x := rep_top hrep
    have hr0 : rep f sz S := rep_tail hrep
    have hlen : S.length + 1 ≤ 24 := hlen
    have hP : va_P E.1 clz [(u0, .inr (3, [.ref e0, .ref s0, .ref h0, .ref c0])), (e0, .inr (1, [.ref eb, .ref es, .int (nI (S.length + 1))])), (eb, .inl (E.2.1, 1920, .inl f)), (es, .inl (E.2.2.1, 24, .inl sz)), (s0, .inr (5, [.ref m0, .ref d0, .ref h0, .ref x0])), (m0, .inl (E.2.1, 32, .inl mf)), (d0, .inl (E.2.1, 32, .inl df)), (x0, .inl (E.2.1, 112, .inl xf)), (h0, .inr (4, [.ref a1, .ref a2])), (a1, .inl (E.2.2.1, 8, .inl st)), (a2, .inl (E.2.2.1, 64, .inl wv)), (c0, .inr (0, [.int (nI bo), .int (nI bh)]))] H := hP
    have hD : va_D A [(u0, .inr (3, [.ref e0, .ref s0, .ref h0, .ref c0])), (e0, .inr (1, [.ref eb, .ref es, .int (nI (S.length + 1))])), (eb, .inl (E.2.1, 1920, .inl f)), (es, .inl (E.2.2.1, 24, .inl sz)), (s0, .inr (5, [.ref m0, .ref d0, .ref h0, .ref x0])), (m0, .inl (E.2.1, 32, .inl mf)), (d0, .inl (E.2.1, 32, .inl df)), (x0, .inl (E.2.1, 112, .inl xf)), (h0, .inr (4, [.ref a1, .ref a2])), (a1, .inl (E.2.2.1, 8, .inl st)), (a2, .inl (E.2.2.1, 64, .inl wv)), (c0, .inr (0, [.int (nI bo), .int (nI bh)]))] := hD
    rcases Nat.lt_or_ge (S.length + 1) 24 with h24 | h24
    · refine lv_aload_n hx hb d_Run_perform_0 rfl (lv_at hl 0 rfl) ?_
      refine n_get C fg_Run_12 hP 0 rfl rfl d_Run_perform_1 ?_
      refine n_get C fg_Run_79 hP 1 rfl rfl d_Run_perform_4 ?_
      refine lv_iconst (v := nI 1) hx hb d_Run_perform_7 (by decide) ?_
      refine lv_isub hx hb d_Run_perform_8 ?_
      refine tope (z := nI S.length) ((pk_sub (by omega)).trans (congrArg nI (by omega))) ?_
      refine lv_istore_n (lv' := [(3, .int (nI S.length)), (0, .ref u0), (1, .int (nI 85)), (2, .int ht)]) hx hb d_Run_perform_9 rfl hl (by decide) rfl (fun ls hl => ?_)
      refine lv_iload_n hx hb d_Run_perform_10 rfl (lv_at hl 2 rfl) ?_
      refine lv_tableIn hx hb d_Run_perform_11 (by decide) (by decide) rfl rfl ?_
      refine lv_aload_n hx hb d_Run_perform_157 rfl (lv_at hl 1 rfl) ?_
      refine n_get C fg_Run_12 hP 0 rfl rfl d_Run_perform_158 ?_
      refine lv_iload_n hx hb d_Run_perform_161 rfl (lv_at hl 0 rfl) ?_
      refine cal_I (As := [.int (nI S.length)]) (rest := []) C lk_Run_94 (c_El_has l E e0 eb es (S.length + 1) (nI S.length)) (by decide) hP hD hS 1 1 rfl rfl [1] rfl (by decide) hl.1 rfl (Nat.le_of_ble_eq_true rfl) d_Run_perform_162 (fun r4 w1 H locs hp5 hP hD hS => ?_)
      obtain ⟨rfl, rfl⟩ := hp5
      have hP : va_P E.1 clz [(u0, .inr (3, [.ref e0, .ref s0, .ref h0, .ref c0])), (e0, .inr (1, [.ref eb, .ref es, .int (nI (S.length + 1))])), (eb, .inl (E.2.1, 1920, .inl f)), (es, .inl (E.2.2.1, 24, .inl sz)), (s0, .inr (5, [.ref m0, .ref d0, .ref h0, .ref x0])), (m0, .inl (E.2.1, 32, .inl mf)), (d0, .inl (E.2.1, 32, .inl df)), (x0, .inl (E.2.1, 112, .inl xf)), (h0, .inr (4, [.ref a1, .ref a2])), (a1, .inl (E.2.2.1, 8, .inl st)), (a2, .inl (E.2.2.1, 64, .inl wv)), (c0, .inr (0, [.int (nI bo), .int (nI bh)]))] H := hP
      have hD : va_D A [(u0, .inr (3, [.ref e0, .ref s0, .ref h0, .ref c0])), (e0, .inr (1, [.ref eb, .ref es, .int (nI (S.length + 1))])), (eb, .inl (E.2.1, 1920, .inl f)), (es, .inl (E.2.2.1, 24, .inl sz)), (s0, .inr (5, [.ref m0, .ref d0, .ref h0, .ref x0])), (m0, .inl (E.2.1, 32, .inl mf)), (d0, .inl (E.2.1, 32, .inl df)), (x0, .inl (E.2.1, 112, .inl xf)), (h0, .inr (4, [.ref a1, .ref a2])), (a1, .inl (E.2.2.1, 8, .inl st)), (a2, .inl (E.2.2.1, 64, .inl wv)), (c0, .inr (0, [.int (nI bo), .int (nI bh)]))] := hD
      refine tope (z := b2 true) (congrArg b2 ((hasB_nI (by omega) (by omega)).trans (decide_eq_true (by omega)))) ?_
      refine zb_eq C true rfl d_Run_perform_165 rfl (fun hc6 => absurd hc6 (by simp_all)) (fun hc6 => ?_)
      refine lv_aload_n hx hb d_Run_perform_168 rfl (lv_at hl 1 rfl) ?_
      refine n_get C fg_Run_12 hP 0 rfl rfl d_Run_perform_169 ?_
      refine lv_aload_n hx hb d_Run_perform_172 rfl (lv_at hl 1 rfl) ?_
      refine n_get C fg_Run_12 hP 0 rfl rfl d_Run_perform_173 ?_
      refine n_get C fg_Run_97 hP 1 rfl rfl d_Run_perform_176 ?_
      refine lv_iload_n hx hb d_Run_perform_179 rfl (lv_at hl 0 rfl) ?_
      refine n_iald C hP 3 rfl S.length rfl (by omega) (by omega) d_Run_perform_180 ?_
      refine tope (z := nI x.length) (hx1.1) ?_
      refine cal_I (As := [.int (nI x.length)]) (rest := []) C lk_Run_101 (c_El_pushNumber l E e0 eb es (S.length + 1) f sz (nI x.length) (by omega)) (by decide) hP hD hS 1 1 rfl rfl [1, 2, 3] rfl (by decide) hl.1 rfl (Nat.le_of_ble_eq_true rfl) d_Run_perform_181 (fun r7 w1 H locs hp8 hP hD hS => ?_)
      obtain ⟨rfl, rfl⟩ := hp8
      have hP : va_P E.1 clz [(u0, .inr (3, [.ref e0, .ref s0, .ref h0, .ref c0])), (e0, .inr (1, [.ref eb, .ref es, .int (nI (S.length + 1 + 1))])), (eb, .inl (E.2.1, 1920, .inl (pn4 f ((S.length + 1) * 80) (nI x.length)))), (es, .inl (E.2.2.1, 24, .inl (upd sz (S.length + 1) (pnz (nI x.length))))), (s0, .inr (5, [.ref m0, .ref d0, .ref h0, .ref x0])), (m0, .inl (E.2.1, 32, .inl mf)), (d0, .inl (E.2.1, 32, .inl df)), (x0, .inl (E.2.1, 112, .inl xf)), (h0, .inr (4, [.ref a1, .ref a2])), (a1, .inl (E.2.2.1, 8, .inl st)), (a2, .inl (E.2.2.1, 64, .inl wv)), (c0, .inr (0, [.int (nI bo), .int (nI bh)]))] H := hP
      have hD : va_D A [(u0, .inr (3, [.ref e0, .ref s0, .ref h0, .ref c0])), (e0, .inr (1, [.ref eb, .ref es, .int (nI (S.length + 1 + 1))])), (eb, .inl (E.2.1, 1920, .inl (pn4 f ((S.length + 1) * 80) (nI x.length)))), (es, .inl (E.2.2.1, 24, .inl (upd sz (S.length + 1) (pnz (nI x.length))))), (s0, .inr (5, [.ref m0, .ref d0, .ref h0, .ref x0])), (m0, .inl (E.2.1, 32, .inl mf)), (d0, .inl (E.2.1, 32, .inl df)), (x0, .inl (E.2.1, 112, .inl xf)), (h0, .inr (4, [.ref a1, .ref a2])), (a1, .inl (E.2.2.1, 8, .inl st)), (a2, .inl (E.2.2.1, 64, .inl wv)), (c0, .inr (0, [.int (nI bo), .int (nI bh)]))] := hD
      refine zb_eq C true rfl d_Run_perform_184 rfl (fun hc9 => absurd hc9 (by simp_all)) (fun hc9 => ?_)
      refine lv_iconst (v := nI 1) hx hb d_Run_perform_187 (by decide) ?_
      refine lv_goto hx hb d_Run_perform_188 rfl ?_
      exact kret (nI 1) [(u0, .inr (3, [.ref e0, .ref s0, .ref h0, .ref c0])), (e0, .inr (1, [.ref eb, .ref es, .int (nI (S.length + 1 + 1))])), (eb, .inl (E.2.1, 1920, .inl (pn4 f ((S.length + 1) * 80) (nI x.length)))), (es, .inl (E.2.2.1, 24, .inl (upd sz (S.length + 1) (pnz (nI x.length))))), (s0, .inr (5, [.ref m0, .ref d0, .ref h0, .ref x0])), (m0, .inl (E.2.1, 32, .inl mf)), (d0, .inl (E.2.1, 32, .inl df)), (x0, .inl (E.2.1, 112, .inl xf)), (h0, .inr (4, [.ref a1, .ref a2])), (a1, .inl (E.2.2.1, 8, .inl st)), (a2, .inl (E.2.2.1, 64, .inl wv)), (c0, .inr (0, [.int (nI bo), .int (nI bh)]))] _ _ _ _ d_Run_perform_192 (⟨_, _, _, _, _, _, _, rfl, fB_pn4 hB, Or.inl ⟨(numB (nI x.length) :: x :: S), by show pushE _ _ = _; unfold pushE; rw [if_pos (by first | (simp only [List.length_cons]; omega) | omega)], rfl, by first | rfl | (simp only [List.length_cons]; omega) | (simp only [List.length_cons]), rep_num hrep rfl, by first | (simp only [List.length_cons]; omega) | (simp only [List.length_cons]) | omega⟩⟩) rfl hP hS
    · refine lv_aload_n hx hb d_Run_perform_0 rfl (lv_at hl 0 rfl) ?_
      refine n_get C fg_Run_12 hP 0 rfl rfl d_Run_perform_1 ?_
      refine n_get C fg_Run_79 hP 1 rfl rfl d_Run_perform_4 ?_
      refine lv_iconst (v := nI 1) hx hb d_Run_perform_7 (by decide) ?_
      refine lv_isub hx hb d_Run_perform_8 ?_
      refine tope (z := nI S.length) ((pk_sub (by omega)).trans (congrArg nI (by omega))) ?_
      refine lv_istore_n (lv' := [(3, .int (nI S.length)), (0, .ref u0), (1, .int (nI 85)), (2, .int ht)]) hx hb d_Run_perform_9 rfl hl (by decide) rfl (fun ls hl => ?_)
      refine lv_iload_n hx hb d_Run_perform_10 rfl (lv_at hl 2 rfl) ?_
      refine lv_tableIn hx hb d_Run_perform_11 (by decide) (by decide) rfl rfl ?_
      refine lv_aload_n hx hb d_Run_perform_157 rfl (lv_at hl 1 rfl) ?_
      refine n_get C fg_Run_12 hP 0 rfl rfl d_Run_perform_158 ?_
      refine lv_iload_n hx hb d_Run_perform_161 rfl (lv_at hl 0 rfl) ?_
      refine cal_I (As := [.int (nI S.length)]) (rest := []) C lk_Run_94 (c_El_has l E e0 eb es (S.length + 1) (nI S.length)) (by decide) hP hD hS 1 1 rfl rfl [1] rfl (by decide) hl.1 rfl (Nat.le_of_ble_eq_true rfl) d_Run_perform_162 (fun r10 w1 H locs hp11 hP hD hS => ?_)
      obtain ⟨rfl, rfl⟩ := hp11
      have hP : va_P E.1 clz [(u0, .inr (3, [.ref e0, .ref s0, .ref h0, .ref c0])), (e0, .inr (1, [.ref eb, .ref es, .int (nI (S.length + 1))])), (eb, .inl (E.2.1, 1920, .inl f)), (es, .inl (E.2.2.1, 24, .inl sz)), (s0, .inr (5, [.ref m0, .ref d0, .ref h0, .ref x0])), (m0, .inl (E.2.1, 32, .inl mf)), (d0, .inl (E.2.1, 32, .inl df)), (x0, .inl (E.2.1, 112, .inl xf)), (h0, .inr (4, [.ref a1, .ref a2])), (a1, .inl (E.2.2.1, 8, .inl st)), (a2, .inl (E.2.2.1, 64, .inl wv)), (c0, .inr (0, [.int (nI bo), .int (nI bh)]))] H := hP
      have hD : va_D A [(u0, .inr (3, [.ref e0, .ref s0, .ref h0, .ref c0])), (e0, .inr (1, [.ref eb, .ref es, .int (nI (S.length + 1))])), (eb, .inl (E.2.1, 1920, .inl f)), (es, .inl (E.2.2.1, 24, .inl sz)), (s0, .inr (5, [.ref m0, .ref d0, .ref h0, .ref x0])), (m0, .inl (E.2.1, 32, .inl mf)), (d0, .inl (E.2.1, 32, .inl df)), (x0, .inl (E.2.1, 112, .inl xf)), (h0, .inr (4, [.ref a1, .ref a2])), (a1, .inl (E.2.2.1, 8, .inl st)), (a2, .inl (E.2.2.1, 64, .inl wv)), (c0, .inr (0, [.int (nI bo), .int (nI bh)]))] := hD
      refine tope (z := b2 true) (congrArg b2 ((hasB_nI (by omega) (by omega)).trans (decide_eq_true (by omega)))) ?_
      refine zb_eq C true rfl d_Run_perform_165 rfl (fun hc12 => absurd hc12 (by simp_all)) (fun hc12 => ?_)
      refine lv_aload_n hx hb d_Run_perform_168 rfl (lv_at hl 1 rfl) ?_
      refine n_get C fg_Run_12 hP 0 rfl rfl d_Run_perform_169 ?_
      refine lv_aload_n hx hb d_Run_perform_172 rfl (lv_at hl 1 rfl) ?_
      refine n_get C fg_Run_12 hP 0 rfl rfl d_Run_perform_173 ?_
      refine n_get C fg_Run_97 hP 1 rfl rfl d_Run_perform_176 ?_
      refine lv_iload_n hx hb d_Run_perform_179 rfl (lv_at hl 0 rfl) ?_
      refine n_iald C hP 3 rfl S.length rfl (by omega) (by omega) d_Run_perform_180 ?_
      refine tope (z := nI x.length) (hx1.1) ?_
      refine cal_I (As := [.int (nI x.length)]) (rest := []) C lk_Run_101 (c_El_pushNumber_full l E e0 eb es (S.length + 1) f sz (nI x.length) (by omega) (by omega)) (by decide) hP hD hS 1 1 rfl rfl [1, 2, 3] rfl (by decide) hl.1 rfl (Nat.le_of_ble_eq_true rfl) d_Run_perform_181 (fun r13 w1 H locs hp14 hP hD hS => ?_)
      obtain ⟨rfl, rfl⟩ := hp14
      have hP : va_P E.1 clz [(u0, .inr (3, [.ref e0, .ref s0, .ref h0, .ref c0])), (e0, .inr (1, [.ref eb, .ref es, .int (nI (S.length + 1))])), (eb, .inl (E.2.1, 1920, .inl f)), (es, .inl (E.2.2.1, 24, .inl sz)), (s0, .inr (5, [.ref m0, .ref d0, .ref h0, .ref x0])), (m0, .inl (E.2.1, 32, .inl mf)), (d0, .inl (E.2.1, 32, .inl df)), (x0, .inl (E.2.1, 112, .inl xf)), (h0, .inr (4, [.ref a1, .ref a2])), (a1, .inl (E.2.2.1, 8, .inl st)), (a2, .inl (E.2.2.1, 64, .inl wv)), (c0, .inr (0, [.int (nI bo), .int (nI bh)]))] H := hP
      have hD : va_D A [(u0, .inr (3, [.ref e0, .ref s0, .ref h0, .ref c0])), (e0, .inr (1, [.ref eb, .ref es, .int (nI (S.length + 1))])), (eb, .inl (E.2.1, 1920, .inl f)), (es, .inl (E.2.2.1, 24, .inl sz)), (s0, .inr (5, [.ref m0, .ref d0, .ref h0, .ref x0])), (m0, .inl (E.2.1, 32, .inl mf)), (d0, .inl (E.2.1, 32, .inl df)), (x0, .inl (E.2.1, 112, .inl xf)), (h0, .inr (4, [.ref a1, .ref a2])), (a1, .inl (E.2.2.1, 8, .inl st)), (a2, .inl (E.2.2.1, 64, .inl wv)), (c0, .inr (0, [.int (nI bo), .int (nI bh)]))] := hD
      refine zb_eq C false rfl d_Run_perform_184 rfl (fun hc15 => ?_) (fun hc15 => absurd hc15 (by simp_all))
      refine lv_iconst (v := nI 0) hx hb d_Run_perform_191 (by decide) ?_
      exact kret (nI 0) [(u0, .inr (3, [.ref e0, .ref s0, .ref h0, .ref c0])), (e0, .inr (1, [.ref eb, .ref es, .int (nI (S.length + 1))])), (eb, .inl (E.2.1, 1920, .inl f)), (es, .inl (E.2.2.1, 24, .inl sz)), (s0, .inr (5, [.ref m0, .ref d0, .ref h0, .ref x0])), (m0, .inl (E.2.1, 32, .inl mf)), (d0, .inl (E.2.1, 32, .inl df)), (x0, .inl (E.2.1, 112, .inl xf)), (h0, .inr (4, [.ref a1, .ref a2])), (a1, .inl (E.2.2.1, 8, .inl st)), (a2, .inl (E.2.2.1, 64, .inl wv)), (c0, .inr (0, [.int (nI bo), .int (nI bh)]))] _ _ _ _ d_Run_perform_192 (⟨_, _, _, _, _, _, _, rfl, hB, Or.inr ⟨by show pushE _ _ = _; unfold pushE; rw [if_neg (by first | (simp only [List.length_cons]; omega) | omega)], rfl⟩⟩) rfl hP hS

set_option maxHeartbeats 4000000 in
set_option maxRecDepth 100000 in
theorem c_perf_86 (l : Launch) (E : En) (u0 e0 eb es s0 m0 d0 x0 h0 a1 a2 c0 bo bh : Nat) (mf f sz df xf st wv : Nat → Int32) (S : Stk) (msg : Byl) (hrep : rep f sz S) (hB : fB f) (hBm : fB mf) (hlen : S.length ≤ 24) (hm : lay mf 0 msg) (hm32 : msg.length = 32) (ht : Int32) : CtI l y_Run_perform b_Run_perform 4 .boolean (rmd 5) E [.ref u0, .int (nI 86), .int ht] [(u0, .inr (3, [.ref e0, .ref s0, .ref h0, .ref c0])), (e0, .inr (1, [.ref eb, .ref es, .int (nI S.length)])), (eb, .inl (E.2.1, 1920, .inl f)), (es, .inl (E.2.2.1, 24, .inl sz)), (s0, .inr (5, [.ref m0, .ref d0, .ref h0, .ref x0])), (m0, .inl (E.2.1, 32, .inl mf)), (d0, .inl (E.2.1, 32, .inl df)), (x0, .inl (E.2.1, 112, .inl xf)), (h0, .inr (4, [.ref a1, .ref a2])), (a1, .inl (E.2.2.1, 8, .inl st)), (a2, .inl (E.2.2.1, 64, .inl wv)), (c0, .inr (0, [.int (nI bo), .int (nI bh)]))] (stepP E u0 e0 eb es s0 m0 d0 x0 h0 a1 a2 c0 bo bh mf (actS 86 ht msg S)) := by
  refine CtI.of (by decide) (Nat.le_of_ble_eq_true rfl) (stepP_nar) ?_
  intro p e s m args below meth c A Q H locs ls C hP hD hS hl kret
  have hx := C.1
  have hb := C.2.1
  have hl : lv_has ls 4 [(0, .ref u0), (1, .int (nI 86)), (2, .int ht)] := hl
  refine lv_aload_n hx hb d_Run_perform_0 rfl (lv_at hl 0 rfl) ?_
  refine n_get C fg_Run_12 hP 0 rfl rfl d_Run_perform_1 ?_
  refine n_get C fg_Run_79 hP 1 rfl rfl d_Run_perform_4 ?_
  refine lv_iconst (v := nI 1) hx hb d_Run_perform_7 (by decide) ?_
  refine lv_isub hx hb d_Run_perform_8 ?_
  refine lv_istore_n (lv' := [(3, .int ((nI S.length) - (nI 1))), (0, .ref u0), (1, .int (nI 86)), (2, .int ht)]) hx hb d_Run_perform_9 rfl hl (by decide) rfl (fun ls hl => ?_)
  refine lv_iload_n hx hb d_Run_perform_10 rfl (lv_at hl 2 rfl) ?_
  refine lv_tableIn hx hb d_Run_perform_11 (by decide) (by decide) rfl rfl ?_
  refine lv_aload_n hx hb d_Run_perform_271 rfl (lv_at hl 1 rfl) ?_
  refine cal_I (As := []) (rest := []) C lk_Run_118 (c_Run_equal l E u0 e0 eb es s0 m0 d0 x0 h0 a1 a2 c0 bo bh mf f sz df xf st wv S msg hrep hB hBm hlen hm hm32 ht) (by decide) hP hD hS 0 3 rfl rfl [0, 1, 2, 3, 4, 5, 6, 7, 8, 9, 10, 11] rfl (by decide) hl.1 rfl (Nat.le_of_ble_eq_true rfl) d_Run_perform_272 (fun r10 w1 H locs hp11 hP hD hS => ?_)
  obtain ⟨n1, f2, z3, d4, x5, s6, v7, rfl, hB9, hO8⟩ := hp11
  have hP : va_P E.1 clz [(u0, .inr (3, [.ref e0, .ref s0, .ref h0, .ref c0])), (e0, .inr (1, [.ref eb, .ref es, .int (nI n1)])), (eb, .inl (E.2.1, 1920, .inl f2)), (es, .inl (E.2.2.1, 24, .inl z3)), (s0, .inr (5, [.ref m0, .ref d0, .ref h0, .ref x0])), (m0, .inl (E.2.1, 32, .inl mf)), (d0, .inl (E.2.1, 32, .inl d4)), (x0, .inl (E.2.1, 112, .inl x5)), (h0, .inr (4, [.ref a1, .ref a2])), (a1, .inl (E.2.2.1, 8, .inl s6)), (a2, .inl (E.2.2.1, 64, .inl v7)), (c0, .inr (0, [.int (nI bo), .int (nI bh)]))] H := hP
  have hD : va_D A [(u0, .inr (3, [.ref e0, .ref s0, .ref h0, .ref c0])), (e0, .inr (1, [.ref eb, .ref es, .int (nI n1)])), (eb, .inl (E.2.1, 1920, .inl f2)), (es, .inl (E.2.2.1, 24, .inl z3)), (s0, .inr (5, [.ref m0, .ref d0, .ref h0, .ref x0])), (m0, .inl (E.2.1, 32, .inl mf)), (d0, .inl (E.2.1, 32, .inl d4)), (x0, .inl (E.2.1, 112, .inl x5)), (h0, .inr (4, [.ref a1, .ref a2])), (a1, .inl (E.2.2.1, 8, .inl s6)), (a2, .inl (E.2.2.1, 64, .inl v7)), (c0, .inr (0, [.int (nI bo), .int (nI bh)]))] := hD
  exact kret r10 [(u0, .inr (3, [.ref e0, .ref s0, .ref h0, .ref c0])), (e0, .inr (1, [.ref eb, .ref es, .int (nI n1)])), (eb, .inl (E.2.1, 1920, .inl f2)), (es, .inl (E.2.2.1, 24, .inl z3)), (s0, .inr (5, [.ref m0, .ref d0, .ref h0, .ref x0])), (m0, .inl (E.2.1, 32, .inl mf)), (d0, .inl (E.2.1, 32, .inl d4)), (x0, .inl (E.2.1, 112, .inl x5)), (h0, .inr (4, [.ref a1, .ref a2])), (a1, .inl (E.2.2.1, 8, .inl s6)), (a2, .inl (E.2.2.1, 64, .inl v7)), (c0, .inr (0, [.int (nI bo), .int (nI bh)]))] _ _ _ _ d_Run_perform_275 (⟨n1, f2, z3, d4, x5, s6, v7, rfl, hB9, hO8⟩) rfl hP hS

set_option maxHeartbeats 4000000 in
set_option maxRecDepth 100000 in
theorem c_perf_87 (l : Launch) (E : En) (u0 e0 eb es s0 m0 d0 x0 h0 a1 a2 c0 bo bh : Nat) (mf f sz df xf st wv : Nat → Int32) (S : Stk) (msg : Byl) (hrep : rep f sz S) (hB : fB f) (hBm : fB mf) (hlen : S.length ≤ 24) (hm : lay mf 0 msg) (hm32 : msg.length = 32) (ht : Int32) : CtI l y_Run_perform b_Run_perform 4 .boolean (rmd 5) E [.ref u0, .int (nI 87), .int ht] [(u0, .inr (3, [.ref e0, .ref s0, .ref h0, .ref c0])), (e0, .inr (1, [.ref eb, .ref es, .int (nI S.length)])), (eb, .inl (E.2.1, 1920, .inl f)), (es, .inl (E.2.2.1, 24, .inl sz)), (s0, .inr (5, [.ref m0, .ref d0, .ref h0, .ref x0])), (m0, .inl (E.2.1, 32, .inl mf)), (d0, .inl (E.2.1, 32, .inl df)), (x0, .inl (E.2.1, 112, .inl xf)), (h0, .inr (4, [.ref a1, .ref a2])), (a1, .inl (E.2.2.1, 8, .inl st)), (a2, .inl (E.2.2.1, 64, .inl wv)), (c0, .inr (0, [.int (nI bo), .int (nI bh)]))] (stepP E u0 e0 eb es s0 m0 d0 x0 h0 a1 a2 c0 bo bh mf (actS 87 ht msg S)) := by
  refine CtI.of (by decide) (Nat.le_of_ble_eq_true rfl) (stepP_nar) ?_
  intro p e s m args below meth c A Q H locs ls C hP hD hS hl kret
  have hx := C.1
  have hb := C.2.1
  have hl : lv_has ls 4 [(0, .ref u0), (1, .int (nI 87)), (2, .int ht)] := hl
  rcases S with _ | ⟨x, S⟩
  · have hP : va_P E.1 clz [(u0, .inr (3, [.ref e0, .ref s0, .ref h0, .ref c0])), (e0, .inr (1, [.ref eb, .ref es, .int (nI 0)])), (eb, .inl (E.2.1, 1920, .inl f)), (es, .inl (E.2.2.1, 24, .inl sz)), (s0, .inr (5, [.ref m0, .ref d0, .ref h0, .ref x0])), (m0, .inl (E.2.1, 32, .inl mf)), (d0, .inl (E.2.1, 32, .inl df)), (x0, .inl (E.2.1, 112, .inl xf)), (h0, .inr (4, [.ref a1, .ref a2])), (a1, .inl (E.2.2.1, 8, .inl st)), (a2, .inl (E.2.2.1, 64, .inl wv)), (c0, .inr (0, [.int (nI bo), .int (nI bh)]))] H := hP
    have hD : va_D A [(u0, .inr (3, [.ref e0, .ref s0, .ref h0, .ref c0])), (e0, .inr (1, [.ref eb, .ref es, .int (nI 0)])), (eb, .inl (E.2.1, 1920, .inl f)), (es, .inl (E.2.2.1, 24, .inl sz)), (s0, .inr (5, [.ref m0, .ref d0, .ref h0, .ref x0])), (m0, .inl (E.2.1, 32, .inl mf)), (d0, .inl (E.2.1, 32, .inl df)), (x0, .inl (E.2.1, 112, .inl xf)), (h0, .inr (4, [.ref a1, .ref a2])), (a1, .inl (E.2.2.1, 8, .inl st)), (a2, .inl (E.2.2.1, 64, .inl wv)), (c0, .inr (0, [.int (nI bo), .int (nI bh)]))] := hD
    refine lv_aload_n hx hb d_Run_perform_0 rfl (lv_at hl 0 rfl) ?_
    refine n_get C fg_Run_12 hP 0 rfl rfl d_Run_perform_1 ?_
    refine n_get C fg_Run_79 hP 1 rfl rfl d_Run_perform_4 ?_
    refine lv_iconst (v := nI 1) hx hb d_Run_perform_7 (by decide) ?_
    refine lv_isub hx hb d_Run_perform_8 ?_
    refine tope (z := (-1)) (by decide) ?_
    refine lv_istore_n (lv' := [(3, .int (-1)), (0, .ref u0), (1, .int (nI 87)), (2, .int ht)]) hx hb d_Run_perform_9 rfl hl (by decide) rfl (fun ls hl => ?_)
    refine lv_iload_n hx hb d_Run_perform_10 rfl (lv_at hl 2 rfl) ?_
    refine lv_tableIn hx hb d_Run_perform_11 (by decide) (by decide) rfl rfl ?_
    refine lv_aload_n hx hb d_Run_perform_193 rfl (lv_at hl 1 rfl) ?_
    refine n_get C fg_Run_12 hP 0 rfl rfl d_Run_perform_194 ?_
    refine lv_iload_n hx hb d_Run_perform_197 rfl (lv_at hl 0 rfl) ?_
    refine cal_I (As := [.int (-1)]) (rest := []) C lk_Run_82 (c_El_isTrue_no l E e0 eb es 0 f sz (-1) (by first | exact hasB_m1 _ | exact hasB_m2 _)) (by decide) hP hD hS 1 1 rfl rfl [1, 2, 3] rfl (by decide) hl.1 rfl (Nat.le_of_ble_eq_true rfl) d_Run_perform_198 (fun r1 w1 H locs hp2 hP hD hS => ?_)
    obtain ⟨rfl, rfl⟩ := hp2
    have hP : va_P E.1 clz [(u0, .inr (3, [.ref e0, .ref s0, .ref h0, .ref c0])), (e0, .inr (1, [.ref eb, .ref es, .int (nI 0)])), (eb, .inl (E.2.1, 1920, .inl f)), (es, .inl (E.2.2.1, 24, .inl sz)), (s0, .inr (5, [.ref m0, .ref d0, .ref h0, .ref x0])), (m0, .inl (E.2.1, 32, .inl mf)), (d0, .inl (E.2.1, 32, .inl df)), (x0, .inl (E.2.1, 112, .inl xf)), (h0, .inr (4, [.ref a1, .ref a2])), (a1, .inl (E.2.2.1, 8, .inl st)), (a2, .inl (E.2.2.1, 64, .inl wv)), (c0, .inr (0, [.int (nI bo), .int (nI bh)]))] H := hP
    have hD : va_D A [(u0, .inr (3, [.ref e0, .ref s0, .ref h0, .ref c0])), (e0, .inr (1, [.ref eb, .ref es, .int (nI 0)])), (eb, .inl (E.2.1, 1920, .inl f)), (es, .inl (E.2.2.1, 24, .inl sz)), (s0, .inr (5, [.ref m0, .ref d0, .ref h0, .ref x0])), (m0, .inl (E.2.1, 32, .inl mf)), (d0, .inl (E.2.1, 32, .inl df)), (x0, .inl (E.2.1, 112, .inl xf)), (h0, .inr (4, [.ref a1, .ref a2])), (a1, .inl (E.2.2.1, 8, .inl st)), (a2, .inl (E.2.2.1, 64, .inl wv)), (c0, .inr (0, [.int (nI bo), .int (nI bh)]))] := hD
    refine zb_eq C false rfl d_Run_perform_201 rfl (fun hc3 => ?_) (fun hc3 => absurd hc3 (by simp_all))
    refine lv_iconst (v := nI 0) hx hb d_Run_perform_219 (by decide) ?_
    exact kret (nI 0) [(u0, .inr (3, [.ref e0, .ref s0, .ref h0, .ref c0])), (e0, .inr (1, [.ref eb, .ref es, .int (nI 0)])), (eb, .inl (E.2.1, 1920, .inl f)), (es, .inl (E.2.2.1, 24, .inl sz)), (s0, .inr (5, [.ref m0, .ref d0, .ref h0, .ref x0])), (m0, .inl (E.2.1, 32, .inl mf)), (d0, .inl (E.2.1, 32, .inl df)), (x0, .inl (E.2.1, 112, .inl xf)), (h0, .inr (4, [.ref a1, .ref a2])), (a1, .inl (E.2.2.1, 8, .inl st)), (a2, .inl (E.2.2.1, 64, .inl wv)), (c0, .inr (0, [.int (nI bo), .int (nI bh)]))] _ _ _ _ d_Run_perform_220 (⟨_, _, _, _, _, _, _, rfl, hB, Or.inr ⟨rfl, rfl⟩⟩) rfl hP hS
  · have hx1 : sz S.length = nI x.length ∧ x.length ≤ 80 ∧ lay f (S.length * 80) x := rep_top hrep
    have hr0 : rep f sz S := rep_tail hrep
    have hlen : S.length + 1 ≤ 24 := hlen
    have hP : va_P E.1 clz [(u0, .inr (3, [.ref e0, .ref s0, .ref h0, .ref c0])), (e0, .inr (1, [.ref eb, .ref es, .int (nI (S.length + 1))])), (eb, .inl (E.2.1, 1920, .inl f)), (es, .inl (E.2.2.1, 24, .inl sz)), (s0, .inr (5, [.ref m0, .ref d0, .ref h0, .ref x0])), (m0, .inl (E.2.1, 32, .inl mf)), (d0, .inl (E.2.1, 32, .inl df)), (x0, .inl (E.2.1, 112, .inl xf)), (h0, .inr (4, [.ref a1, .ref a2])), (a1, .inl (E.2.2.1, 8, .inl st)), (a2, .inl (E.2.2.1, 64, .inl wv)), (c0, .inr (0, [.int (nI bo), .int (nI bh)]))] H := hP
    have hD : va_D A [(u0, .inr (3, [.ref e0, .ref s0, .ref h0, .ref c0])), (e0, .inr (1, [.ref eb, .ref es, .int (nI (S.length + 1))])), (eb, .inl (E.2.1, 1920, .inl f)), (es, .inl (E.2.2.1, 24, .inl sz)), (s0, .inr (5, [.ref m0, .ref d0, .ref h0, .ref x0])), (m0, .inl (E.2.1, 32, .inl mf)), (d0, .inl (E.2.1, 32, .inl df)), (x0, .inl (E.2.1, 112, .inl xf)), (h0, .inr (4, [.ref a1, .ref a2])), (a1, .inl (E.2.2.1, 8, .inl st)), (a2, .inl (E.2.2.1, 64, .inl wv)), (c0, .inr (0, [.int (nI bo), .int (nI bh)]))] := hD
    refine lv_aload_n hx hb d_Run_perform_0 rfl (lv_at hl 0 rfl) ?_
    refine n_get C fg_Run_12 hP 0 rfl rfl d_Run_perform_1 ?_
    refine n_get C fg_Run_79 hP 1 rfl rfl d_Run_perform_4 ?_
    refine lv_iconst (v := nI 1) hx hb d_Run_perform_7 (by decide) ?_
    refine lv_isub hx hb d_Run_perform_8 ?_
    refine tope (z := nI S.length) ((pk_sub (by omega)).trans (congrArg nI (by omega))) ?_
    refine lv_istore_n (lv' := [(3, .int (nI S.length)), (0, .ref u0), (1, .int (nI 87)), (2, .int ht)]) hx hb d_Run_perform_9 rfl hl (by decide) rfl (fun ls hl => ?_)
    refine lv_iload_n hx hb d_Run_perform_10 rfl (lv_at hl 2 rfl) ?_
    refine lv_tableIn hx hb d_Run_perform_11 (by decide) (by decide) rfl rfl ?_
    refine lv_aload_n hx hb d_Run_perform_193 rfl (lv_at hl 1 rfl) ?_
    refine n_get C fg_Run_12 hP 0 rfl rfl d_Run_perform_194 ?_
    refine lv_iload_n hx hb d_Run_perform_197 rfl (lv_at hl 0 rfl) ?_
    refine cal_I (As := [.int (nI S.length)]) (rest := []) C lk_Run_82 (c_El_isTrue l E e0 eb es (S.length + 1) f sz S.length x (by omega) (by omega) hx1.1 hx1.2.1 hx1.2.2) (by decide) hP hD hS 1 1 rfl rfl [1, 2, 3] rfl (by decide) hl.1 rfl (Nat.le_of_ble_eq_true rfl) d_Run_perform_198 (fun r4 w1 H locs hp5 hP hD hS => ?_)
    obtain ⟨rfl, rfl⟩ := hp5
    have hP : va_P E.1 clz [(u0, .inr (3, [.ref e0, .ref s0, .ref h0, .ref c0])), (e0, .inr (1, [.ref eb, .ref es, .int (nI (S.length + 1))])), (eb, .inl (E.2.1, 1920, .inl f)), (es, .inl (E.2.2.1, 24, .inl sz)), (s0, .inr (5, [.ref m0, .ref d0, .ref h0, .ref x0])), (m0, .inl (E.2.1, 32, .inl mf)), (d0, .inl (E.2.1, 32, .inl df)), (x0, .inl (E.2.1, 112, .inl xf)), (h0, .inr (4, [.ref a1, .ref a2])), (a1, .inl (E.2.2.1, 8, .inl st)), (a2, .inl (E.2.2.1, 64, .inl wv)), (c0, .inr (0, [.int (nI bo), .int (nI bh)]))] H := hP
    have hD : va_D A [(u0, .inr (3, [.ref e0, .ref s0, .ref h0, .ref c0])), (e0, .inr (1, [.ref eb, .ref es, .int (nI (S.length + 1))])), (eb, .inl (E.2.1, 1920, .inl f)), (es, .inl (E.2.2.1, 24, .inl sz)), (s0, .inr (5, [.ref m0, .ref d0, .ref h0, .ref x0])), (m0, .inl (E.2.1, 32, .inl mf)), (d0, .inl (E.2.1, 32, .inl df)), (x0, .inl (E.2.1, 112, .inl xf)), (h0, .inr (4, [.ref a1, .ref a2])), (a1, .inl (E.2.2.1, 8, .inl st)), (a2, .inl (E.2.2.1, 64, .inl wv)), (c0, .inr (0, [.int (nI bo), .int (nI bh)]))] := hD
    refine zb_eq C (isT x) rfl d_Run_perform_201 rfl (fun hc6 => ?_) (fun hc6 => ?_)
    · refine lv_iconst (v := nI 0) hx hb d_Run_perform_219 (by decide) ?_
      exact kret (nI 0) [(u0, .inr (3, [.ref e0, .ref s0, .ref h0, .ref c0])), (e0, .inr (1, [.ref eb, .ref es, .int (nI (S.length + 1))])), (eb, .inl (E.2.1, 1920, .inl f)), (es, .inl (E.2.2.1, 24, .inl sz)), (s0, .inr (5, [.ref m0, .ref d0, .ref h0, .ref x0])), (m0, .inl (E.2.1, 32, .inl mf)), (d0, .inl (E.2.1, 32, .inl df)), (x0, .inl (E.2.1, 112, .inl xf)), (h0, .inr (4, [.ref a1, .ref a2])), (a1, .inl (E.2.2.1, 8, .inl st)), (a2, .inl (E.2.2.1, 64, .inl wv)), (c0, .inr (0, [.int (nI bo), .int (nI bh)]))] _ _ _ _ d_Run_perform_220 (⟨_, _, _, _, _, _, _, rfl, hB, Or.inr ⟨by show (if _ then some _ else none) = _; rw [if_neg (by rw [hc6]; decide)], rfl⟩⟩) rfl hP hS
    · refine lv_aload_n hx hb d_Run_perform_204 rfl (lv_at hl 1 rfl) ?_
      refine n_get C fg_Run_12 hP 0 rfl rfl d_Run_perform_205 ?_
      refine lv_iconst (v := nI 1) hx hb d_Run_perform_208 (by decide) ?_
      refine cal_I (As := [.int (nI 1)]) (rest := []) C lk_Run_85 (c_El_drop l E e0 eb es (S.length + 1) f sz 1 (by omega) (by omega)) (by decide) hP hD hS 1 1 rfl rfl [1, 2, 3] rfl (by decide) hl.1 rfl (Nat.le_of_ble_eq_true rfl) d_Run_perform_209 (fun r7 w1 H locs hp8 hP hD hS => ?_)
      obtain ⟨rfl, rfl⟩ := hp8
      have hP : va_P E.1 clz [(u0, .inr (3, [.ref e0, .ref s0, .ref h0, .ref c0])), (e0, .inr (1, [.ref eb, .ref es, .int (nI ((S.length + 1) - 1))])), (eb, .inl (E.2.1, 1920, .inl f)), (es, .inl (E.2.2.1, 24, .inl sz)), (s0, .inr (5, [.ref m0, .ref d0, .ref h0, .ref x0])), (m0, .inl (E.2.1, 32, .inl mf)), (d0, .inl (E.2.1, 32, .inl df)), (x0, .inl (E.2.1, 112, .inl xf)), (h0, .inr (4, [.ref a1, .ref a2])), (a1, .inl (E.2.2.1, 8, .inl st)), (a2, .inl (E.2.2.1, 64, .inl wv)), (c0, .inr (0, [.int (nI bo), .int (nI bh)]))] H := hP
      have hD : va_D A [(u0, .inr (3, [.ref e0, .ref s0, .ref h0, .ref c0])), (e0, .inr (1, [.ref eb, .ref es, .int (nI ((S.length + 1) - 1))])), (eb, .inl (E.2.1, 1920, .inl f)), (es, .inl (E.2.2.1, 24, .inl sz)), (s0, .inr (5, [.ref m0, .ref d0, .ref h0, .ref x0])), (m0, .inl (E.2.1, 32, .inl mf)), (d0, .inl (E.2.1, 32, .inl df)), (x0, .inl (E.2.1, 112, .inl xf)), (h0, .inr (4, [.ref a1, .ref a2])), (a1, .inl (E.2.2.1, 8, .inl st)), (a2, .inl (E.2.2.1, 64, .inl wv)), (c0, .inr (0, [.int (nI bo), .int (nI bh)]))] := hD
      refine zb_eq C true rfl d_Run_perform_212 rfl (fun hc9 => absurd hc9 (by simp_all)) (fun hc9 => ?_)
      refine lv_iconst (v := nI 1) hx hb d_Run_perform_215 (by decide) ?_
      refine lv_goto hx hb d_Run_perform_216 rfl ?_
      exact kret (nI 1) [(u0, .inr (3, [.ref e0, .ref s0, .ref h0, .ref c0])), (e0, .inr (1, [.ref eb, .ref es, .int (nI ((S.length + 1) - 1))])), (eb, .inl (E.2.1, 1920, .inl f)), (es, .inl (E.2.2.1, 24, .inl sz)), (s0, .inr (5, [.ref m0, .ref d0, .ref h0, .ref x0])), (m0, .inl (E.2.1, 32, .inl mf)), (d0, .inl (E.2.1, 32, .inl df)), (x0, .inl (E.2.1, 112, .inl xf)), (h0, .inr (4, [.ref a1, .ref a2])), (a1, .inl (E.2.2.1, 8, .inl st)), (a2, .inl (E.2.2.1, 64, .inl wv)), (c0, .inr (0, [.int (nI bo), .int (nI bh)]))] _ _ _ _ d_Run_perform_220 (⟨_, _, _, _, _, _, _, rfl, hB, Or.inl ⟨S, by show (if _ then some _ else none) = _; rw [if_pos hc6], rfl, by first | rfl | (simp only [List.length_cons]; omega) | (simp only [List.length_cons]), hr0, by first | (simp only [List.length_cons]; omega) | (simp only [List.length_cons]) | omega⟩⟩) rfl hP hS

set_option maxHeartbeats 4000000 in
set_option maxRecDepth 100000 in
theorem c_perf_88 (l : Launch) (E : En) (u0 e0 eb es s0 m0 d0 x0 h0 a1 a2 c0 bo bh : Nat) (mf f sz df xf st wv : Nat → Int32) (S : Stk) (msg : Byl) (hrep : rep f sz S) (hB : fB f) (hBm : fB mf) (hlen : S.length ≤ 24) (hm : lay mf 0 msg) (hm32 : msg.length = 32) (ht : Int32) : CtI l y_Run_perform b_Run_perform 4 .boolean (rmd 5) E [.ref u0, .int (nI 88), .int ht] [(u0, .inr (3, [.ref e0, .ref s0, .ref h0, .ref c0])), (e0, .inr (1, [.ref eb, .ref es, .int (nI S.length)])), (eb, .inl (E.2.1, 1920, .inl f)), (es, .inl (E.2.2.1, 24, .inl sz)), (s0, .inr (5, [.ref m0, .ref d0, .ref h0, .ref x0])), (m0, .inl (E.2.1, 32, .inl mf)), (d0, .inl (E.2.1, 32, .inl df)), (x0, .inl (E.2.1, 112, .inl xf)), (h0, .inr (4, [.ref a1, .ref a2])), (a1, .inl (E.2.2.1, 8, .inl st)), (a2, .inl (E.2.2.1, 64, .inl wv)), (c0, .inr (0, [.int (nI bo), .int (nI bh)]))] (stepP E u0 e0 eb es s0 m0 d0 x0 h0 a1 a2 c0 bo bh mf (actS 88 ht msg S)) := by
  refine CtI.of (by decide) (Nat.le_of_ble_eq_true rfl) (stepP_nar) ?_
  intro p e s m args below meth c A Q H locs ls C hP hD hS hl kret
  have hx := C.1
  have hb := C.2.1
  have hl : lv_has ls 4 [(0, .ref u0), (1, .int (nI 88)), (2, .int ht)] := hl
  rcases S with _ | ⟨x, S⟩
  · have hP : va_P E.1 clz [(u0, .inr (3, [.ref e0, .ref s0, .ref h0, .ref c0])), (e0, .inr (1, [.ref eb, .ref es, .int (nI 0)])), (eb, .inl (E.2.1, 1920, .inl f)), (es, .inl (E.2.2.1, 24, .inl sz)), (s0, .inr (5, [.ref m0, .ref d0, .ref h0, .ref x0])), (m0, .inl (E.2.1, 32, .inl mf)), (d0, .inl (E.2.1, 32, .inl df)), (x0, .inl (E.2.1, 112, .inl xf)), (h0, .inr (4, [.ref a1, .ref a2])), (a1, .inl (E.2.2.1, 8, .inl st)), (a2, .inl (E.2.2.1, 64, .inl wv)), (c0, .inr (0, [.int (nI bo), .int (nI bh)]))] H := hP
    have hD : va_D A [(u0, .inr (3, [.ref e0, .ref s0, .ref h0, .ref c0])), (e0, .inr (1, [.ref eb, .ref es, .int (nI 0)])), (eb, .inl (E.2.1, 1920, .inl f)), (es, .inl (E.2.2.1, 24, .inl sz)), (s0, .inr (5, [.ref m0, .ref d0, .ref h0, .ref x0])), (m0, .inl (E.2.1, 32, .inl mf)), (d0, .inl (E.2.1, 32, .inl df)), (x0, .inl (E.2.1, 112, .inl xf)), (h0, .inr (4, [.ref a1, .ref a2])), (a1, .inl (E.2.2.1, 8, .inl st)), (a2, .inl (E.2.2.1, 64, .inl wv)), (c0, .inr (0, [.int (nI bo), .int (nI bh)]))] := hD
    refine lv_aload_n hx hb d_Run_perform_0 rfl (lv_at hl 0 rfl) ?_
    refine n_get C fg_Run_12 hP 0 rfl rfl d_Run_perform_1 ?_
    refine n_get C fg_Run_79 hP 1 rfl rfl d_Run_perform_4 ?_
    refine lv_iconst (v := nI 1) hx hb d_Run_perform_7 (by decide) ?_
    refine lv_isub hx hb d_Run_perform_8 ?_
    refine tope (z := (-1)) (by decide) ?_
    refine lv_istore_n (lv' := [(3, .int (-1)), (0, .ref u0), (1, .int (nI 88)), (2, .int ht)]) hx hb d_Run_perform_9 rfl hl (by decide) rfl (fun ls hl => ?_)
    refine lv_iload_n hx hb d_Run_perform_10 rfl (lv_at hl 2 rfl) ?_
    refine lv_tableIn hx hb d_Run_perform_11 (by decide) (by decide) rfl rfl ?_
    refine lv_aload_n hx hb d_Run_perform_221 rfl (lv_at hl 1 rfl) ?_
    refine n_get C fg_Run_12 hP 0 rfl rfl d_Run_perform_222 ?_
    refine lv_iload_n hx hb d_Run_perform_225 rfl (lv_at hl 0 rfl) ?_
    refine cal_I (As := [.int (-1)]) (rest := []) C lk_Run_104 (c_El_isNumber_no l E e0 eb es 0 f sz (-1) (by first | exact hasB_m1 _ | exact hasB_m2 _)) (by decide) hP hD hS 1 1 rfl rfl [1, 2, 3] rfl (by decide) hl.1 rfl (Nat.le_of_ble_eq_true rfl) d_Run_perform_226 (fun r1 w1 H locs hp2 hP hD hS => ?_)
    obtain ⟨rfl, rfl⟩ := hp2
    have hP : va_P E.1 clz [(u0, .inr (3, [.ref e0, .ref s0, .ref h0, .ref c0])), (e0, .inr (1, [.ref eb, .ref es, .int (nI 0)])), (eb, .inl (E.2.1, 1920, .inl f)), (es, .inl (E.2.2.1, 24, .inl sz)), (s0, .inr (5, [.ref m0, .ref d0, .ref h0, .ref x0])), (m0, .inl (E.2.1, 32, .inl mf)), (d0, .inl (E.2.1, 32, .inl df)), (x0, .inl (E.2.1, 112, .inl xf)), (h0, .inr (4, [.ref a1, .ref a2])), (a1, .inl (E.2.2.1, 8, .inl st)), (a2, .inl (E.2.2.1, 64, .inl wv)), (c0, .inr (0, [.int (nI bo), .int (nI bh)]))] H := hP
    have hD : va_D A [(u0, .inr (3, [.ref e0, .ref s0, .ref h0, .ref c0])), (e0, .inr (1, [.ref eb, .ref es, .int (nI 0)])), (eb, .inl (E.2.1, 1920, .inl f)), (es, .inl (E.2.2.1, 24, .inl sz)), (s0, .inr (5, [.ref m0, .ref d0, .ref h0, .ref x0])), (m0, .inl (E.2.1, 32, .inl mf)), (d0, .inl (E.2.1, 32, .inl df)), (x0, .inl (E.2.1, 112, .inl xf)), (h0, .inr (4, [.ref a1, .ref a2])), (a1, .inl (E.2.2.1, 8, .inl st)), (a2, .inl (E.2.2.1, 64, .inl wv)), (c0, .inr (0, [.int (nI bo), .int (nI bh)]))] := hD
    refine zb_eq C false rfl d_Run_perform_229 rfl (fun hc3 => ?_) (fun hc3 => absurd hc3 (by simp_all))
    refine lv_iconst (v := nI 0) hx hb d_Run_perform_263 (by decide) ?_
    exact kret (nI 0) [(u0, .inr (3, [.ref e0, .ref s0, .ref h0, .ref c0])), (e0, .inr (1, [.ref eb, .ref es, .int (nI 0)])), (eb, .inl (E.2.1, 1920, .inl f)), (es, .inl (E.2.2.1, 24, .inl sz)), (s0, .inr (5, [.ref m0, .ref d0, .ref h0, .ref x0])), (m0, .inl (E.2.1, 32, .inl mf)), (d0, .inl (E.2.1, 32, .inl df)), (x0, .inl (E.2.1, 112, .inl xf)), (h0, .inr (4, [.ref a1, .ref a2])), (a1, .inl (E.2.2.1, 8, .inl st)), (a2, .inl (E.2.2.1, 64, .inl wv)), (c0, .inr (0, [.int (nI bo), .int (nI bh)]))] _ _ _ _ d_Run_perform_264 (⟨_, _, _, _, _, _, _, rfl, hB, Or.inr ⟨rfl, rfl⟩⟩) rfl hP hS
  · have hx1 : sz S.length = nI x.length ∧ x.length ≤ 80 ∧ lay f (S.length * 80) x := rep_top hrep
    have hr0 : rep f sz S := rep_tail hrep
    have hlen : S.length + 1 ≤ 24 := hlen
    have hP : va_P E.1 clz [(u0, .inr (3, [.ref e0, .ref s0, .ref h0, .ref c0])), (e0, .inr (1, [.ref eb, .ref es, .int (nI (S.length + 1))])), (eb, .inl (E.2.1, 1920, .inl f)), (es, .inl (E.2.2.1, 24, .inl sz)), (s0, .inr (5, [.ref m0, .ref d0, .ref h0, .ref x0])), (m0, .inl (E.2.1, 32, .inl mf)), (d0, .inl (E.2.1, 32, .inl df)), (x0, .inl (E.2.1, 112, .inl xf)), (h0, .inr (4, [.ref a1, .ref a2])), (a1, .inl (E.2.2.1, 8, .inl st)), (a2, .inl (E.2.2.1, 64, .inl wv)), (c0, .inr (0, [.int (nI bo), .int (nI bh)]))] H := hP
    have hD : va_D A [(u0, .inr (3, [.ref e0, .ref s0, .ref h0, .ref c0])), (e0, .inr (1, [.ref eb, .ref es, .int (nI (S.length + 1))])), (eb, .inl (E.2.1, 1920, .inl f)), (es, .inl (E.2.2.1, 24, .inl sz)), (s0, .inr (5, [.ref m0, .ref d0, .ref h0, .ref x0])), (m0, .inl (E.2.1, 32, .inl mf)), (d0, .inl (E.2.1, 32, .inl df)), (x0, .inl (E.2.1, 112, .inl xf)), (h0, .inr (4, [.ref a1, .ref a2])), (a1, .inl (E.2.2.1, 8, .inl st)), (a2, .inl (E.2.2.1, 64, .inl wv)), (c0, .inr (0, [.int (nI bo), .int (nI bh)]))] := hD
    refine lv_aload_n hx hb d_Run_perform_0 rfl (lv_at hl 0 rfl) ?_
    refine n_get C fg_Run_12 hP 0 rfl rfl d_Run_perform_1 ?_
    refine n_get C fg_Run_79 hP 1 rfl rfl d_Run_perform_4 ?_
    refine lv_iconst (v := nI 1) hx hb d_Run_perform_7 (by decide) ?_
    refine lv_isub hx hb d_Run_perform_8 ?_
    refine tope (z := nI S.length) ((pk_sub (by omega)).trans (congrArg nI (by omega))) ?_
    refine lv_istore_n (lv' := [(3, .int (nI S.length)), (0, .ref u0), (1, .int (nI 88)), (2, .int ht)]) hx hb d_Run_perform_9 rfl hl (by decide) rfl (fun ls hl => ?_)
    refine lv_iload_n hx hb d_Run_perform_10 rfl (lv_at hl 2 rfl) ?_
    refine lv_tableIn hx hb d_Run_perform_11 (by decide) (by decide) rfl rfl ?_
    refine lv_aload_n hx hb d_Run_perform_221 rfl (lv_at hl 1 rfl) ?_
    refine n_get C fg_Run_12 hP 0 rfl rfl d_Run_perform_222 ?_
    refine lv_iload_n hx hb d_Run_perform_225 rfl (lv_at hl 0 rfl) ?_
    refine cal_I (As := [.int (nI S.length)]) (rest := []) C lk_Run_104 (c_El_isNumber l E e0 eb es (S.length + 1) f sz S.length x.length (by omega) (by omega) hx1.1 hx1.2.1) (by decide) hP hD hS 1 1 rfl rfl [1, 2, 3] rfl (by decide) hl.1 rfl (Nat.le_of_ble_eq_true rfl) d_Run_perform_226 (fun r4 w1 H locs hp5 hP hD hS => ?_)
    obtain ⟨rfl, rfl⟩ := hp5
    have hP : va_P E.1 clz [(u0, .inr (3, [.ref e0, .ref s0, .ref h0, .ref c0])), (e0, .inr (1, [.ref eb, .ref es, .int (nI (S.length + 1))])), (eb, .inl (E.2.1, 1920, .inl f)), (es, .inl (E.2.2.1, 24, .inl sz)), (s0, .inr (5, [.ref m0, .ref d0, .ref h0, .ref x0])), (m0, .inl (E.2.1, 32, .inl mf)), (d0, .inl (E.2.1, 32, .inl df)), (x0, .inl (E.2.1, 112, .inl xf)), (h0, .inr (4, [.ref a1, .ref a2])), (a1, .inl (E.2.2.1, 8, .inl st)), (a2, .inl (E.2.2.1, 64, .inl wv)), (c0, .inr (0, [.int (nI bo), .int (nI bh)]))] H := hP
    have hD : va_D A [(u0, .inr (3, [.ref e0, .ref s0, .ref h0, .ref c0])), (e0, .inr (1, [.ref eb, .ref es, .int (nI (S.length + 1))])), (eb, .inl (E.2.1, 1920, .inl f)), (es, .inl (E.2.2.1, 24, .inl sz)), (s0, .inr (5, [.ref m0, .ref d0, .ref h0, .ref x0])), (m0, .inl (E.2.1, 32, .inl mf)), (d0, .inl (E.2.1, 32, .inl df)), (x0, .inl (E.2.1, 112, .inl xf)), (h0, .inr (4, [.ref a1, .ref a2])), (a1, .inl (E.2.2.1, 8, .inl st)), (a2, .inl (E.2.2.1, 64, .inl wv)), (c0, .inr (0, [.int (nI bo), .int (nI bh)]))] := hD
    refine zb_eq C (decide (x.length ≤ 4)) rfl d_Run_perform_229 rfl (fun hc6 => ?_) (fun hc6 => ?_)
    · refine lv_iconst (v := nI 0) hx hb d_Run_perform_263 (by decide) ?_
      exact kret (nI 0) [(u0, .inr (3, [.ref e0, .ref s0, .ref h0, .ref c0])), (e0, .inr (1, [.ref eb, .ref es, .int (nI (S.length + 1))])), (eb, .inl (E.2.1, 1920, .inl f)), (es, .inl (E.2.2.1, 24, .inl sz)), (s0, .inr (5, [.ref m0, .ref d0, .ref h0, .ref x0])), (m0, .inl (E.2.1, 32, .inl mf)), (d0, .inl (E.2.1, 32, .inl df)), (x0, .inl (E.2.1, 112, .inl xf)), (h0, .inr (4, [.ref a1, .ref a2])), (a1, .inl (E.2.2.1, 8, .inl st)), (a2, .inl (E.2.2.1, 64, .inl wv)), (c0, .inr (0, [.int (nI bo), .int (nI bh)]))] _ _ _ _ d_Run_perform_264 (⟨_, _, _, _, _, _, _, rfl, hB, Or.inr ⟨by show (if x.length ≤ 4 then some (numB (b2 (decide (numL x = nI 0))) :: S) else none) = _; rw [if_neg (of_decide_eq_false hc6)], rfl⟩⟩) rfl hP hS
    · refine lv_aload_n hx hb d_Run_perform_232 rfl (lv_at hl 1 rfl) ?_
      refine n_get C fg_Run_12 hP 0 rfl rfl d_Run_perform_233 ?_
      refine lv_iconst (v := nI 1) hx hb d_Run_perform_236 (by decide) ?_
      refine lv_aload_n hx hb d_Run_perform_237 rfl (lv_at hl 1 rfl) ?_
      refine n_get C fg_Run_12 hP 0 rfl rfl d_Run_perform_238 ?_
      refine lv_iload_n hx hb d_Run_perform_241 rfl (lv_at hl 0 rfl) ?_
      refine cal_I (As := [.int (nI S.length)]) (rest := [.int (nI 1), .ref e0]) C lk_Run_107 (c_El_number l E e0 eb es (S.length + 1) f sz S.length x (by omega) (by omega) hx1.1 hx1.2.1 hx1.2.2 (of_decide_eq_true (by assumption))) (by decide) hP hD hS 1 1 rfl rfl [1, 2, 3] rfl (by decide) hl.1 rfl (Nat.le_of_ble_eq_true rfl) d_Run_perform_242 (fun r7 w1 H locs hp8 hP hD hS => ?_)
      obtain ⟨rfl, rfl⟩ := hp8
      have hP : va_P E.1 clz [(u0, .inr (3, [.ref e0, .ref s0, .ref h0, .ref c0])), (e0, .inr (1, [.ref eb, .ref es, .int (nI (S.length + 1))])), (eb, .inl (E.2.1, 1920, .inl f)), (es, .inl (E.2.2.1, 24, .inl sz)), (s0, .inr (5, [.ref m0, .ref d0, .ref h0, .ref x0])), (m0, .inl (E.2.1, 32, .inl mf)), (d0, .inl (E.2.1, 32, .inl df)), (x0, .inl (E.2.1, 112, .inl xf)), (h0, .inr (4, [.ref a1, .ref a2])), (a1, .inl (E.2.2.1, 8, .inl st)), (a2, .inl (E.2.2.1, 64, .inl wv)), (c0, .inr (0, [.int (nI bo), .int (nI bh)]))] H := hP
      have hD : va_D A [(u0, .inr (3, [.ref e0, .ref s0, .ref h0, .ref c0])), (e0, .inr (1, [.ref eb, .ref es, .int (nI (S.length + 1))])), (eb, .inl (E.2.1, 1920, .inl f)), (es, .inl (E.2.2.1, 24, .inl sz)), (s0, .inr (5, [.ref m0, .ref d0, .ref h0, .ref x0])), (m0, .inl (E.2.1, 32, .inl mf)), (d0, .inl (E.2.1, 32, .inl df)), (x0, .inl (E.2.1, 112, .inl xf)), (h0, .inr (4, [.ref a1, .ref a2])), (a1, .inl (E.2.2.1, 8, .inl st)), (a2, .inl (E.2.2.1, 64, .inl wv)), (c0, .inr (0, [.int (nI bo), .int (nI bh)]))] := hD
      refine lv_if_ne hx hb d_Run_perform_245 rfl (fun hc9 => ?_) (fun hc9 => ?_)
      · refine lv_iconst (v := nI 0) hx hb d_Run_perform_252 (by decide) ?_
        refine cal_I (As := [.int (nI 1), .int (b2 false)]) (rest := []) C lk_Run_111 (c_El_truth l E e0 eb es (S.length + 1) f sz 1 false (by omega) (by omega) (by omega)) (by decide) hP hD hS 1 1 rfl rfl [1, 2, 3] rfl (by decide) hl.1 rfl (Nat.le_of_ble_eq_true rfl) d_Run_perform_253 (fun r10 w1 H locs hp11 hP hD hS => ?_)
        obtain ⟨rfl, rfl⟩ := hp11
        have hP : va_P E.1 clz [(u0, .inr (3, [.ref e0, .ref s0, .ref h0, .ref c0])), (e0, .inr (1, [.ref eb, .ref es, .int (nI ((S.length + 1) - 1 + 1))])), (eb, .inl (E.2.1, 1920, .inl (pn4 f (((S.length + 1) - 1) * 80) (b2 false)))), (es, .inl (E.2.2.1, 24, .inl (upd sz ((S.length + 1) - 1) (pnz (b2 false))))), (s0, .inr (5, [.ref m0, .ref d0, .ref h0, .ref x0])), (m0, .inl (E.2.1, 32, .inl mf)), (d0, .inl (E.2.1, 32, .inl df)), (x0, .inl (E.2.1, 112, .inl xf)), (h0, .inr (4, [.ref a1, .ref a2])), (a1, .inl (E.2.2.1, 8, .inl st)), (a2, .inl (E.2.2.1, 64, .inl wv)), (c0, .inr (0, [.int (nI bo), .int (nI bh)]))] H := hP
        have hD : va_D A [(u0, .inr (3, [.ref e0, .ref s0, .ref h0, .ref c0])), (e0, .inr (1, [.ref eb, .ref es, .int (nI ((S.length + 1) - 1 + 1))])), (eb, .inl (E.2.1, 1920, .inl (pn4 f (((S.length + 1) - 1) * 80) (b2 false)))), (es, .inl (E.2.2.1, 24, .inl (upd sz ((S.length + 1) - 1) (pnz (b2 false))))), (s0, .inr (5, [.ref m0, .ref d0, .ref h0, .ref x0])), (m0, .inl (E.2.1, 32, .inl mf)), (d0, .inl (E.2.1, 32, .inl df)), (x0, .inl (E.2.1, 112, .inl xf)), (h0, .inr (4, [.ref a1, .ref a2])), (a1, .inl (E.2.2.1, 8, .inl st)), (a2, .inl (E.2.2.1, 64, .inl wv)), (c0, .inr (0, [.int (nI bo), .int (nI bh)]))] := hD
        refine zb_eq C true rfl d_Run_perform_256 rfl (fun hc12 => absurd hc12 (by simp_all)) (fun hc12 => ?_)
        refine lv_iconst (v := nI 1) hx hb d_Run_perform_259 (by decide) ?_
        refine lv_goto hx hb d_Run_perform_260 rfl ?_
        exact kret (nI 1) [(u0, .inr (3, [.ref e0, .ref s0, .ref h0, .ref c0])), (e0, .inr (1, [.ref eb, .ref es, .int (nI ((S.length + 1) - 1 + 1))])), (eb, .inl (E.2.1, 1920, .inl (pn4 f (((S.length + 1) - 1) * 80) (b2 false)))), (es, .inl (E.2.2.1, 24, .inl (upd sz ((S.length + 1) - 1) (pnz (b2 false))))), (s0, .inr (5, [.ref m0, .ref d0, .ref h0, .ref x0])), (m0, .inl (E.2.1, 32, .inl mf)), (d0, .inl (E.2.1, 32, .inl df)), (x0, .inl (E.2.1, 112, .inl xf)), (h0, .inr (4, [.ref a1, .ref a2])), (a1, .inl (E.2.2.1, 8, .inl st)), (a2, .inl (E.2.2.1, 64, .inl wv)), (c0, .inr (0, [.int (nI bo), .int (nI bh)]))] _ _ _ _ d_Run_perform_264 (⟨_, _, _, _, _, _, _, rfl, fB_pn4 hB, Or.inl ⟨(numB (b2 false) :: S), by show (if x.length ≤ 4 then some (numB (b2 (decide (numL x = nI 0))) :: S) else none) = _; rw [if_pos (of_decide_eq_true hc6), decide_eq_false (p := numL x = nI 0) hc9], rfl, by first | rfl | (simp only [List.length_cons]; omega) | (simp only [List.length_cons]), rep_num hr0 (by omega), by first | (simp only [List.length_cons]; omega) | (simp only [List.length_cons]) | omega⟩⟩) rfl hP hS
      · refine lv_iconst (v := nI 1) hx hb d_Run_perform_248 (by decide) ?_
        refine lv_goto hx hb d_Run_perform_249 rfl ?_
        refine cal_I (As := [.int (nI 1), .int (b2 true)]) (rest := []) C lk_Run_111 (c_El_truth l E e0 eb es (S.length + 1) f sz 1 true (by omega) (by omega) (by omega)) (by decide) hP hD hS 1 1 rfl rfl [1, 2, 3] rfl (by decide) hl.1 rfl (Nat.le_of_ble_eq_true rfl) d_Run_perform_253 (fun r13 w1 H locs hp14 hP hD hS => ?_)
        obtain ⟨rfl, rfl⟩ := hp14
        have hP : va_P E.1 clz [(u0, .inr (3, [.ref e0, .ref s0, .ref h0, .ref c0])), (e0, .inr (1, [.ref eb, .ref es, .int (nI ((S.length + 1) - 1 + 1))])), (eb, .inl (E.2.1, 1920, .inl (pn4 f (((S.length + 1) - 1) * 80) (b2 true)))), (es, .inl (E.2.2.1, 24, .inl (upd sz ((S.length + 1) - 1) (pnz (b2 true))))), (s0, .inr (5, [.ref m0, .ref d0, .ref h0, .ref x0])), (m0, .inl (E.2.1, 32, .inl mf)), (d0, .inl (E.2.1, 32, .inl df)), (x0, .inl (E.2.1, 112, .inl xf)), (h0, .inr (4, [.ref a1, .ref a2])), (a1, .inl (E.2.2.1, 8, .inl st)), (a2, .inl (E.2.2.1, 64, .inl wv)), (c0, .inr (0, [.int (nI bo), .int (nI bh)]))] H := hP
        have hD : va_D A [(u0, .inr (3, [.ref e0, .ref s0, .ref h0, .ref c0])), (e0, .inr (1, [.ref eb, .ref es, .int (nI ((S.length + 1) - 1 + 1))])), (eb, .inl (E.2.1, 1920, .inl (pn4 f (((S.length + 1) - 1) * 80) (b2 true)))), (es, .inl (E.2.2.1, 24, .inl (upd sz ((S.length + 1) - 1) (pnz (b2 true))))), (s0, .inr (5, [.ref m0, .ref d0, .ref h0, .ref x0])), (m0, .inl (E.2.1, 32, .inl mf)), (d0, .inl (E.2.1, 32, .inl df)), (x0, .inl (E.2.1, 112, .inl xf)), (h0, .inr (4, [.ref a1, .ref a2])), (a1, .inl (E.2.2.1, 8, .inl st)), (a2, .inl (E.2.2.1, 64, .inl wv)), (c0, .inr (0, [.int (nI bo), .int (nI bh)]))] := hD
        refine zb_eq C true rfl d_Run_perform_256 rfl (fun hc15 => absurd hc15 (by simp_all)) (fun hc15 => ?_)
        refine lv_iconst (v := nI 1) hx hb d_Run_perform_259 (by decide) ?_
        refine lv_goto hx hb d_Run_perform_260 rfl ?_
        exact kret (nI 1) [(u0, .inr (3, [.ref e0, .ref s0, .ref h0, .ref c0])), (e0, .inr (1, [.ref eb, .ref es, .int (nI ((S.length + 1) - 1 + 1))])), (eb, .inl (E.2.1, 1920, .inl (pn4 f (((S.length + 1) - 1) * 80) (b2 true)))), (es, .inl (E.2.2.1, 24, .inl (upd sz ((S.length + 1) - 1) (pnz (b2 true))))), (s0, .inr (5, [.ref m0, .ref d0, .ref h0, .ref x0])), (m0, .inl (E.2.1, 32, .inl mf)), (d0, .inl (E.2.1, 32, .inl df)), (x0, .inl (E.2.1, 112, .inl xf)), (h0, .inr (4, [.ref a1, .ref a2])), (a1, .inl (E.2.2.1, 8, .inl st)), (a2, .inl (E.2.2.1, 64, .inl wv)), (c0, .inr (0, [.int (nI bo), .int (nI bh)]))] _ _ _ _ d_Run_perform_264 (⟨_, _, _, _, _, _, _, rfl, fB_pn4 hB, Or.inl ⟨(numB (b2 true) :: S), by show (if x.length ≤ 4 then some (numB (b2 (decide (numL x = nI 0))) :: S) else none) = _; rw [if_pos (of_decide_eq_true hc6), decide_eq_true (p := numL x = nI 0) hc9], rfl, by first | rfl | (simp only [List.length_cons]; omega) | (simp only [List.length_cons]), rep_num hr0 (by omega), by first | (simp only [List.length_cons]; omega) | (simp only [List.length_cons]) | omega⟩⟩) rfl hP hS

set_option maxHeartbeats 4000000 in
set_option maxRecDepth 100000 in
theorem c_perf_89 (l : Launch) (E : En) (u0 e0 eb es s0 m0 d0 x0 h0 a1 a2 c0 bo bh : Nat) (mf f sz df xf st wv : Nat → Int32) (S : Stk) (msg : Byl) (hrep : rep f sz S) (hB : fB f) (hBm : fB mf) (hlen : S.length ≤ 24) (hm : lay mf 0 msg) (hm32 : msg.length = 32) (ht : Int32) : CtI l y_Run_perform b_Run_perform 4 .boolean (rmd 5) E [.ref u0, .int (nI 89), .int ht] [(u0, .inr (3, [.ref e0, .ref s0, .ref h0, .ref c0])), (e0, .inr (1, [.ref eb, .ref es, .int (nI S.length)])), (eb, .inl (E.2.1, 1920, .inl f)), (es, .inl (E.2.2.1, 24, .inl sz)), (s0, .inr (5, [.ref m0, .ref d0, .ref h0, .ref x0])), (m0, .inl (E.2.1, 32, .inl mf)), (d0, .inl (E.2.1, 32, .inl df)), (x0, .inl (E.2.1, 112, .inl xf)), (h0, .inr (4, [.ref a1, .ref a2])), (a1, .inl (E.2.2.1, 8, .inl st)), (a2, .inl (E.2.2.1, 64, .inl wv)), (c0, .inr (0, [.int (nI bo), .int (nI bh)]))] (stepP E u0 e0 eb es s0 m0 d0 x0 h0 a1 a2 c0 bo bh mf (actS 89 ht msg S)) := by
  refine CtI.of (by decide) (Nat.le_of_ble_eq_true rfl) (stepP_nar) ?_
  intro p e s m args below meth c A Q H locs ls C hP hD hS hl kret
  have hx := C.1
  have hb := C.2.1
  have hl : lv_has ls 4 [(0, .ref u0), (1, .int (nI 89)), (2, .int ht)] := hl
  refine lv_aload_n hx hb d_Run_perform_0 rfl (lv_at hl 0 rfl) ?_
  refine n_get C fg_Run_12 hP 0 rfl rfl d_Run_perform_1 ?_
  refine n_get C fg_Run_79 hP 1 rfl rfl d_Run_perform_4 ?_
  refine lv_iconst (v := nI 1) hx hb d_Run_perform_7 (by decide) ?_
  refine lv_isub hx hb d_Run_perform_8 ?_
  refine lv_istore_n (lv' := [(3, .int ((nI S.length) - (nI 1))), (0, .ref u0), (1, .int (nI 89)), (2, .int ht)]) hx hb d_Run_perform_9 rfl hl (by decide) rfl (fun ls hl => ?_)
  refine lv_iload_n hx hb d_Run_perform_10 rfl (lv_at hl 2 rfl) ?_
  refine lv_tableIn hx hb d_Run_perform_11 (by decide) (by decide) rfl rfl ?_
  refine lv_aload_n hx hb d_Run_perform_265 rfl (lv_at hl 1 rfl) ?_
  refine lv_iload_n hx hb d_Run_perform_266 rfl (lv_at hl 2 rfl) ?_
  refine cal_I (As := [.int (nI 89)]) (rest := []) C lk_Run_115 (c_Run_reckon89 l E u0 e0 eb es s0 m0 d0 x0 h0 a1 a2 c0 bo bh mf f sz df xf st wv S msg hrep hB hBm hlen hm hm32 ht) (by decide) hP hD hS 0 3 rfl rfl [0, 1, 2, 3, 4, 5, 6, 7, 8, 9, 10, 11] rfl (by decide) hl.1 rfl (Nat.le_of_ble_eq_true rfl) d_Run_perform_267 (fun r10 w1 H locs hp11 hP hD hS => ?_)
  obtain ⟨n1, f2, z3, d4, x5, s6, v7, rfl, hB9, hO8⟩ := hp11
  have hP : va_P E.1 clz [(u0, .inr (3, [.ref e0, .ref s0, .ref h0, .ref c0])), (e0, .inr (1, [.ref eb, .ref es, .int (nI n1)])), (eb, .inl (E.2.1, 1920, .inl f2)), (es, .inl (E.2.2.1, 24, .inl z3)), (s0, .inr (5, [.ref m0, .ref d0, .ref h0, .ref x0])), (m0, .inl (E.2.1, 32, .inl mf)), (d0, .inl (E.2.1, 32, .inl d4)), (x0, .inl (E.2.1, 112, .inl x5)), (h0, .inr (4, [.ref a1, .ref a2])), (a1, .inl (E.2.2.1, 8, .inl s6)), (a2, .inl (E.2.2.1, 64, .inl v7)), (c0, .inr (0, [.int (nI bo), .int (nI bh)]))] H := hP
  have hD : va_D A [(u0, .inr (3, [.ref e0, .ref s0, .ref h0, .ref c0])), (e0, .inr (1, [.ref eb, .ref es, .int (nI n1)])), (eb, .inl (E.2.1, 1920, .inl f2)), (es, .inl (E.2.2.1, 24, .inl z3)), (s0, .inr (5, [.ref m0, .ref d0, .ref h0, .ref x0])), (m0, .inl (E.2.1, 32, .inl mf)), (d0, .inl (E.2.1, 32, .inl d4)), (x0, .inl (E.2.1, 112, .inl x5)), (h0, .inr (4, [.ref a1, .ref a2])), (a1, .inl (E.2.2.1, 8, .inl s6)), (a2, .inl (E.2.2.1, 64, .inl v7)), (c0, .inr (0, [.int (nI bo), .int (nI bh)]))] := hD
  exact kret r10 [(u0, .inr (3, [.ref e0, .ref s0, .ref h0, .ref c0])), (e0, .inr (1, [.ref eb, .ref es, .int (nI n1)])), (eb, .inl (E.2.1, 1920, .inl f2)), (es, .inl (E.2.2.1, 24, .inl z3)), (s0, .inr (5, [.ref m0, .ref d0, .ref h0, .ref x0])), (m0, .inl (E.2.1, 32, .inl mf)), (d0, .inl (E.2.1, 32, .inl d4)), (x0, .inl (E.2.1, 112, .inl x5)), (h0, .inr (4, [.ref a1, .ref a2])), (a1, .inl (E.2.2.1, 8, .inl s6)), (a2, .inl (E.2.2.1, 64, .inl v7)), (c0, .inr (0, [.int (nI bo), .int (nI bh)]))] _ _ _ _ d_Run_perform_270 (⟨n1, f2, z3, d4, x5, s6, v7, rfl, hB9, hO8⟩) rfl hP hS

set_option maxHeartbeats 4000000 in
set_option maxRecDepth 100000 in
theorem c_perf_90 (l : Launch) (E : En) (u0 e0 eb es s0 m0 d0 x0 h0 a1 a2 c0 bo bh : Nat) (mf f sz df xf st wv : Nat → Int32) (S : Stk) (msg : Byl) (hrep : rep f sz S) (hB : fB f) (hBm : fB mf) (hlen : S.length ≤ 24) (hm : lay mf 0 msg) (hm32 : msg.length = 32) (ht : Int32) : CtI l y_Run_perform b_Run_perform 4 .boolean (rmd 5) E [.ref u0, .int (nI 90), .int ht] [(u0, .inr (3, [.ref e0, .ref s0, .ref h0, .ref c0])), (e0, .inr (1, [.ref eb, .ref es, .int (nI S.length)])), (eb, .inl (E.2.1, 1920, .inl f)), (es, .inl (E.2.2.1, 24, .inl sz)), (s0, .inr (5, [.ref m0, .ref d0, .ref h0, .ref x0])), (m0, .inl (E.2.1, 32, .inl mf)), (d0, .inl (E.2.1, 32, .inl df)), (x0, .inl (E.2.1, 112, .inl xf)), (h0, .inr (4, [.ref a1, .ref a2])), (a1, .inl (E.2.2.1, 8, .inl st)), (a2, .inl (E.2.2.1, 64, .inl wv)), (c0, .inr (0, [.int (nI bo), .int (nI bh)]))] (stepP E u0 e0 eb es s0 m0 d0 x0 h0 a1 a2 c0 bo bh mf (actS 90 ht msg S)) := by
  refine CtI.of (by decide) (Nat.le_of_ble_eq_true rfl) (stepP_nar) ?_
  intro p e s m args below meth c A Q H locs ls C hP hD hS hl kret
  have hx := C.1
  have hb := C.2.1
  have hl : lv_has ls 4 [(0, .ref u0), (1, .int (nI 90)), (2, .int ht)] := hl
  refine lv_aload_n hx hb d_Run_perform_0 rfl (lv_at hl 0 rfl) ?_
  refine n_get C fg_Run_12 hP 0 rfl rfl d_Run_perform_1 ?_
  refine n_get C fg_Run_79 hP 1 rfl rfl d_Run_perform_4 ?_
  refine lv_iconst (v := nI 1) hx hb d_Run_perform_7 (by decide) ?_
  refine lv_isub hx hb d_Run_perform_8 ?_
  refine lv_istore_n (lv' := [(3, .int ((nI S.length) - (nI 1))), (0, .ref u0), (1, .int (nI 90)), (2, .int ht)]) hx hb d_Run_perform_9 rfl hl (by decide) rfl (fun ls hl => ?_)
  refine lv_iload_n hx hb d_Run_perform_10 rfl (lv_at hl 2 rfl) ?_
  refine lv_tableIn hx hb d_Run_perform_11 (by decide) (by decide) rfl rfl ?_
  refine lv_aload_n hx hb d_Run_perform_265 rfl (lv_at hl 1 rfl) ?_
  refine lv_iload_n hx hb d_Run_perform_266 rfl (lv_at hl 2 rfl) ?_
  refine cal_I (As := [.int (nI 90)]) (rest := []) C lk_Run_115 (c_Run_reckon90 l E u0 e0 eb es s0 m0 d0 x0 h0 a1 a2 c0 bo bh mf f sz df xf st wv S msg hrep hB hBm hlen hm hm32 ht) (by decide) hP hD hS 0 3 rfl rfl [0, 1, 2, 3, 4, 5, 6, 7, 8, 9, 10, 11] rfl (by decide) hl.1 rfl (Nat.le_of_ble_eq_true rfl) d_Run_perform_267 (fun r10 w1 H locs hp11 hP hD hS => ?_)
  obtain ⟨n1, f2, z3, d4, x5, s6, v7, rfl, hB9, hO8⟩ := hp11
  have hP : va_P E.1 clz [(u0, .inr (3, [.ref e0, .ref s0, .ref h0, .ref c0])), (e0, .inr (1, [.ref eb, .ref es, .int (nI n1)])), (eb, .inl (E.2.1, 1920, .inl f2)), (es, .inl (E.2.2.1, 24, .inl z3)), (s0, .inr (5, [.ref m0, .ref d0, .ref h0, .ref x0])), (m0, .inl (E.2.1, 32, .inl mf)), (d0, .inl (E.2.1, 32, .inl d4)), (x0, .inl (E.2.1, 112, .inl x5)), (h0, .inr (4, [.ref a1, .ref a2])), (a1, .inl (E.2.2.1, 8, .inl s6)), (a2, .inl (E.2.2.1, 64, .inl v7)), (c0, .inr (0, [.int (nI bo), .int (nI bh)]))] H := hP
  have hD : va_D A [(u0, .inr (3, [.ref e0, .ref s0, .ref h0, .ref c0])), (e0, .inr (1, [.ref eb, .ref es, .int (nI n1)])), (eb, .inl (E.2.1, 1920, .inl f2)), (es, .inl (E.2.2.1, 24, .inl z3)), (s0, .inr (5, [.ref m0, .ref d0, .ref h0, .ref x0])), (m0, .inl (E.2.1, 32, .inl mf)), (d0, .inl (E.2.1, 32, .inl d4)), (x0, .inl (E.2.1, 112, .inl x5)), (h0, .inr (4, [.ref a1, .ref a2])), (a1, .inl (E.2.2.1, 8, .inl s6)), (a2, .inl (E.2.2.1, 64, .inl v7)), (c0, .inr (0, [.int (nI bo), .int (nI bh)]))] := hD
  exact kret r10 [(u0, .inr (3, [.ref e0, .ref s0, .ref h0, .ref c0])), (e0, .inr (1, [.ref eb, .ref es, .int (nI n1)])), (eb, .inl (E.2.1, 1920, .inl f2)), (es, .inl (E.2.2.1, 24, .inl z3)), (s0, .inr (5, [.ref m0, .ref d0, .ref h0, .ref x0])), (m0, .inl (E.2.1, 32, .inl mf)), (d0, .inl (E.2.1, 32, .inl d4)), (x0, .inl (E.2.1, 112, .inl x5)), (h0, .inr (4, [.ref a1, .ref a2])), (a1, .inl (E.2.2.1, 8, .inl s6)), (a2, .inl (E.2.2.1, 64, .inl v7)), (c0, .inr (0, [.int (nI bo), .int (nI bh)]))] _ _ _ _ d_Run_perform_270 (⟨n1, f2, z3, d4, x5, s6, v7, rfl, hB9, hO8⟩) rfl hP hS

set_option maxHeartbeats 4000000 in
set_option maxRecDepth 100000 in
theorem c_perf_91 (l : Launch) (E : En) (u0 e0 eb es s0 m0 d0 x0 h0 a1 a2 c0 bo bh : Nat) (mf f sz df xf st wv : Nat → Int32) (S : Stk) (msg : Byl) (hrep : rep f sz S) (hB : fB f) (hBm : fB mf) (hlen : S.length ≤ 24) (hm : lay mf 0 msg) (hm32 : msg.length = 32) (ht : Int32) : CtI l y_Run_perform b_Run_perform 4 .boolean (rmd 5) E [.ref u0, .int (nI 91), .int ht] [(u0, .inr (3, [.ref e0, .ref s0, .ref h0, .ref c0])), (e0, .inr (1, [.ref eb, .ref es, .int (nI S.length)])), (eb, .inl (E.2.1, 1920, .inl f)), (es, .inl (E.2.2.1, 24, .inl sz)), (s0, .inr (5, [.ref m0, .ref d0, .ref h0, .ref x0])), (m0, .inl (E.2.1, 32, .inl mf)), (d0, .inl (E.2.1, 32, .inl df)), (x0, .inl (E.2.1, 112, .inl xf)), (h0, .inr (4, [.ref a1, .ref a2])), (a1, .inl (E.2.2.1, 8, .inl st)), (a2, .inl (E.2.2.1, 64, .inl wv)), (c0, .inr (0, [.int (nI bo), .int (nI bh)]))] (stepP E u0 e0 eb es s0 m0 d0 x0 h0 a1 a2 c0 bo bh mf (actS 91 ht msg S)) := by
  refine CtI.of (by decide) (Nat.le_of_ble_eq_true rfl) (stepP_nar) ?_
  intro p e s m args below meth c A Q H locs ls C hP hD hS hl kret
  have hx := C.1
  have hb := C.2.1
  have hl : lv_has ls 4 [(0, .ref u0), (1, .int (nI 91)), (2, .int ht)] := hl
  refine lv_aload_n hx hb d_Run_perform_0 rfl (lv_at hl 0 rfl) ?_
  refine n_get C fg_Run_12 hP 0 rfl rfl d_Run_perform_1 ?_
  refine n_get C fg_Run_79 hP 1 rfl rfl d_Run_perform_4 ?_
  refine lv_iconst (v := nI 1) hx hb d_Run_perform_7 (by decide) ?_
  refine lv_isub hx hb d_Run_perform_8 ?_
  refine lv_istore_n (lv' := [(3, .int ((nI S.length) - (nI 1))), (0, .ref u0), (1, .int (nI 91)), (2, .int ht)]) hx hb d_Run_perform_9 rfl hl (by decide) rfl (fun ls hl => ?_)
  refine lv_iload_n hx hb d_Run_perform_10 rfl (lv_at hl 2 rfl) ?_
  refine lv_tableIn hx hb d_Run_perform_11 (by decide) (by decide) rfl rfl ?_
  refine lv_aload_n hx hb d_Run_perform_265 rfl (lv_at hl 1 rfl) ?_
  refine lv_iload_n hx hb d_Run_perform_266 rfl (lv_at hl 2 rfl) ?_
  refine cal_I (As := [.int (nI 91)]) (rest := []) C lk_Run_115 (c_Run_reckon91 l E u0 e0 eb es s0 m0 d0 x0 h0 a1 a2 c0 bo bh mf f sz df xf st wv S msg hrep hB hBm hlen hm hm32 ht) (by decide) hP hD hS 0 3 rfl rfl [0, 1, 2, 3, 4, 5, 6, 7, 8, 9, 10, 11] rfl (by decide) hl.1 rfl (Nat.le_of_ble_eq_true rfl) d_Run_perform_267 (fun r10 w1 H locs hp11 hP hD hS => ?_)
  obtain ⟨n1, f2, z3, d4, x5, s6, v7, rfl, hB9, hO8⟩ := hp11
  have hP : va_P E.1 clz [(u0, .inr (3, [.ref e0, .ref s0, .ref h0, .ref c0])), (e0, .inr (1, [.ref eb, .ref es, .int (nI n1)])), (eb, .inl (E.2.1, 1920, .inl f2)), (es, .inl (E.2.2.1, 24, .inl z3)), (s0, .inr (5, [.ref m0, .ref d0, .ref h0, .ref x0])), (m0, .inl (E.2.1, 32, .inl mf)), (d0, .inl (E.2.1, 32, .inl d4)), (x0, .inl (E.2.1, 112, .inl x5)), (h0, .inr (4, [.ref a1, .ref a2])), (a1, .inl (E.2.2.1, 8, .inl s6)), (a2, .inl (E.2.2.1, 64, .inl v7)), (c0, .inr (0, [.int (nI bo), .int (nI bh)]))] H := hP
  have hD : va_D A [(u0, .inr (3, [.ref e0, .ref s0, .ref h0, .ref c0])), (e0, .inr (1, [.ref eb, .ref es, .int (nI n1)])), (eb, .inl (E.2.1, 1920, .inl f2)), (es, .inl (E.2.2.1, 24, .inl z3)), (s0, .inr (5, [.ref m0, .ref d0, .ref h0, .ref x0])), (m0, .inl (E.2.1, 32, .inl mf)), (d0, .inl (E.2.1, 32, .inl d4)), (x0, .inl (E.2.1, 112, .inl x5)), (h0, .inr (4, [.ref a1, .ref a2])), (a1, .inl (E.2.2.1, 8, .inl s6)), (a2, .inl (E.2.2.1, 64, .inl v7)), (c0, .inr (0, [.int (nI bo), .int (nI bh)]))] := hD
  exact kret r10 [(u0, .inr (3, [.ref e0, .ref s0, .ref h0, .ref c0])), (e0, .inr (1, [.ref eb, .ref es, .int (nI n1)])), (eb, .inl (E.2.1, 1920, .inl f2)), (es, .inl (E.2.2.1, 24, .inl z3)), (s0, .inr (5, [.ref m0, .ref d0, .ref h0, .ref x0])), (m0, .inl (E.2.1, 32, .inl mf)), (d0, .inl (E.2.1, 32, .inl d4)), (x0, .inl (E.2.1, 112, .inl x5)), (h0, .inr (4, [.ref a1, .ref a2])), (a1, .inl (E.2.2.1, 8, .inl s6)), (a2, .inl (E.2.2.1, 64, .inl v7)), (c0, .inr (0, [.int (nI bo), .int (nI bh)]))] _ _ _ _ d_Run_perform_270 (⟨n1, f2, z3, d4, x5, s6, v7, rfl, hB9, hO8⟩) rfl hP hS

set_option maxHeartbeats 4000000 in
set_option maxRecDepth 100000 in
theorem c_perf_92 (l : Launch) (E : En) (u0 e0 eb es s0 m0 d0 x0 h0 a1 a2 c0 bo bh : Nat) (mf f sz df xf st wv : Nat → Int32) (S : Stk) (msg : Byl) (hrep : rep f sz S) (hB : fB f) (hBm : fB mf) (hlen : S.length ≤ 24) (hm : lay mf 0 msg) (hm32 : msg.length = 32) (ht : Int32) : CtI l y_Run_perform b_Run_perform 4 .boolean (rmd 5) E [.ref u0, .int (nI 92), .int ht] [(u0, .inr (3, [.ref e0, .ref s0, .ref h0, .ref c0])), (e0, .inr (1, [.ref eb, .ref es, .int (nI S.length)])), (eb, .inl (E.2.1, 1920, .inl f)), (es, .inl (E.2.2.1, 24, .inl sz)), (s0, .inr (5, [.ref m0, .ref d0, .ref h0, .ref x0])), (m0, .inl (E.2.1, 32, .inl mf)), (d0, .inl (E.2.1, 32, .inl df)), (x0, .inl (E.2.1, 112, .inl xf)), (h0, .inr (4, [.ref a1, .ref a2])), (a1, .inl (E.2.2.1, 8, .inl st)), (a2, .inl (E.2.2.1, 64, .inl wv)), (c0, .inr (0, [.int (nI bo), .int (nI bh)]))] (stepP E u0 e0 eb es s0 m0 d0 x0 h0 a1 a2 c0 bo bh mf (actS 92 ht msg S)) := by
  refine CtI.of (by decide) (Nat.le_of_ble_eq_true rfl) (stepP_nar) ?_
  intro p e s m args below meth c A Q H locs ls C hP hD hS hl kret
  have hx := C.1
  have hb := C.2.1
  have hl : lv_has ls 4 [(0, .ref u0), (1, .int (nI 92)), (2, .int ht)] := hl
  rcases S with _ | ⟨x, _ | ⟨y, S⟩⟩
  · have hP : va_P E.1 clz [(u0, .inr (3, [.ref e0, .ref s0, .ref h0, .ref c0])), (e0, .inr (1, [.ref eb, .ref es, .int (nI 0)])), (eb, .inl (E.2.1, 1920, .inl f)), (es, .inl (E.2.2.1, 24, .inl sz)), (s0, .inr (5, [.ref m0, .ref d0, .ref h0, .ref x0])), (m0, .inl (E.2.1, 32, .inl mf)), (d0, .inl (E.2.1, 32, .inl df)), (x0, .inl (E.2.1, 112, .inl xf)), (h0, .inr (4, [.ref a1, .ref a2])), (a1, .inl (E.2.2.1, 8, .inl st)), (a2, .inl (E.2.2.1, 64, .inl wv)), (c0, .inr (0, [.int (nI bo), .int (nI bh)]))] H := hP
    have hD : va_D A [(u0, .inr (3, [.ref e0, .ref s0, .ref h0, .ref c0])), (e0, .inr (1, [.ref eb, .ref es, .int (nI 0)])), (eb, .inl (E.2.1, 1920, .inl f)), (es, .inl (E.2.2.1, 24, .inl sz)), (s0, .inr (5, [.ref m0, .ref d0, .ref h0, .ref x0])), (m0, .inl (E.2.1, 32, .inl mf)), (d0, .inl (E.2.1, 32, .inl df)), (x0, .inl (E.2.1, 112, .inl xf)), (h0, .inr (4, [.ref a1, .ref a2])), (a1, .inl (E.2.2.1, 8, .inl st)), (a2, .inl (E.2.2.1, 64, .inl wv)), (c0, .inr (0, [.int (nI bo), .int (nI bh)]))] := hD
    refine lv_aload_n hx hb d_Run_perform_0 rfl (lv_at hl 0 rfl) ?_
    refine n_get C fg_Run_12 hP 0 rfl rfl d_Run_perform_1 ?_
    refine n_get C fg_Run_79 hP 1 rfl rfl d_Run_perform_4 ?_
    refine lv_iconst (v := nI 1) hx hb d_Run_perform_7 (by decide) ?_
    refine lv_isub hx hb d_Run_perform_8 ?_
    refine tope (z := (-1)) (by decide) ?_
    refine lv_istore_n (lv' := [(3, .int (-1)), (0, .ref u0), (1, .int (nI 92)), (2, .int ht)]) hx hb d_Run_perform_9 rfl hl (by decide) rfl (fun ls hl => ?_)
    refine lv_iload_n hx hb d_Run_perform_10 rfl (lv_at hl 2 rfl) ?_
    refine lv_tableIn hx hb d_Run_perform_11 (by decide) (by decide) rfl rfl ?_
    refine lv_aload_n hx hb d_Run_perform_276 rfl (lv_at hl 1 rfl) ?_
    refine n_get C fg_Run_12 hP 0 rfl rfl d_Run_perform_277 ?_
    refine lv_iconst (v := nI 2) hx hb d_Run_perform_280 (by decide) ?_
    refine lv_aload_n hx hb d_Run_perform_281 rfl (lv_at hl 1 rfl) ?_
    refine n_get C fg_Run_12 hP 0 rfl rfl d_Run_perform_282 ?_
    refine lv_iload_n hx hb d_Run_perform_285 rfl (lv_at hl 0 rfl) ?_
    refine lv_iconst (v := nI 1) hx hb d_Run_perform_286 (by decide) ?_
    refine lv_isub hx hb d_Run_perform_287 ?_
    refine tope (z := (-2)) (by decide) ?_
    refine cal_I (As := [.int (-2)]) (rest := [.int (nI 2), .ref e0]) C lk_Run_82 (c_El_isTrue_no l E e0 eb es 0 f sz (-2) (by first | exact hasB_m1 _ | exact hasB_m2 _)) (by decide) hP hD hS 1 1 rfl rfl [1, 2, 3] rfl (by decide) hl.1 rfl (Nat.le_of_ble_eq_true rfl) d_Run_perform_288 (fun r1 w1 H locs hp2 hP hD hS => ?_)
    obtain ⟨rfl, rfl⟩ := hp2
    have hP : va_P E.1 clz [(u0, .inr (3, [.ref e0, .ref s0, .ref h0, .ref c0])), (e0, .inr (1, [.ref eb, .ref es, .int (nI 0)])), (eb, .inl (E.2.1, 1920, .inl f)), (es, .inl (E.2.2.1, 24, .inl sz)), (s0, .inr (5, [.ref m0, .ref d0, .ref h0, .ref x0])), (m0, .inl (E.2.1, 32, .inl mf)), (d0, .inl (E.2.1, 32, .inl df)), (x0, .inl (E.2.1, 112, .inl xf)), (h0, .inr (4, [.ref a1, .ref a2])), (a1, .inl (E.2.2.1, 8, .inl st)), (a2, .inl (E.2.2.1, 64, .inl wv)), (c0, .inr (0, [.int (nI bo), .int (nI bh)]))] H := hP
    have hD : va_D A [(u0, .inr (3, [.ref e0, .ref s0, .ref h0, .ref c0])), (e0, .inr (1, [.ref eb, .ref es, .int (nI 0)])), (eb, .inl (E.2.1, 1920, .inl f)), (es, .inl (E.2.2.1, 24, .inl sz)), (s0, .inr (5, [.ref m0, .ref d0, .ref h0, .ref x0])), (m0, .inl (E.2.1, 32, .inl mf)), (d0, .inl (E.2.1, 32, .inl df)), (x0, .inl (E.2.1, 112, .inl xf)), (h0, .inr (4, [.ref a1, .ref a2])), (a1, .inl (E.2.2.1, 8, .inl st)), (a2, .inl (E.2.2.1, 64, .inl wv)), (c0, .inr (0, [.int (nI bo), .int (nI bh)]))] := hD
    refine zb_eq C false rfl d_Run_perform_291 rfl (fun hc3 => ?_) (fun hc3 => absurd hc3 (by simp_all))
    refine lv_iconst (v := nI 0) hx hb d_Run_perform_309 (by decide) ?_
    refine cal_I (As := [.int (nI 2), .int (b2 false)]) (rest := []) C lk_Run_111 (c_El_truth_no l E e0 eb es 0 f sz 2 false (by omega) (by omega)) (by decide) hP hD hS 1 1 rfl rfl [1, 2, 3] rfl (by decide) hl.1 rfl (Nat.le_of_ble_eq_true rfl) d_Run_perform_310 (fun r4 w1 H locs hp5 hP hD hS => ?_)
    obtain ⟨rfl, rfl⟩ := hp5
    have hP : va_P E.1 clz [(u0, .inr (3, [.ref e0, .ref s0, .ref h0, .ref c0])), (e0, .inr (1, [.ref eb, .ref es, .int (nI 0)])), (eb, .inl (E.2.1, 1920, .inl f)), (es, .inl (E.2.2.1, 24, .inl sz)), (s0, .inr (5, [.ref m0, .ref d0, .ref h0, .ref x0])), (m0, .inl (E.2.1, 32, .inl mf)), (d0, .inl (E.2.1, 32, .inl df)), (x0, .inl (E.2.1, 112, .inl xf)), (h0, .inr (4, [.ref a1, .ref a2])), (a1, .inl (E.2.2.1, 8, .inl st)), (a2, .inl (E.2.2.1, 64, .inl wv)), (c0, .inr (0, [.int (nI bo), .int (nI bh)]))] H := hP
    have hD : va_D A [(u0, .inr (3, [.ref e0, .ref s0, .ref h0, .ref c0])), (e0, .inr (1, [.ref eb, .ref es, .int (nI 0)])), (eb, .inl (E.2.1, 1920, .inl f)), (es, .inl (E.2.2.1, 24, .inl sz)), (s0, .inr (5, [.ref m0, .ref d0, .ref h0, .ref x0])), (m0, .inl (E.2.1, 32, .inl mf)), (d0, .inl (E.2.1, 32, .inl df)), (x0, .inl (E.2.1, 112, .inl xf)), (h0, .inr (4, [.ref a1, .ref a2])), (a1, .inl (E.2.2.1, 8, .inl st)), (a2, .inl (E.2.2.1, 64, .inl wv)), (c0, .inr (0, [.int (nI bo), .int (nI bh)]))] := hD
    exact kret (b2 false) [(u0, .inr (3, [.ref e0, .ref s0, .ref h0, .ref c0])), (e0, .inr (1, [.ref eb, .ref es, .int (nI 0)])), (eb, .inl (E.2.1, 1920, .inl f)), (es, .inl (E.2.2.1, 24, .inl sz)), (s0, .inr (5, [.ref m0, .ref d0, .ref h0, .ref x0])), (m0, .inl (E.2.1, 32, .inl mf)), (d0, .inl (E.2.1, 32, .inl df)), (x0, .inl (E.2.1, 112, .inl xf)), (h0, .inr (4, [.ref a1, .ref a2])), (a1, .inl (E.2.2.1, 8, .inl st)), (a2, .inl (E.2.2.1, 64, .inl wv)), (c0, .inr (0, [.int (nI bo), .int (nI bh)]))] _ _ _ _ d_Run_perform_313 (⟨_, _, _, _, _, _, _, rfl, hB, Or.inr ⟨rfl, rfl⟩⟩) rfl hP hS
  · have hx1 : sz 0 = nI x.length ∧ x.length ≤ 80 ∧ lay f (0 * 80) x := rep_top hrep
    have hP : va_P E.1 clz [(u0, .inr (3, [.ref e0, .ref s0, .ref h0, .ref c0])), (e0, .inr (1, [.ref eb, .ref es, .int (nI 1)])), (eb, .inl (E.2.1, 1920, .inl f)), (es, .inl (E.2.2.1, 24, .inl sz)), (s0, .inr (5, [.ref m0, .ref d0, .ref h0, .ref x0])), (m0, .inl (E.2.1, 32, .inl mf)), (d0, .inl (E.2.1, 32, .inl df)), (x0, .inl (E.2.1, 112, .inl xf)), (h0, .inr (4, [.ref a1, .ref a2])), (a1, .inl (E.2.2.1, 8, .inl st)), (a2, .inl (E.2.2.1, 64, .inl wv)), (c0, .inr (0, [.int (nI bo), .int (nI bh)]))] H := hP
    have hD : va_D A [(u0, .inr (3, [.ref e0, .ref s0, .ref h0, .ref c0])), (e0, .inr (1, [.ref eb, .ref es, .int (nI 1)])), (eb, .inl (E.2.1, 1920, .inl f)), (es, .inl (E.2.2.1, 24, .inl sz)), (s0, .inr (5, [.ref m0, .ref d0, .ref h0, .ref x0])), (m0, .inl (E.2.1, 32, .inl mf)), (d0, .inl (E.2.1, 32, .inl df)), (x0, .inl (E.2.1, 112, .inl xf)), (h0, .inr (4, [.ref a1, .ref a2])), (a1, .inl (E.2.2.1, 8, .inl st)), (a2, .inl (E.2.2.1, 64, .inl wv)), (c0, .inr (0, [.int (nI bo), .int (nI bh)]))] := hD
    refine lv_aload_n hx hb d_Run_perform_0 rfl (lv_at hl 0 rfl) ?_
    refine n_get C fg_Run_12 hP 0 rfl rfl d_Run_perform_1 ?_
    refine n_get C fg_Run_79 hP 1 rfl rfl d_Run_perform_4 ?_
    refine lv_iconst (v := nI 1) hx hb d_Run_perform_7 (by decide) ?_
    refine lv_isub hx hb d_Run_perform_8 ?_
    refine tope (z := nI 0) (pk_sub (by omega)) ?_
    refine lv_istore_n (lv' := [(3, .int (nI 0)), (0, .ref u0), (1, .int (nI 92)), (2, .int ht)]) hx hb d_Run_perform_9 rfl hl (by decide) rfl (fun ls hl => ?_)
    refine lv_iload_n hx hb d_Run_perform_10 rfl (lv_at hl 2 rfl) ?_
    refine lv_tableIn hx hb d_Run_perform_11 (by decide) (by decide) rfl rfl ?_
    refine lv_aload_n hx hb d_Run_perform_276 rfl (lv_at hl 1 rfl) ?_
    refine n_get C fg_Run_12 hP 0 rfl rfl d_Run_perform_277 ?_
    refine lv_iconst (v := nI 2) hx hb d_Run_perform_280 (by decide) ?_
    refine lv_aload_n hx hb d_Run_perform_281 rfl (lv_at hl 1 rfl) ?_
    refine n_get C fg_Run_12 hP 0 rfl rfl d_Run_perform_282 ?_
    refine lv_iload_n hx hb d_Run_perform_285 rfl (lv_at hl 0 rfl) ?_
    refine lv_iconst (v := nI 1) hx hb d_Run_perform_286 (by decide) ?_
    refine lv_isub hx hb d_Run_perform_287 ?_
    refine tope (z := (-1)) (by decide) ?_
    refine cal_I (As := [.int (-1)]) (rest := [.int (nI 2), .ref e0]) C lk_Run_82 (c_El_isTrue_no l E e0 eb es 1 f sz (-1) (by first | exact hasB_m1 _ | exact hasB_m2 _)) (by decide) hP hD hS 1 1 rfl rfl [1, 2, 3] rfl (by decide) hl.1 rfl (Nat.le_of_ble_eq_true rfl) d_Run_perform_288 (fun r6 w1 H locs hp7 hP hD hS => ?_)
    obtain ⟨rfl, rfl⟩ := hp7
    have hP : va_P E.1 clz [(u0, .inr (3, [.ref e0, .ref s0, .ref h0, .ref c0])), (e0, .inr (1, [.ref eb, .ref es, .int (nI 1)])), (eb, .inl (E.2.1, 1920, .inl f)), (es, .inl (E.2.2.1, 24, .inl sz)), (s0, .inr (5, [.ref m0, .ref d0, .ref h0, .ref x0])), (m0, .inl (E.2.1, 32, .inl mf)), (d0, .inl (E.2.1, 32, .inl df)), (x0, .inl (E.2.1, 112, .inl xf)), (h0, .inr (4, [.ref a1, .ref a2])), (a1, .inl (E.2.2.1, 8, .inl st)), (a2, .inl (E.2.2.1, 64, .inl wv)), (c0, .inr (0, [.int (nI bo), .int (nI bh)]))] H := hP
    have hD : va_D A [(u0, .inr (3, [.ref e0, .ref s0, .ref h0, .ref c0])), (e0, .inr (1, [.ref eb, .ref es, .int (nI 1)])), (eb, .inl (E.2.1, 1920, .inl f)), (es, .inl (E.2.2.1, 24, .inl sz)), (s0, .inr (5, [.ref m0, .ref d0, .ref h0, .ref x0])), (m0, .inl (E.2.1, 32, .inl mf)), (d0, .inl (E.2.1, 32, .inl df)), (x0, .inl (E.2.1, 112, .inl xf)), (h0, .inr (4, [.ref a1, .ref a2])), (a1, .inl (E.2.2.1, 8, .inl st)), (a2, .inl (E.2.2.1, 64, .inl wv)), (c0, .inr (0, [.int (nI bo), .int (nI bh)]))] := hD
    refine zb_eq C false rfl d_Run_perform_291 rfl (fun hc8 => ?_) (fun hc8 => absurd hc8 (by simp_all))
    refine lv_iconst (v := nI 0) hx hb d_Run_perform_309 (by decide) ?_
    refine cal_I (As := [.int (nI 2), .int (b2 false)]) (rest := []) C lk_Run_111 (c_El_truth_no l E e0 eb es 1 f sz 2 false (by omega) (by omega)) (by decide) hP hD hS 1 1 rfl rfl [1, 2, 3] rfl (by decide) hl.1 rfl (Nat.le_of_ble_eq_true rfl) d_Run_perform_310 (fun r9 w1 H locs hp10 hP hD hS => ?_)
    obtain ⟨rfl, rfl⟩ := hp10
    have hP : va_P E.1 clz [(u0, .inr (3, [.ref e0, .ref s0, .ref h0, .ref c0])), (e0, .inr (1, [.ref eb, .ref es, .int (nI 1)])), (eb, .inl (E.2.1, 1920, .inl f)), (es, .inl (E.2.2.1, 24, .inl sz)), (s0, .inr (5, [.ref m0, .ref d0, .ref h0, .ref x0])), (m0, .inl (E.2.1, 32, .inl mf)), (d0, .inl (E.2.1, 32, .inl df)), (x0, .inl (E.2.1, 112, .inl xf)), (h0, .inr (4, [.ref a1, .ref a2])), (a1, .inl (E.2.2.1, 8, .inl st)), (a2, .inl (E.2.2.1, 64, .inl wv)), (c0, .inr (0, [.int (nI bo), .int (nI bh)]))] H := hP
    have hD : va_D A [(u0, .inr (3, [.ref e0, .ref s0, .ref h0, .ref c0])), (e0, .inr (1, [.ref eb, .ref es, .int (nI 1)])), (eb, .inl (E.2.1, 1920, .inl f)), (es, .inl (E.2.2.1, 24, .inl sz)), (s0, .inr (5, [.ref m0, .ref d0, .ref h0, .ref x0])), (m0, .inl (E.2.1, 32, .inl mf)), (d0, .inl (E.2.1, 32, .inl df)), (x0, .inl (E.2.1, 112, .inl xf)), (h0, .inr (4, [.ref a1, .ref a2])), (a1, .inl (E.2.2.1, 8, .inl st)), (a2, .inl (E.2.2.1, 64, .inl wv)), (c0, .inr (0, [.int (nI bo), .int (nI bh)]))] := hD
    exact kret (b2 false) [(u0, .inr (3, [.ref e0, .ref s0, .ref h0, .ref c0])), (e0, .inr (1, [.ref eb, .ref es, .int (nI 1)])), (eb, .inl (E.2.1, 1920, .inl f)), (es, .inl (E.2.2.1, 24, .inl sz)), (s0, .inr (5, [.ref m0, .ref d0, .ref h0, .ref x0])), (m0, .inl (E.2.1, 32, .inl mf)), (d0, .inl (E.2.1, 32, .inl df)), (x0, .inl (E.2.1, 112, .inl xf)), (h0, .inr (4, [.ref a1, .ref a2])), (a1, .inl (E.2.2.1, 8, .inl st)), (a2, .inl (E.2.2.1, 64, .inl wv)), (c0, .inr (0, [.int (nI bo), .int (nI bh)]))] _ _ _ _ d_Run_perform_313 (⟨_, _, _, _, _, _, _, rfl, hB, Or.inr ⟨rfl, rfl⟩⟩) rfl hP hS
  · have hx1 : sz (S.length + 1) = nI x.length ∧ x.length ≤ 80 ∧ lay f ((S.length + 1) * 80) x := rep_top hrep
    have hy1 : sz S.length = nI y.length ∧ y.length ≤ 80 ∧ lay f (S.length * 80) y := rep_top (rep_tail hrep)
    have hr0 : rep f sz S := rep_tail (rep_tail hrep)
    have hlen : S.length + 2 ≤ 24 := hlen
    have hP : va_P E.1 clz [(u0, .inr (3, [.ref e0, .ref s0, .ref h0, .ref c0])), (e0, .inr (1, [.ref eb, .ref es, .int (nI (S.length + 2))])), (eb, .inl (E.2.1, 1920, .inl f)), (es, .inl (E.2.2.1, 24, .inl sz)), (s0, .inr (5, [.ref m0, .ref d0, .ref h0, .ref x0])), (m0, .inl (E.2.1, 32, .inl mf)), (d0, .inl (E.2.1, 32, .inl df)), (x0, .inl (E.2.1, 112, .inl xf)), (h0, .inr (4, [.ref a1, .ref a2])), (a1, .inl (E.2.2.1, 8, .inl st)), (a2, .inl (E.2.2.1, 64, .inl wv)), (c0, .inr (0, [.int (nI bo), .int (nI bh)]))] H := hP
    have hD : va_D A [(u0, .inr (3, [.ref e0, .ref s0, .ref h0, .ref c0])), (e0, .inr (1, [.ref eb, .ref es, .int (nI (S.length + 2))])), (eb, .inl (E.2.1, 1920, .inl f)), (es, .inl (E.2.2.1, 24, .inl sz)), (s0, .inr (5, [.ref m0, .ref d0, .ref h0, .ref x0])), (m0, .inl (E.2.1, 32, .inl mf)), (d0, .inl (E.2.1, 32, .inl df)), (x0, .inl (E.2.1, 112, .inl xf)), (h0, .inr (4, [.ref a1, .ref a2])), (a1, .inl (E.2.2.1, 8, .inl st)), (a2, .inl (E.2.2.1, 64, .inl wv)), (c0, .inr (0, [.int (nI bo), .int (nI bh)]))] := hD
    refine lv_aload_n hx hb d_Run_perform_0 rfl (lv_at hl 0 rfl) ?_
    refine n_get C fg_Run_12 hP 0 rfl rfl d_Run_perform_1 ?_
    refine n_get C fg_Run_79 hP 1 rfl rfl d_Run_perform_4 ?_
    refine lv_iconst (v := nI 1) hx hb d_Run_perform_7 (by decide) ?_
    refine lv_isub hx hb d_Run_perform_8 ?_
    refine tope (z := nI (S.length + 1)) ((pk_sub (by omega)).trans (congrArg nI (by omega))) ?_
    refine lv_istore_n (lv' := [(3, .int (nI (S.length + 1))), (0, .ref u0), (1, .int (nI 92)), (2, .int ht)]) hx hb d_Run_perform_9 rfl hl (by decide) rfl (fun ls hl => ?_)
    refine lv_iload_n hx hb d_Run_perform_10 rfl (lv_at hl 2 rfl) ?_
    refine lv_tableIn hx hb d_Run_perform_11 (by decide) (by decide) rfl rfl ?_
    refine lv_aload_n hx hb d_Run_perform_276 rfl (lv_at hl 1 rfl) ?_
    refine n_get C fg_Run_12 hP 0 rfl rfl d_Run_perform_277 ?_
    refine lv_iconst (v := nI 2) hx hb d_Run_perform_280 (by decide) ?_
    refine lv_aload_n hx hb d_Run_perform_281 rfl (lv_at hl 1 rfl) ?_
    refine n_get C fg_Run_12 hP 0 rfl rfl d_Run_perform_282 ?_
    refine lv_iload_n hx hb d_Run_perform_285 rfl (lv_at hl 0 rfl) ?_
    refine lv_iconst (v := nI 1) hx hb d_Run_perform_286 (by decide) ?_
    refine lv_isub hx hb d_Run_perform_287 ?_
    refine tope (z := nI S.length) ((pk_sub (by omega)).trans (congrArg nI (by omega))) ?_
    refine cal_I (As := [.int (nI S.length)]) (rest := [.int (nI 2), .ref e0]) C lk_Run_82 (c_El_isTrue l E e0 eb es (S.length + 2) f sz S.length y (by omega) (by omega) hy1.1 hy1.2.1 hy1.2.2) (by decide) hP hD hS 1 1 rfl rfl [1, 2, 3] rfl (by decide) hl.1 rfl (Nat.le_of_ble_eq_true rfl) d_Run_perform_288 (fun r11 w1 H locs hp12 hP hD hS => ?_)
    obtain ⟨rfl, rfl⟩ := hp12
    have hP : va_P E.1 clz [(u0, .inr (3, [.ref e0, .ref s0, .ref h0, .ref c0])), (e0, .inr (1, [.ref eb, .ref es, .int (nI (S.length + 2))])), (eb, .inl (E.2.1, 1920, .inl f)), (es, .inl (E.2.2.1, 24, .inl sz)), (s0, .inr (5, [.ref m0, .ref d0, .ref h0, .ref x0])), (m0, .inl (E.2.1, 32, .inl mf)), (d0, .inl (E.2.1, 32, .inl df)), (x0, .inl (E.2.1, 112, .inl xf)), (h0, .inr (4, [.ref a1, .ref a2])), (a1, .inl (E.2.2.1, 8, .inl st)), (a2, .inl (E.2.2.1, 64, .inl wv)), (c0, .inr (0, [.int (nI bo), .int (nI bh)]))] H := hP
    have hD : va_D A [(u0, .inr (3, [.ref e0, .ref s0, .ref h0, .ref c0])), (e0, .inr (1, [.ref eb, .ref es, .int (nI (S.length + 2))])), (eb, .inl (E.2.1, 1920, .inl f)), (es, .inl (E.2.2.1, 24, .inl sz)), (s0, .inr (5, [.ref m0, .ref d0, .ref h0, .ref x0])), (m0, .inl (E.2.1, 32, .inl mf)), (d0, .inl (E.2.1, 32, .inl df)), (x0, .inl (E.2.1, 112, .inl xf)), (h0, .inr (4, [.ref a1, .ref a2])), (a1, .inl (E.2.2.1, 8, .inl st)), (a2, .inl (E.2.2.1, 64, .inl wv)), (c0, .inr (0, [.int (nI bo), .int (nI bh)]))] := hD
    refine zb_eq C (isT y) rfl d_Run_perform_291 rfl (fun hc13 => ?_) (fun hc13 => ?_)
    · refine lv_iconst (v := nI 0) hx hb d_Run_perform_309 (by decide) ?_
      refine cal_I (As := [.int (nI 2), .int (b2 false)]) (rest := []) C lk_Run_111 (c_El_truth l E e0 eb es (S.length + 2) f sz 2 false (by omega) (by omega) (by omega)) (by decide) hP hD hS 1 1 rfl rfl [1, 2, 3] rfl (by decide) hl.1 rfl (Nat.le_of_ble_eq_true rfl) d_Run_perform_310 (fun r14 w1 H locs hp15 hP hD hS => ?_)
      obtain ⟨rfl, rfl⟩ := hp15
      have hP : va_P E.1 clz [(u0, .inr (3, [.ref e0, .ref s0, .ref h0, .ref c0])), (e0, .inr (1, [.ref eb, .ref es, .int (nI ((S.length + 2) - 2 + 1))])), (eb, .inl (E.2.1, 1920, .inl (pn4 f (((S.length + 2) - 2) * 80) (b2 false)))), (es, .inl (E.2.2.1, 24, .inl (upd sz ((S.length + 2) - 2) (pnz (b2 false))))), (s0, .inr (5, [.ref m0, .ref d0, .ref h0, .ref x0])), (m0, .inl (E.2.1, 32, .inl mf)), (d0, .inl (E.2.1, 32, .inl df)), (x0, .inl (E.2.1, 112, .inl xf)), (h0, .inr (4, [.ref a1, .ref a2])), (a1, .inl (E.2.2.1, 8, .inl st)), (a2, .inl (E.2.2.1, 64, .inl wv)), (c0, .inr (0, [.int (nI bo), .int (nI bh)]))] H := hP
      have hD : va_D A [(u0, .inr (3, [.ref e0, .ref s0, .ref h0, .ref c0])), (e0, .inr (1, [.ref eb, .ref es, .int (nI ((S.length + 2) - 2 + 1))])), (eb, .inl (E.2.1, 1920, .inl (pn4 f (((S.length + 2) - 2) * 80) (b2 false)))), (es, .inl (E.2.2.1, 24, .inl (upd sz ((S.length + 2) - 2) (pnz (b2 false))))), (s0, .inr (5, [.ref m0, .ref d0, .ref h0, .ref x0])), (m0, .inl (E.2.1, 32, .inl mf)), (d0, .inl (E.2.1, 32, .inl df)), (x0, .inl (E.2.1, 112, .inl xf)), (h0, .inr (4, [.ref a1, .ref a2])), (a1, .inl (E.2.2.1, 8, .inl st)), (a2, .inl (E.2.2.1, 64, .inl wv)), (c0, .inr (0, [.int (nI bo), .int (nI bh)]))] := hD
      exact kret (b2 true) [(u0, .inr (3, [.ref e0, .ref s0, .ref h0, .ref c0])), (e0, .inr (1, [.ref eb, .ref es, .int (nI ((S.length + 2) - 2 + 1))])), (eb, .inl (E.2.1, 1920, .inl (pn4 f (((S.length + 2) - 2) * 80) (b2 false)))), (es, .inl (E.2.2.1, 24, .inl (upd sz ((S.length + 2) - 2) (pnz (b2 false))))), (s0, .inr (5, [.ref m0, .ref d0, .ref h0, .ref x0])), (m0, .inl (E.2.1, 32, .inl mf)), (d0, .inl (E.2.1, 32, .inl df)), (x0, .inl (E.2.1, 112, .inl xf)), (h0, .inr (4, [.ref a1, .ref a2])), (a1, .inl (E.2.2.1, 8, .inl st)), (a2, .inl (E.2.2.1, 64, .inl wv)), (c0, .inr (0, [.int (nI bo), .int (nI bh)]))] _ _ _ _ d_Run_perform_313 (⟨_, _, _, _, _, _, _, rfl, fB_pn4 hB, Or.inl ⟨(numB (b2 false) :: S), by show some (numB (b2 (isT y && isT x)) :: S) = _; rw [hc13]; rfl, rfl, by first | rfl | (simp only [List.length_cons]; omega) | (simp only [List.length_cons]), rep_num hr0 (by omega), by first | (simp only [List.length_cons]; omega) | (simp only [List.length_cons]) | omega⟩⟩) rfl hP hS
    · refine lv_aload_n hx hb d_Run_perform_294 rfl (lv_at hl 1 rfl) ?_
      refine n_get C fg_Run_12 hP 0 rfl rfl d_Run_perform_295 ?_
      refine lv_iload_n hx hb d_Run_perform_298 rfl (lv_at hl 0 rfl) ?_
      refine cal_I (As := [.int (nI (S.length + 1))]) (rest := [.int (nI 2), .ref e0]) C lk_Run_82 (c_El_isTrue l E e0 eb es (S.length + 2) f sz (S.length + 1) x (by omega) (by omega) hx1.1 hx1.2.1 hx1.2.2) (by decide) hP hD hS 1 1 rfl rfl [1, 2, 3] rfl (by decide) hl.1 rfl (Nat.le_of_ble_eq_true rfl) d_Run_perform_299 (fun r16 w1 H locs hp17 hP hD hS => ?_)
      obtain ⟨rfl, rfl⟩ := hp17
      have hP : va_P E.1 clz [(u0, .inr (3, [.ref e0, .ref s0, .ref h0, .ref c0])), (e0, .inr (1, [.ref eb, .ref es, .int (nI (S.length + 2))])), (eb, .inl (E.2.1, 1920, .inl f)), (es, .inl (E.2.2.1, 24, .inl sz)), (s0, .inr (5, [.ref m0, .ref d0, .ref h0, .ref x0])), (m0, .inl (E.2.1, 32, .inl mf)), (d0, .inl (E.2.1, 32, .inl df)), (x0, .inl (E.2.1, 112, .inl xf)), (h0, .inr (4, [.ref a1, .ref a2])), (a1, .inl (E.2.2.1, 8, .inl st)), (a2, .inl (E.2.2.1, 64, .inl wv)), (c0, .inr (0, [.int (nI bo), .int (nI bh)]))] H := hP
      have hD : va_D A [(u0, .inr (3, [.ref e0, .ref s0, .ref h0, .ref c0])), (e0, .inr (1, [.ref eb, .ref es, .int (nI (S.length + 2))])), (eb, .inl (E.2.1, 1920, .inl f)), (es, .inl (E.2.2.1, 24, .inl sz)), (s0, .inr (5, [.ref m0, .ref d0, .ref h0, .ref x0])), (m0, .inl (E.2.1, 32, .inl mf)), (d0, .inl (E.2.1, 32, .inl df)), (x0, .inl (E.2.1, 112, .inl xf)), (h0, .inr (4, [.ref a1, .ref a2])), (a1, .inl (E.2.2.1, 8, .inl st)), (a2, .inl (E.2.2.1, 64, .inl wv)), (c0, .inr (0, [.int (nI bo), .int (nI bh)]))] := hD
      refine zb_eq C (isT x) rfl d_Run_perform_302 rfl (fun hc18 => ?_) (fun hc18 => ?_)
      · refine lv_iconst (v := nI 0) hx hb d_Run_perform_309 (by decide) ?_
        refine cal_I (As := [.int (nI 2), .int (b2 false)]) (rest := []) C lk_Run_111 (c_El_truth l E e0 eb es (S.length + 2) f sz 2 false (by omega) (by omega) (by omega)) (by decide) hP hD hS 1 1 rfl rfl [1, 2, 3] rfl (by decide) hl.1 rfl (Nat.le_of_ble_eq_true rfl) d_Run_perform_310 (fun r19 w1 H locs hp20 hP hD hS => ?_)
        obtain ⟨rfl, rfl⟩ := hp20
        have hP : va_P E.1 clz [(u0, .inr (3, [.ref e0, .ref s0, .ref h0, .ref c0])), (e0, .inr (1, [.ref eb, .ref es, .int (nI ((S.length + 2) - 2 + 1))])), (eb, .inl (E.2.1, 1920, .inl (pn4 f (((S.length + 2) - 2) * 80) (b2 false)))), (es, .inl (E.2.2.1, 24, .inl (upd sz ((S.length + 2) - 2) (pnz (b2 false))))), (s0, .inr (5, [.ref m0, .ref d0, .ref h0, .ref x0])), (m0, .inl (E.2.1, 32, .inl mf)), (d0, .inl (E.2.1, 32, .inl df)), (x0, .inl (E.2.1, 112, .inl xf)), (h0, .inr (4, [.ref a1, .ref a2])), (a1, .inl (E.2.2.1, 8, .inl st)), (a2, .inl (E.2.2.1, 64, .inl wv)), (c0, .inr (0, [.int (nI bo), .int (nI bh)]))] H := hP
        have hD : va_D A [(u0, .inr (3, [.ref e0, .ref s0, .ref h0, .ref c0])), (e0, .inr (1, [.ref eb, .ref es, .int (nI ((S.length + 2) - 2 + 1))])), (eb, .inl (E.2.1, 1920, .inl (pn4 f (((S.length + 2) - 2) * 80) (b2 false)))), (es, .inl (E.2.2.1, 24, .inl (upd sz ((S.length + 2) - 2) (pnz (b2 false))))), (s0, .inr (5, [.ref m0, .ref d0, .ref h0, .ref x0])), (m0, .inl (E.2.1, 32, .inl mf)), (d0, .inl (E.2.1, 32, .inl df)), (x0, .inl (E.2.1, 112, .inl xf)), (h0, .inr (4, [.ref a1, .ref a2])), (a1, .inl (E.2.2.1, 8, .inl st)), (a2, .inl (E.2.2.1, 64, .inl wv)), (c0, .inr (0, [.int (nI bo), .int (nI bh)]))] := hD
        exact kret (b2 true) [(u0, .inr (3, [.ref e0, .ref s0, .ref h0, .ref c0])), (e0, .inr (1, [.ref eb, .ref es, .int (nI ((S.length + 2) - 2 + 1))])), (eb, .inl (E.2.1, 1920, .inl (pn4 f (((S.length + 2) - 2) * 80) (b2 false)))), (es, .inl (E.2.2.1, 24, .inl (upd sz ((S.length + 2) - 2) (pnz (b2 false))))), (s0, .inr (5, [.ref m0, .ref d0, .ref h0, .ref x0])), (m0, .inl (E.2.1, 32, .inl mf)), (d0, .inl (E.2.1, 32, .inl df)), (x0, .inl (E.2.1, 112, .inl xf)), (h0, .inr (4, [.ref a1, .ref a2])), (a1, .inl (E.2.2.1, 8, .inl st)), (a2, .inl (E.2.2.1, 64, .inl wv)), (c0, .inr (0, [.int (nI bo), .int (nI bh)]))] _ _ _ _ d_Run_perform_313 (⟨_, _, _, _, _, _, _, rfl, fB_pn4 hB, Or.inl ⟨(numB (b2 false) :: S), by show some (numB (b2 (isT y && isT x)) :: S) = _; rw [hc13, hc18]; rfl, rfl, by first | rfl | (simp only [List.length_cons]; omega) | (simp only [List.length_cons]), rep_num hr0 (by omega), by first | (simp only [List.length_cons]; omega) | (simp only [List.length_cons]) | omega⟩⟩) rfl hP hS
      · refine lv_iconst (v := nI 1) hx hb d_Run_perform_305 (by decide) ?_
        refine lv_goto hx hb d_Run_perform_306 rfl ?_
        refine cal_I (As := [.int (nI 2), .int (b2 true)]) (rest := []) C lk_Run_111 (c_El_truth l E e0 eb es (S.length + 2) f sz 2 true (by omega) (by omega) (by omega)) (by decide) hP hD hS 1 1 rfl rfl [1, 2, 3] rfl (by decide) hl.1 rfl (Nat.le_of_ble_eq_true rfl) d_Run_perform_310 (fun r21 w1 H locs hp22 hP hD hS => ?_)
        obtain ⟨rfl, rfl⟩ := hp22
        have hP : va_P E.1 clz [(u0, .inr (3, [.ref e0, .ref s0, .ref h0, .ref c0])), (e0, .inr (1, [.ref eb, .ref es, .int (nI ((S.length + 2) - 2 + 1))])), (eb, .inl (E.2.1, 1920, .inl (pn4 f (((S.length + 2) - 2) * 80) (b2 true)))), (es, .inl (E.2.2.1, 24, .inl (upd sz ((S.length + 2) - 2) (pnz (b2 true))))), (s0, .inr (5, [.ref m0, .ref d0, .ref h0, .ref x0])), (m0, .inl (E.2.1, 32, .inl mf)), (d0, .inl (E.2.1, 32, .inl df)), (x0, .inl (E.2.1, 112, .inl xf)), (h0, .inr (4, [.ref a1, .ref a2])), (a1, .inl (E.2.2.1, 8, .inl st)), (a2, .inl (E.2.2.1, 64, .inl wv)), (c0, .inr (0, [.int (nI bo), .int (nI bh)]))] H := hP
        have hD : va_D A [(u0, .inr (3, [.ref e0, .ref s0, .ref h0, .ref c0])), (e0, .inr (1, [.ref eb, .ref es, .int (nI ((S.length + 2) - 2 + 1))])), (eb, .inl (E.2.1, 1920, .inl (pn4 f (((S.length + 2) - 2) * 80) (b2 true)))), (es, .inl (E.2.2.1, 24, .inl (upd sz ((S.length + 2) - 2) (pnz (b2 true))))), (s0, .inr (5, [.ref m0, .ref d0, .ref h0, .ref x0])), (m0, .inl (E.2.1, 32, .inl mf)), (d0, .inl (E.2.1, 32, .inl df)), (x0, .inl (E.2.1, 112, .inl xf)), (h0, .inr (4, [.ref a1, .ref a2])), (a1, .inl (E.2.2.1, 8, .inl st)), (a2, .inl (E.2.2.1, 64, .inl wv)), (c0, .inr (0, [.int (nI bo), .int (nI bh)]))] := hD
        exact kret (b2 true) [(u0, .inr (3, [.ref e0, .ref s0, .ref h0, .ref c0])), (e0, .inr (1, [.ref eb, .ref es, .int (nI ((S.length + 2) - 2 + 1))])), (eb, .inl (E.2.1, 1920, .inl (pn4 f (((S.length + 2) - 2) * 80) (b2 true)))), (es, .inl (E.2.2.1, 24, .inl (upd sz ((S.length + 2) - 2) (pnz (b2 true))))), (s0, .inr (5, [.ref m0, .ref d0, .ref h0, .ref x0])), (m0, .inl (E.2.1, 32, .inl mf)), (d0, .inl (E.2.1, 32, .inl df)), (x0, .inl (E.2.1, 112, .inl xf)), (h0, .inr (4, [.ref a1, .ref a2])), (a1, .inl (E.2.2.1, 8, .inl st)), (a2, .inl (E.2.2.1, 64, .inl wv)), (c0, .inr (0, [.int (nI bo), .int (nI bh)]))] _ _ _ _ d_Run_perform_313 (⟨_, _, _, _, _, _, _, rfl, fB_pn4 hB, Or.inl ⟨(numB (b2 true) :: S), by show some (numB (b2 (isT y && isT x)) :: S) = _; rw [hc13, hc18]; rfl, rfl, by first | rfl | (simp only [List.length_cons]; omega) | (simp only [List.length_cons]), rep_num hr0 (by omega), by first | (simp only [List.length_cons]; omega) | (simp only [List.length_cons]) | omega⟩⟩) rfl hP hS

set_option maxHeartbeats 4000000 in
set_option maxRecDepth 100000 in
theorem c_perf_93 (l : Launch) (E : En) (u0 e0 eb es s0 m0 d0 x0 h0 a1 a2 c0 bo bh : Nat) (mf f sz df xf st wv : Nat → Int32) (S : Stk) (msg : Byl) (hrep : rep f sz S) (hB : fB f) (hBm : fB mf) (hlen : S.length ≤ 24) (hm : lay mf 0 msg) (hm32 : msg.length = 32) (ht : Int32) : CtI l y_Run_perform b_Run_perform 4 .boolean (rmd 5) E [.ref u0, .int (nI 93), .int ht] [(u0, .inr (3, [.ref e0, .ref s0, .ref h0, .ref c0])), (e0, .inr (1, [.ref eb, .ref es, .int (nI S.length)])), (eb, .inl (E.2.1, 1920, .inl f)), (es, .inl (E.2.2.1, 24, .inl sz)), (s0, .inr (5, [.ref m0, .ref d0, .ref h0, .ref x0])), (m0, .inl (E.2.1, 32, .inl mf)), (d0, .inl (E.2.1, 32, .inl df)), (x0, .inl (E.2.1, 112, .inl xf)), (h0, .inr (4, [.ref a1, .ref a2])), (a1, .inl (E.2.2.1, 8, .inl st)), (a2, .inl (E.2.2.1, 64, .inl wv)), (c0, .inr (0, [.int (nI bo), .int (nI bh)]))] (stepP E u0 e0 eb es s0 m0 d0 x0 h0 a1 a2 c0 bo bh mf (actS 93 ht msg S)) := by
  refine CtI.of (by decide) (Nat.le_of_ble_eq_true rfl) (stepP_nar) ?_
  intro p e s m args below meth c A Q H locs ls C hP hD hS hl kret
  have hx := C.1
  have hb := C.2.1
  have hl : lv_has ls 4 [(0, .ref u0), (1, .int (nI 93)), (2, .int ht)] := hl
  refine lv_aload_n hx hb d_Run_perform_0 rfl (lv_at hl 0 rfl) ?_
  refine n_get C fg_Run_12 hP 0 rfl rfl d_Run_perform_1 ?_
  refine n_get C fg_Run_79 hP 1 rfl rfl d_Run_perform_4 ?_
  refine lv_iconst (v := nI 1) hx hb d_Run_perform_7 (by decide) ?_
  refine lv_isub hx hb d_Run_perform_8 ?_
  refine lv_istore_n (lv' := [(3, .int ((nI S.length) - (nI 1))), (0, .ref u0), (1, .int (nI 93)), (2, .int ht)]) hx hb d_Run_perform_9 rfl hl (by decide) rfl (fun ls hl => ?_)
  refine lv_iload_n hx hb d_Run_perform_10 rfl (lv_at hl 2 rfl) ?_
  refine lv_tableIn hx hb d_Run_perform_11 (by decide) (by decide) rfl rfl ?_
  refine lv_aload_n hx hb d_Run_perform_314 rfl (lv_at hl 1 rfl) ?_
  refine lv_iload_n hx hb d_Run_perform_315 rfl (lv_at hl 2 rfl) ?_
  refine lv_bipush (v := nI 94) hx hb d_Run_perform_316 (by decide) ?_
  refine j_ne C 93 94 rfl rfl (by decide) (by decide) d_Run_perform_318 rfl (fun hc1 => ?_) (fun hc1 => absurd hc1 (by decide))
  refine lv_iconst (v := nI 0) hx hb d_Run_perform_325 (by decide) ?_
  refine cal_I (As := [.int (b2 false)]) (rest := []) C lk_Run_121 (c_Run_digest93 l E u0 e0 eb es s0 m0 d0 x0 h0 a1 a2 c0 bo bh mf f sz df xf st wv S msg hrep hB hBm hlen hm hm32 ht) (by decide) hP hD hS 0 3 rfl rfl [0, 1, 2, 3, 4, 5, 6, 7, 8, 9, 10, 11] rfl (by decide) hl.1 rfl (Nat.le_of_ble_eq_true rfl) d_Run_perform_326 (fun r11 w1 H locs hp12 hP hD hS => ?_)
  obtain ⟨n2, f3, z4, d5, x6, s7, v8, rfl, hB10, hO9⟩ := hp12
  have hP : va_P E.1 clz [(u0, .inr (3, [.ref e0, .ref s0, .ref h0, .ref c0])), (e0, .inr (1, [.ref eb, .ref es, .int (nI n2)])), (eb, .inl (E.2.1, 1920, .inl f3)), (es, .inl (E.2.2.1, 24, .inl z4)), (s0, .inr (5, [.ref m0, .ref d0, .ref h0, .ref x0])), (m0, .inl (E.2.1, 32, .inl mf)), (d0, .inl (E.2.1, 32, .inl d5)), (x0, .inl (E.2.1, 112, .inl x6)), (h0, .inr (4, [.ref a1, .ref a2])), (a1, .inl (E.2.2.1, 8, .inl s7)), (a2, .inl (E.2.2.1, 64, .inl v8)), (c0, .inr (0, [.int (nI bo), .int (nI bh)]))] H := hP
  have hD : va_D A [(u0, .inr (3, [.ref e0, .ref s0, .ref h0, .ref c0])), (e0, .inr (1, [.ref eb, .ref es, .int (nI n2)])), (eb, .inl (E.2.1, 1920, .inl f3)), (es, .inl (E.2.2.1, 24, .inl z4)), (s0, .inr (5, [.ref m0, .ref d0, .ref h0, .ref x0])), (m0, .inl (E.2.1, 32, .inl mf)), (d0, .inl (E.2.1, 32, .inl d5)), (x0, .inl (E.2.1, 112, .inl x6)), (h0, .inr (4, [.ref a1, .ref a2])), (a1, .inl (E.2.2.1, 8, .inl s7)), (a2, .inl (E.2.2.1, 64, .inl v8)), (c0, .inr (0, [.int (nI bo), .int (nI bh)]))] := hD
  exact kret r11 [(u0, .inr (3, [.ref e0, .ref s0, .ref h0, .ref c0])), (e0, .inr (1, [.ref eb, .ref es, .int (nI n2)])), (eb, .inl (E.2.1, 1920, .inl f3)), (es, .inl (E.2.2.1, 24, .inl z4)), (s0, .inr (5, [.ref m0, .ref d0, .ref h0, .ref x0])), (m0, .inl (E.2.1, 32, .inl mf)), (d0, .inl (E.2.1, 32, .inl d5)), (x0, .inl (E.2.1, 112, .inl x6)), (h0, .inr (4, [.ref a1, .ref a2])), (a1, .inl (E.2.2.1, 8, .inl s7)), (a2, .inl (E.2.2.1, 64, .inl v8)), (c0, .inr (0, [.int (nI bo), .int (nI bh)]))] _ _ _ _ d_Run_perform_329 (⟨n2, f3, z4, d5, x6, s7, v8, rfl, hB10, hO9⟩) rfl hP hS

set_option maxHeartbeats 4000000 in
set_option maxRecDepth 100000 in
theorem c_perf_94 (l : Launch) (E : En) (u0 e0 eb es s0 m0 d0 x0 h0 a1 a2 c0 bo bh : Nat) (mf f sz df xf st wv : Nat → Int32) (S : Stk) (msg : Byl) (hrep : rep f sz S) (hB : fB f) (hBm : fB mf) (hlen : S.length ≤ 24) (hm : lay mf 0 msg) (hm32 : msg.length = 32) (ht : Int32) : CtI l y_Run_perform b_Run_perform 4 .boolean (rmd 5) E [.ref u0, .int (nI 94), .int ht] [(u0, .inr (3, [.ref e0, .ref s0, .ref h0, .ref c0])), (e0, .inr (1, [.ref eb, .ref es, .int (nI S.length)])), (eb, .inl (E.2.1, 1920, .inl f)), (es, .inl (E.2.2.1, 24, .inl sz)), (s0, .inr (5, [.ref m0, .ref d0, .ref h0, .ref x0])), (m0, .inl (E.2.1, 32, .inl mf)), (d0, .inl (E.2.1, 32, .inl df)), (x0, .inl (E.2.1, 112, .inl xf)), (h0, .inr (4, [.ref a1, .ref a2])), (a1, .inl (E.2.2.1, 8, .inl st)), (a2, .inl (E.2.2.1, 64, .inl wv)), (c0, .inr (0, [.int (nI bo), .int (nI bh)]))] (stepP E u0 e0 eb es s0 m0 d0 x0 h0 a1 a2 c0 bo bh mf (actS 94 ht msg S)) := by
  refine CtI.of (by decide) (Nat.le_of_ble_eq_true rfl) (stepP_nar) ?_
  intro p e s m args below meth c A Q H locs ls C hP hD hS hl kret
  have hx := C.1
  have hb := C.2.1
  have hl : lv_has ls 4 [(0, .ref u0), (1, .int (nI 94)), (2, .int ht)] := hl
  refine lv_aload_n hx hb d_Run_perform_0 rfl (lv_at hl 0 rfl) ?_
  refine n_get C fg_Run_12 hP 0 rfl rfl d_Run_perform_1 ?_
  refine n_get C fg_Run_79 hP 1 rfl rfl d_Run_perform_4 ?_
  refine lv_iconst (v := nI 1) hx hb d_Run_perform_7 (by decide) ?_
  refine lv_isub hx hb d_Run_perform_8 ?_
  refine lv_istore_n (lv' := [(3, .int ((nI S.length) - (nI 1))), (0, .ref u0), (1, .int (nI 94)), (2, .int ht)]) hx hb d_Run_perform_9 rfl hl (by decide) rfl (fun ls hl => ?_)
  refine lv_iload_n hx hb d_Run_perform_10 rfl (lv_at hl 2 rfl) ?_
  refine lv_tableIn hx hb d_Run_perform_11 (by decide) (by decide) rfl rfl ?_
  refine lv_aload_n hx hb d_Run_perform_314 rfl (lv_at hl 1 rfl) ?_
  refine lv_iload_n hx hb d_Run_perform_315 rfl (lv_at hl 2 rfl) ?_
  refine lv_bipush (v := nI 94) hx hb d_Run_perform_316 (by decide) ?_
  refine j_ne C 94 94 rfl rfl (by decide) (by decide) d_Run_perform_318 rfl (fun hc1 => absurd hc1 (by decide)) (fun hc1 => ?_)
  refine lv_iconst (v := nI 1) hx hb d_Run_perform_321 (by decide) ?_
  refine lv_goto hx hb d_Run_perform_322 rfl ?_
  refine cal_I (As := [.int (b2 true)]) (rest := []) C lk_Run_121 (c_Run_digest94 l E u0 e0 eb es s0 m0 d0 x0 h0 a1 a2 c0 bo bh mf f sz df xf st wv S msg hrep hB hBm hlen hm hm32 ht) (by decide) hP hD hS 0 3 rfl rfl [0, 1, 2, 3, 4, 5, 6, 7, 8, 9, 10, 11] rfl (by decide) hl.1 rfl (Nat.le_of_ble_eq_true rfl) d_Run_perform_326 (fun r11 w1 H locs hp12 hP hD hS => ?_)
  obtain ⟨n2, f3, z4, d5, x6, s7, v8, rfl, hB10, hO9⟩ := hp12
  have hP : va_P E.1 clz [(u0, .inr (3, [.ref e0, .ref s0, .ref h0, .ref c0])), (e0, .inr (1, [.ref eb, .ref es, .int (nI n2)])), (eb, .inl (E.2.1, 1920, .inl f3)), (es, .inl (E.2.2.1, 24, .inl z4)), (s0, .inr (5, [.ref m0, .ref d0, .ref h0, .ref x0])), (m0, .inl (E.2.1, 32, .inl mf)), (d0, .inl (E.2.1, 32, .inl d5)), (x0, .inl (E.2.1, 112, .inl x6)), (h0, .inr (4, [.ref a1, .ref a2])), (a1, .inl (E.2.2.1, 8, .inl s7)), (a2, .inl (E.2.2.1, 64, .inl v8)), (c0, .inr (0, [.int (nI bo), .int (nI bh)]))] H := hP
  have hD : va_D A [(u0, .inr (3, [.ref e0, .ref s0, .ref h0, .ref c0])), (e0, .inr (1, [.ref eb, .ref es, .int (nI n2)])), (eb, .inl (E.2.1, 1920, .inl f3)), (es, .inl (E.2.2.1, 24, .inl z4)), (s0, .inr (5, [.ref m0, .ref d0, .ref h0, .ref x0])), (m0, .inl (E.2.1, 32, .inl mf)), (d0, .inl (E.2.1, 32, .inl d5)), (x0, .inl (E.2.1, 112, .inl x6)), (h0, .inr (4, [.ref a1, .ref a2])), (a1, .inl (E.2.2.1, 8, .inl s7)), (a2, .inl (E.2.2.1, 64, .inl v8)), (c0, .inr (0, [.int (nI bo), .int (nI bh)]))] := hD
  exact kret r11 [(u0, .inr (3, [.ref e0, .ref s0, .ref h0, .ref c0])), (e0, .inr (1, [.ref eb, .ref es, .int (nI n2)])), (eb, .inl (E.2.1, 1920, .inl f3)), (es, .inl (E.2.2.1, 24, .inl z4)), (s0, .inr (5, [.ref m0, .ref d0, .ref h0, .ref x0])), (m0, .inl (E.2.1, 32, .inl mf)), (d0, .inl (E.2.1, 32, .inl d5)), (x0, .inl (E.2.1, 112, .inl x6)), (h0, .inr (4, [.ref a1, .ref a2])), (a1, .inl (E.2.2.1, 8, .inl s7)), (a2, .inl (E.2.2.1, 64, .inl v8)), (c0, .inr (0, [.int (nI bo), .int (nI bh)]))] _ _ _ _ d_Run_perform_329 (⟨n2, f3, z4, d5, x6, s7, v8, rfl, hB10, hO9⟩) rfl hP hS

set_option maxHeartbeats 4000000 in
set_option maxRecDepth 100000 in
theorem c_perf_95 (l : Launch) (E : En) (u0 e0 eb es s0 m0 d0 x0 h0 a1 a2 c0 bo bh : Nat) (mf f sz df xf st wv : Nat → Int32) (S : Stk) (msg : Byl) (hrep : rep f sz S) (hB : fB f) (hBm : fB mf) (hlen : S.length ≤ 24) (hm : lay mf 0 msg) (hm32 : msg.length = 32) (ht : Int32) : CtI l y_Run_perform b_Run_perform 4 .boolean (rmd 5) E [.ref u0, .int (nI 95), .int ht] [(u0, .inr (3, [.ref e0, .ref s0, .ref h0, .ref c0])), (e0, .inr (1, [.ref eb, .ref es, .int (nI S.length)])), (eb, .inl (E.2.1, 1920, .inl f)), (es, .inl (E.2.2.1, 24, .inl sz)), (s0, .inr (5, [.ref m0, .ref d0, .ref h0, .ref x0])), (m0, .inl (E.2.1, 32, .inl mf)), (d0, .inl (E.2.1, 32, .inl df)), (x0, .inl (E.2.1, 112, .inl xf)), (h0, .inr (4, [.ref a1, .ref a2])), (a1, .inl (E.2.2.1, 8, .inl st)), (a2, .inl (E.2.2.1, 64, .inl wv)), (c0, .inr (0, [.int (nI bo), .int (nI bh)]))] (stepP E u0 e0 eb es s0 m0 d0 x0 h0 a1 a2 c0 bo bh mf (actS 95 ht msg S)) := by
  refine CtI.of (by decide) (Nat.le_of_ble_eq_true rfl) (stepP_nar) ?_
  intro p e s m args below meth c A Q H locs ls C hP hD hS hl kret
  have hx := C.1
  have hb := C.2.1
  have hl : lv_has ls 4 [(0, .ref u0), (1, .int (nI 95)), (2, .int ht)] := hl
  refine lv_aload_n hx hb d_Run_perform_0 rfl (lv_at hl 0 rfl) ?_
  refine n_get C fg_Run_12 hP 0 rfl rfl d_Run_perform_1 ?_
  refine n_get C fg_Run_79 hP 1 rfl rfl d_Run_perform_4 ?_
  refine lv_iconst (v := nI 1) hx hb d_Run_perform_7 (by decide) ?_
  refine lv_isub hx hb d_Run_perform_8 ?_
  refine lv_istore_n (lv' := [(3, .int ((nI S.length) - (nI 1))), (0, .ref u0), (1, .int (nI 95)), (2, .int ht)]) hx hb d_Run_perform_9 rfl hl (by decide) rfl (fun ls hl => ?_)
  refine lv_iload_n hx hb d_Run_perform_10 rfl (lv_at hl 2 rfl) ?_
  refine lv_tableIn hx hb d_Run_perform_11 (by decide) (by decide) rfl rfl ?_
  refine lv_aload_n hx hb d_Run_perform_330 rfl (lv_at hl 1 rfl) ?_
  refine cal_I (As := []) (rest := []) C lk_Run_125 (c_Run_signed l E u0 e0 eb es s0 m0 d0 x0 h0 a1 a2 c0 bo bh mf f sz df xf st wv S msg hrep hB hBm hlen hm hm32 ht) (by decide) hP hD hS 0 3 rfl rfl [0, 1, 2, 3, 4, 5, 6, 7, 8, 9, 10, 11] rfl (by decide) hl.1 rfl (Nat.le_of_ble_eq_true rfl) d_Run_perform_331 (fun r10 w1 H locs hp11 hP hD hS => ?_)
  obtain ⟨n1, f2, z3, d4, x5, s6, v7, rfl, hB9, hO8⟩ := hp11
  have hP : va_P E.1 clz [(u0, .inr (3, [.ref e0, .ref s0, .ref h0, .ref c0])), (e0, .inr (1, [.ref eb, .ref es, .int (nI n1)])), (eb, .inl (E.2.1, 1920, .inl f2)), (es, .inl (E.2.2.1, 24, .inl z3)), (s0, .inr (5, [.ref m0, .ref d0, .ref h0, .ref x0])), (m0, .inl (E.2.1, 32, .inl mf)), (d0, .inl (E.2.1, 32, .inl d4)), (x0, .inl (E.2.1, 112, .inl x5)), (h0, .inr (4, [.ref a1, .ref a2])), (a1, .inl (E.2.2.1, 8, .inl s6)), (a2, .inl (E.2.2.1, 64, .inl v7)), (c0, .inr (0, [.int (nI bo), .int (nI bh)]))] H := hP
  have hD : va_D A [(u0, .inr (3, [.ref e0, .ref s0, .ref h0, .ref c0])), (e0, .inr (1, [.ref eb, .ref es, .int (nI n1)])), (eb, .inl (E.2.1, 1920, .inl f2)), (es, .inl (E.2.2.1, 24, .inl z3)), (s0, .inr (5, [.ref m0, .ref d0, .ref h0, .ref x0])), (m0, .inl (E.2.1, 32, .inl mf)), (d0, .inl (E.2.1, 32, .inl d4)), (x0, .inl (E.2.1, 112, .inl x5)), (h0, .inr (4, [.ref a1, .ref a2])), (a1, .inl (E.2.2.1, 8, .inl s6)), (a2, .inl (E.2.2.1, 64, .inl v7)), (c0, .inr (0, [.int (nI bo), .int (nI bh)]))] := hD
  exact kret r10 [(u0, .inr (3, [.ref e0, .ref s0, .ref h0, .ref c0])), (e0, .inr (1, [.ref eb, .ref es, .int (nI n1)])), (eb, .inl (E.2.1, 1920, .inl f2)), (es, .inl (E.2.2.1, 24, .inl z3)), (s0, .inr (5, [.ref m0, .ref d0, .ref h0, .ref x0])), (m0, .inl (E.2.1, 32, .inl mf)), (d0, .inl (E.2.1, 32, .inl d4)), (x0, .inl (E.2.1, 112, .inl x5)), (h0, .inr (4, [.ref a1, .ref a2])), (a1, .inl (E.2.2.1, 8, .inl s6)), (a2, .inl (E.2.2.1, 64, .inl v7)), (c0, .inr (0, [.int (nI bo), .int (nI bh)]))] _ _ _ _ d_Run_perform_334 (⟨n1, f2, z3, d4, x5, s6, v7, rfl, hB9, hO8⟩) rfl hP hS

set_option maxHeartbeats 4000000 in
set_option maxRecDepth 100000 in
theorem c_perf_96 (l : Launch) (E : En) (u0 e0 eb es s0 m0 d0 x0 h0 a1 a2 c0 bo bh : Nat) (mf f sz df xf st wv : Nat → Int32) (S : Stk) (msg : Byl) (hrep : rep f sz S) (hB : fB f) (hBm : fB mf) (hlen : S.length ≤ 24) (hm : lay mf 0 msg) (hm32 : msg.length = 32) (ht : Int32) : CtI l y_Run_perform b_Run_perform 4 .boolean (rmd 5) E [.ref u0, .int (nI 96), .int ht] [(u0, .inr (3, [.ref e0, .ref s0, .ref h0, .ref c0])), (e0, .inr (1, [.ref eb, .ref es, .int (nI S.length)])), (eb, .inl (E.2.1, 1920, .inl f)), (es, .inl (E.2.2.1, 24, .inl sz)), (s0, .inr (5, [.ref m0, .ref d0, .ref h0, .ref x0])), (m0, .inl (E.2.1, 32, .inl mf)), (d0, .inl (E.2.1, 32, .inl df)), (x0, .inl (E.2.1, 112, .inl xf)), (h0, .inr (4, [.ref a1, .ref a2])), (a1, .inl (E.2.2.1, 8, .inl st)), (a2, .inl (E.2.2.1, 64, .inl wv)), (c0, .inr (0, [.int (nI bo), .int (nI bh)]))] (stepP E u0 e0 eb es s0 m0 d0 x0 h0 a1 a2 c0 bo bh mf (actS 96 ht msg S)) := by
  refine CtI.of (by decide) (Nat.le_of_ble_eq_true rfl) (stepP_nar) ?_
  intro p e s m args below meth c A Q H locs ls C hP hD hS hl kret
  have hx := C.1
  have hb := C.2.1
  have hl : lv_has ls 4 [(0, .ref u0), (1, .int (nI 96)), (2, .int ht)] := hl
  rcases S with _ | ⟨x, S⟩
  · have hP : va_P E.1 clz [(u0, .inr (3, [.ref e0, .ref s0, .ref h0, .ref c0])), (e0, .inr (1, [.ref eb, .ref es, .int (nI 0)])), (eb, .inl (E.2.1, 1920, .inl f)), (es, .inl (E.2.2.1, 24, .inl sz)), (s0, .inr (5, [.ref m0, .ref d0, .ref h0, .ref x0])), (m0, .inl (E.2.1, 32, .inl mf)), (d0, .inl (E.2.1, 32, .inl df)), (x0, .inl (E.2.1, 112, .inl xf)), (h0, .inr (4, [.ref a1, .ref a2])), (a1, .inl (E.2.2.1, 8, .inl st)), (a2, .inl (E.2.2.1, 64, .inl wv)), (c0, .inr (0, [.int (nI bo), .int (nI bh)]))] H := hP
    have hD : va_D A [(u0, .inr (3, [.ref e0, .ref s0, .ref h0, .ref c0])), (e0, .inr (1, [.ref eb, .ref es, .int (nI 0)])), (eb, .inl (E.2.1, 1920, .inl f)), (es, .inl (E.2.2.1, 24, .inl sz)), (s0, .inr (5, [.ref m0, .ref d0, .ref h0, .ref x0])), (m0, .inl (E.2.1, 32, .inl mf)), (d0, .inl (E.2.1, 32, .inl df)), (x0, .inl (E.2.1, 112, .inl xf)), (h0, .inr (4, [.ref a1, .ref a2])), (a1, .inl (E.2.2.1, 8, .inl st)), (a2, .inl (E.2.2.1, 64, .inl wv)), (c0, .inr (0, [.int (nI bo), .int (nI bh)]))] := hD
    refine lv_aload_n hx hb d_Run_perform_0 rfl (lv_at hl 0 rfl) ?_
    refine n_get C fg_Run_12 hP 0 rfl rfl d_Run_perform_1 ?_
    refine n_get C fg_Run_79 hP 1 rfl rfl d_Run_perform_4 ?_
    refine lv_iconst (v := nI 1) hx hb d_Run_perform_7 (by decide) ?_
    refine lv_isub hx hb d_Run_perform_8 ?_
    refine tope (z := (-1)) (by decide) ?_
    refine lv_istore_n (lv' := [(3, .int (-1)), (0, .ref u0), (1, .int (nI 96)), (2, .int ht)]) hx hb d_Run_perform_9 rfl hl (by decide) rfl (fun ls hl => ?_)
    refine lv_iload_n hx hb d_Run_perform_10 rfl (lv_at hl 2 rfl) ?_
    refine lv_tableIn hx hb d_Run_perform_11 (by decide) (by decide) rfl rfl ?_
    refine lv_aload_n hx hb d_Run_perform_335 rfl (lv_at hl 1 rfl) ?_
    refine n_get C fg_Run_12 hP 0 rfl rfl d_Run_perform_336 ?_
    refine lv_iload_n hx hb d_Run_perform_339 rfl (lv_at hl 0 rfl) ?_
    refine cal_I (As := [.int (-1)]) (rest := []) C lk_Run_104 (c_El_isNumber_no l E e0 eb es 0 f sz (-1) (by first | exact hasB_m1 _ | exact hasB_m2 _)) (by decide) hP hD hS 1 1 rfl rfl [1, 2, 3] rfl (by decide) hl.1 rfl (Nat.le_of_ble_eq_true rfl) d_Run_perform_340 (fun r1 w1 H locs hp2 hP hD hS => ?_)
    obtain ⟨rfl, rfl⟩ := hp2
    have hP : va_P E.1 clz [(u0, .inr (3, [.ref e0, .ref s0, .ref h0, .ref c0])), (e0, .inr (1, [.ref eb, .ref es, .int (nI 0)])), (eb, .inl (E.2.1, 1920, .inl f)), (es, .inl (E.2.2.1, 24, .inl sz)), (s0, .inr (5, [.ref m0, .ref d0, .ref h0, .ref x0])), (m0, .inl (E.2.1, 32, .inl mf)), (d0, .inl (E.2.1, 32, .inl df)), (x0, .inl (E.2.1, 112, .inl xf)), (h0, .inr (4, [.ref a1, .ref a2])), (a1, .inl (E.2.2.1, 8, .inl st)), (a2, .inl (E.2.2.1, 64, .inl wv)), (c0, .inr (0, [.int (nI bo), .int (nI bh)]))] H := hP
    have hD : va_D A [(u0, .inr (3, [.ref e0, .ref s0, .ref h0, .ref c0])), (e0, .inr (1, [.ref eb, .ref es, .int (nI 0)])), (eb, .inl (E.2.1, 1920, .inl f)), (es, .inl (E.2.2.1, 24, .inl sz)), (s0, .inr (5, [.ref m0, .ref d0, .ref h0, .ref x0])), (m0, .inl (E.2.1, 32, .inl mf)), (d0, .inl (E.2.1, 32, .inl df)), (x0, .inl (E.2.1, 112, .inl xf)), (h0, .inr (4, [.ref a1, .ref a2])), (a1, .inl (E.2.2.1, 8, .inl st)), (a2, .inl (E.2.2.1, 64, .inl wv)), (c0, .inr (0, [.int (nI bo), .int (nI bh)]))] := hD
    refine zb_eq C false rfl d_Run_perform_343 rfl (fun hc3 => ?_) (fun hc3 => absurd hc3 (by simp_all))
    refine lv_iconst (v := nI 0) hx hb d_Run_perform_373 (by decide) ?_
    exact kret (nI 0) [(u0, .inr (3, [.ref e0, .ref s0, .ref h0, .ref c0])), (e0, .inr (1, [.ref eb, .ref es, .int (nI 0)])), (eb, .inl (E.2.1, 1920, .inl f)), (es, .inl (E.2.2.1, 24, .inl sz)), (s0, .inr (5, [.ref m0, .ref d0, .ref h0, .ref x0])), (m0, .inl (E.2.1, 32, .inl mf)), (d0, .inl (E.2.1, 32, .inl df)), (x0, .inl (E.2.1, 112, .inl xf)), (h0, .inr (4, [.ref a1, .ref a2])), (a1, .inl (E.2.2.1, 8, .inl st)), (a2, .inl (E.2.2.1, 64, .inl wv)), (c0, .inr (0, [.int (nI bo), .int (nI bh)]))] _ _ _ _ d_Run_perform_374 (⟨_, _, _, _, _, _, _, rfl, hB, Or.inr ⟨rfl, rfl⟩⟩) rfl hP hS
  · have hx1 : sz S.length = nI x.length ∧ x.length ≤ 80 ∧ lay f (S.length * 80) x := rep_top hrep
    have hr0 : rep f sz S := rep_tail hrep
    have hlen : S.length + 1 ≤ 24 := hlen
    have hP : va_P E.1 clz [(u0, .inr (3, [.ref e0, .ref s0, .ref h0, .ref c0])), (e0, .inr (1, [.ref eb, .ref es, .int (nI (S.length + 1))])), (eb, .inl (E.2.1, 1920, .inl f)), (es, .inl (E.2.2.1, 24, .inl sz)), (s0, .inr (5, [.ref m0, .ref d0, .ref h0, .ref x0])), (m0, .inl (E.2.1, 32, .inl mf)), (d0, .inl (E.2.1, 32, .inl df)), (x0, .inl (E.2.1, 112, .inl xf)), (h0, .inr (4, [.ref a1, .ref a2])), (a1, .inl (E.2.2.1, 8, .inl st)), (a2, .inl (E.2.2.1, 64, .inl wv)), (c0, .inr (0, [.int (nI bo), .int (nI bh)]))] H := hP
    have hD : va_D A [(u0, .inr (3, [.ref e0, .ref s0, .ref h0, .ref c0])), (e0, .inr (1, [.ref eb, .ref es, .int (nI (S.length + 1))])), (eb, .inl (E.2.1, 1920, .inl f)), (es, .inl (E.2.2.1, 24, .inl sz)), (s0, .inr (5, [.ref m0, .ref d0, .ref h0, .ref x0])), (m0, .inl (E.2.1, 32, .inl mf)), (d0, .inl (E.2.1, 32, .inl df)), (x0, .inl (E.2.1, 112, .inl xf)), (h0, .inr (4, [.ref a1, .ref a2])), (a1, .inl (E.2.2.1, 8, .inl st)), (a2, .inl (E.2.2.1, 64, .inl wv)), (c0, .inr (0, [.int (nI bo), .int (nI bh)]))] := hD
    refine lv_aload_n hx hb d_Run_perform_0 rfl (lv_at hl 0 rfl) ?_
    refine n_get C fg_Run_12 hP 0 rfl rfl d_Run_perform_1 ?_
    refine n_get C fg_Run_79 hP 1 rfl rfl d_Run_perform_4 ?_
    refine lv_iconst (v := nI 1) hx hb d_Run_perform_7 (by decide) ?_
    refine lv_isub hx hb d_Run_perform_8 ?_
    refine tope (z := nI S.length) ((pk_sub (by omega)).trans (congrArg nI (by omega))) ?_
    refine lv_istore_n (lv' := [(3, .int (nI S.length)), (0, .ref u0), (1, .int (nI 96)), (2, .int ht)]) hx hb d_Run_perform_9 rfl hl (by decide) rfl (fun ls hl => ?_)
    refine lv_iload_n hx hb d_Run_perform_10 rfl (lv_at hl 2 rfl) ?_
    refine lv_tableIn hx hb d_Run_perform_11 (by decide) (by decide) rfl rfl ?_
    refine lv_aload_n hx hb d_Run_perform_335 rfl (lv_at hl 1 rfl) ?_
    refine n_get C fg_Run_12 hP 0 rfl rfl d_Run_perform_336 ?_
    refine lv_iload_n hx hb d_Run_perform_339 rfl (lv_at hl 0 rfl) ?_
    refine cal_I (As := [.int (nI S.length)]) (rest := []) C lk_Run_104 (c_El_isNumber l E e0 eb es (S.length + 1) f sz S.length x.length (by omega) (by omega) hx1.1 hx1.2.1) (by decide) hP hD hS 1 1 rfl rfl [1, 2, 3] rfl (by decide) hl.1 rfl (Nat.le_of_ble_eq_true rfl) d_Run_perform_340 (fun r4 w1 H locs hp5 hP hD hS => ?_)
    obtain ⟨rfl, rfl⟩ := hp5
    have hP : va_P E.1 clz [(u0, .inr (3, [.ref e0, .ref s0, .ref h0, .ref c0])), (e0, .inr (1, [.ref eb, .ref es, .int (nI (S.length + 1))])), (eb, .inl (E.2.1, 1920, .inl f)), (es, .inl (E.2.2.1, 24, .inl sz)), (s0, .inr (5, [.ref m0, .ref d0, .ref h0, .ref x0])), (m0, .inl (E.2.1, 32, .inl mf)), (d0, .inl (E.2.1, 32, .inl df)), (x0, .inl (E.2.1, 112, .inl xf)), (h0, .inr (4, [.ref a1, .ref a2])), (a1, .inl (E.2.2.1, 8, .inl st)), (a2, .inl (E.2.2.1, 64, .inl wv)), (c0, .inr (0, [.int (nI bo), .int (nI bh)]))] H := hP
    have hD : va_D A [(u0, .inr (3, [.ref e0, .ref s0, .ref h0, .ref c0])), (e0, .inr (1, [.ref eb, .ref es, .int (nI (S.length + 1))])), (eb, .inl (E.2.1, 1920, .inl f)), (es, .inl (E.2.2.1, 24, .inl sz)), (s0, .inr (5, [.ref m0, .ref d0, .ref h0, .ref x0])), (m0, .inl (E.2.1, 32, .inl mf)), (d0, .inl (E.2.1, 32, .inl df)), (x0, .inl (E.2.1, 112, .inl xf)), (h0, .inr (4, [.ref a1, .ref a2])), (a1, .inl (E.2.2.1, 8, .inl st)), (a2, .inl (E.2.2.1, 64, .inl wv)), (c0, .inr (0, [.int (nI bo), .int (nI bh)]))] := hD
    refine zb_eq C (decide (x.length ≤ 4)) rfl d_Run_perform_343 rfl (fun hc6 => ?_) (fun hc6 => ?_)
    · refine lv_iconst (v := nI 0) hx hb d_Run_perform_373 (by decide) ?_
      exact kret (nI 0) [(u0, .inr (3, [.ref e0, .ref s0, .ref h0, .ref c0])), (e0, .inr (1, [.ref eb, .ref es, .int (nI (S.length + 1))])), (eb, .inl (E.2.1, 1920, .inl f)), (es, .inl (E.2.2.1, 24, .inl sz)), (s0, .inr (5, [.ref m0, .ref d0, .ref h0, .ref x0])), (m0, .inl (E.2.1, 32, .inl mf)), (d0, .inl (E.2.1, 32, .inl df)), (x0, .inl (E.2.1, 112, .inl xf)), (h0, .inr (4, [.ref a1, .ref a2])), (a1, .inl (E.2.2.1, 8, .inl st)), (a2, .inl (E.2.2.1, 64, .inl wv)), (c0, .inr (0, [.int (nI bo), .int (nI bh)]))] _ _ _ _ d_Run_perform_374 (⟨_, _, _, _, _, _, _, rfl, hB, Or.inr ⟨by show (if x.length ≤ 4 ∧ numL x ≤ ht then some S else none) = _; rw [if_neg (fun q => absurd q.1 (of_decide_eq_false hc6))], rfl⟩⟩) rfl hP hS
    · refine lv_iload_n hx hb d_Run_perform_346 rfl (lv_at hl 3 rfl) ?_
      refine lv_aload_n hx hb d_Run_perform_347 rfl (lv_at hl 1 rfl) ?_
      refine n_get C fg_Run_12 hP 0 rfl rfl d_Run_perform_348 ?_
      refine lv_iload_n hx hb d_Run_perform_351 rfl (lv_at hl 0 rfl) ?_
      refine cal_I (As := [.int (nI S.length)]) (rest := [.int ht]) C lk_Run_107 (c_El_number l E e0 eb es (S.length + 1) f sz S.length x (by omega) (by omega) hx1.1 hx1.2.1 hx1.2.2 (of_decide_eq_true (by assumption))) (by decide) hP hD hS 1 1 rfl rfl [1, 2, 3] rfl (by decide) hl.1 rfl (Nat.le_of_ble_eq_true rfl) d_Run_perform_352 (fun r7 w1 H locs hp8 hP hD hS => ?_)
      obtain ⟨rfl, rfl⟩ := hp8
      have hP : va_P E.1 clz [(u0, .inr (3, [.ref e0, .ref s0, .ref h0, .ref c0])), (e0, .inr (1, [.ref eb, .ref es, .int (nI (S.length + 1))])), (eb, .inl (E.2.1, 1920, .inl f)), (es, .inl (E.2.2.1, 24, .inl sz)), (s0, .inr (5, [.ref m0, .ref d0, .ref h0, .ref x0])), (m0, .inl (E.2.1, 32, .inl mf)), (d0, .inl (E.2.1, 32, .inl df)), (x0, .inl (E.2.1, 112, .inl xf)), (h0, .inr (4, [.ref a1, .ref a2])), (a1, .inl (E.2.2.1, 8, .inl st)), (a2, .inl (E.2.2.1, 64, .inl wv)), (c0, .inr (0, [.int (nI bo), .int (nI bh)]))] H := hP
      have hD : va_D A [(u0, .inr (3, [.ref e0, .ref s0, .ref h0, .ref c0])), (e0, .inr (1, [.ref eb, .ref es, .int (nI (S.length + 1))])), (eb, .inl (E.2.1, 1920, .inl f)), (es, .inl (E.2.2.1, 24, .inl sz)), (s0, .inr (5, [.ref m0, .ref d0, .ref h0, .ref x0])), (m0, .inl (E.2.1, 32, .inl mf)), (d0, .inl (E.2.1, 32, .inl df)), (x0, .inl (E.2.1, 112, .inl xf)), (h0, .inr (4, [.ref a1, .ref a2])), (a1, .inl (E.2.2.1, 8, .inl st)), (a2, .inl (E.2.2.1, 64, .inl wv)), (c0, .inr (0, [.int (nI bo), .int (nI bh)]))] := hD
      refine lv_icmp_lt hx hb d_Run_perform_355 rfl (fun hc9 => ?_) (fun hc9 => ?_)
      · refine lv_iconst (v := nI 0) hx hb d_Run_perform_373 (by decide) ?_
        exact kret (nI 0) [(u0, .inr (3, [.ref e0, .ref s0, .ref h0, .ref c0])), (e0, .inr (1, [.ref eb, .ref es, .int (nI (S.length + 1))])), (eb, .inl (E.2.1, 1920, .inl f)), (es, .inl (E.2.2.1, 24, .inl sz)), (s0, .inr (5, [.ref m0, .ref d0, .ref h0, .ref x0])), (m0, .inl (E.2.1, 32, .inl mf)), (d0, .inl (E.2.1, 32, .inl df)), (x0, .inl (E.2.1, 112, .inl xf)), (h0, .inr (4, [.ref a1, .ref a2])), (a1, .inl (E.2.2.1, 8, .inl st)), (a2, .inl (E.2.2.1, 64, .inl wv)), (c0, .inr (0, [.int (nI bo), .int (nI bh)]))] _ _ _ _ d_Run_perform_374 (⟨_, _, _, _, _, _, _, rfl, hB, Or.inr ⟨by show (if x.length ≤ 4 ∧ numL x ≤ ht then some S else none) = _; rw [if_neg (fun q => absurd q.2 (Int32.not_le.mpr hc9))], rfl⟩⟩) rfl hP hS
      · refine lv_aload_n hx hb d_Run_perform_358 rfl (lv_at hl 1 rfl) ?_
        refine n_get C fg_Run_12 hP 0 rfl rfl d_Run_perform_359 ?_
        refine lv_iconst (v := nI 1) hx hb d_Run_perform_362 (by decide) ?_
        refine cal_I (As := [.int (nI 1)]) (rest := []) C lk_Run_85 (c_El_drop l E e0 eb es (S.length + 1) f sz 1 (by omega) (by omega)) (by decide) hP hD hS 1 1 rfl rfl [1, 2, 3] rfl (by decide) hl.1 rfl (Nat.le_of_ble_eq_true rfl) d_Run_perform_363 (fun r10 w1 H locs hp11 hP hD hS => ?_)
        obtain ⟨rfl, rfl⟩ := hp11
        have hP : va_P E.1 clz [(u0, .inr (3, [.ref e0, .ref s0, .ref h0, .ref c0])), (e0, .inr (1, [.ref eb, .ref es, .int (nI ((S.length + 1) - 1))])), (eb, .inl (E.2.1, 1920, .inl f)), (es, .inl (E.2.2.1, 24, .inl sz)), (s0, .inr (5, [.ref m0, .ref d0, .ref h0, .ref x0])), (m0, .inl (E.2.1, 32, .inl mf)), (d0, .inl (E.2.1, 32, .inl df)), (x0, .inl (E.2.1, 112, .inl xf)), (h0, .inr (4, [.ref a1, .ref a2])), (a1, .inl (E.2.2.1, 8, .inl st)), (a2, .inl (E.2.2.1, 64, .inl wv)), (c0, .inr (0, [.int (nI bo), .int (nI bh)]))] H := hP
        have hD : va_D A [(u0, .inr (3, [.ref e0, .ref s0, .ref h0, .ref c0])), (e0, .inr (1, [.ref eb, .ref es, .int (nI ((S.length + 1) - 1))])), (eb, .inl (E.2.1, 1920, .inl f)), (es, .inl (E.2.2.1, 24, .inl sz)), (s0, .inr (5, [.ref m0, .ref d0, .ref h0, .ref x0])), (m0, .inl (E.2.1, 32, .inl mf)), (d0, .inl (E.2.1, 32, .inl df)), (x0, .inl (E.2.1, 112, .inl xf)), (h0, .inr (4, [.ref a1, .ref a2])), (a1, .inl (E.2.2.1, 8, .inl st)), (a2, .inl (E.2.2.1, 64, .inl wv)), (c0, .inr (0, [.int (nI bo), .int (nI bh)]))] := hD
        refine zb_eq C true rfl d_Run_perform_366 rfl (fun hc12 => absurd hc12 (by simp_all)) (fun hc12 => ?_)
        refine lv_iconst (v := nI 1) hx hb d_Run_perform_369 (by decide) ?_
        refine lv_goto hx hb d_Run_perform_370 rfl ?_
        exact kret (nI 1) [(u0, .inr (3, [.ref e0, .ref s0, .ref h0, .ref c0])), (e0, .inr (1, [.ref eb, .ref es, .int (nI ((S.length + 1) - 1))])), (eb, .inl (E.2.1, 1920, .inl f)), (es, .inl (E.2.2.1, 24, .inl sz)), (s0, .inr (5, [.ref m0, .ref d0, .ref h0, .ref x0])), (m0, .inl (E.2.1, 32, .inl mf)), (d0, .inl (E.2.1, 32, .inl df)), (x0, .inl (E.2.1, 112, .inl xf)), (h0, .inr (4, [.ref a1, .ref a2])), (a1, .inl (E.2.2.1, 8, .inl st)), (a2, .inl (E.2.2.1, 64, .inl wv)), (c0, .inr (0, [.int (nI bo), .int (nI bh)]))] _ _ _ _ d_Run_perform_374 (⟨_, _, _, _, _, _, _, rfl, hB, Or.inl ⟨S, by show (if x.length ≤ 4 ∧ numL x ≤ ht then some S else none) = _; rw [if_pos ⟨of_decide_eq_true hc6, Int32.not_lt.mp hc9⟩], rfl, by first | rfl | (simp only [List.length_cons]; omega) | (simp only [List.length_cons]), hr0, by first | (simp only [List.length_cons]; omega) | (simp only [List.length_cons]) | omega⟩⟩) rfl hP hS

set_option maxHeartbeats 4000000 in
set_option maxRecDepth 100000 in
theorem c_perf_102 (l : Launch) (E : En) (u0 e0 eb es s0 m0 d0 x0 h0 a1 a2 c0 bo bh : Nat) (mf f sz df xf st wv : Nat → Int32) (S : Stk) (msg : Byl) (hrep : rep f sz S) (hB : fB f) (hBm : fB mf) (hlen : S.length ≤ 24) (hm : lay mf 0 msg) (hm32 : msg.length = 32) (ht : Int32) : CtI l y_Run_perform b_Run_perform 4 .boolean (rmd 5) E [.ref u0, .int (nI 102), .int ht] [(u0, .inr (3, [.ref e0, .ref s0, .ref h0, .ref c0])), (e0, .inr (1, [.ref eb, .ref es, .int (nI S.length)])), (eb, .inl (E.2.1, 1920, .inl f)), (es, .inl (E.2.2.1, 24, .inl sz)), (s0, .inr (5, [.ref m0, .ref d0, .ref h0, .ref x0])), (m0, .inl (E.2.1, 32, .inl mf)), (d0, .inl (E.2.1, 32, .inl df)), (x0, .inl (E.2.1, 112, .inl xf)), (h0, .inr (4, [.ref a1, .ref a2])), (a1, .inl (E.2.2.1, 8, .inl st)), (a2, .inl (E.2.2.1, 64, .inl wv)), (c0, .inr (0, [.int (nI bo), .int (nI bh)]))] (stepP E u0 e0 eb es s0 m0 d0 x0 h0 a1 a2 c0 bo bh mf (actS 102 ht msg S)) := by
  refine CtI.of (by decide) (Nat.le_of_ble_eq_true rfl) (stepP_nar) ?_
  intro p e s m args below meth c A Q H locs ls C hP hD hS hl kret
  have hx := C.1
  have hb := C.2.1
  have hl : lv_has ls 4 [(0, .ref u0), (1, .int (nI 102)), (2, .int ht)] := hl
  refine lv_aload_n hx hb d_Run_perform_0 rfl (lv_at hl 0 rfl) ?_
  refine n_get C fg_Run_12 hP 0 rfl rfl d_Run_perform_1 ?_
  refine n_get C fg_Run_79 hP 1 rfl rfl d_Run_perform_4 ?_
  refine lv_iconst (v := nI 1) hx hb d_Run_perform_7 (by decide) ?_
  refine lv_isub hx hb d_Run_perform_8 ?_
  refine lv_istore_n (lv' := [(3, .int ((nI S.length) - (nI 1))), (0, .ref u0), (1, .int (nI 102)), (2, .int ht)]) hx hb d_Run_perform_9 rfl hl (by decide) rfl (fun ls hl => ?_)
  refine lv_iload_n hx hb d_Run_perform_10 rfl (lv_at hl 2 rfl) ?_
  refine lv_tableIn hx hb d_Run_perform_11 (by decide) (by decide) rfl rfl ?_
  rcases Nat.lt_or_ge S.length 24 with h24 | h24
  · refine lv_aload_n hx hb d_Run_perform_375 rfl (lv_at hl 1 rfl) ?_
    refine n_get C fg_Run_12 hP 0 rfl rfl d_Run_perform_376 ?_
    refine lv_iconst (v := nI 1) hx hb d_Run_perform_379 (by decide) ?_
    refine cal_I (As := [.int (nI 1)]) (rest := []) C lk_Run_101 (c_El_pushNumber l E e0 eb es S.length f sz (nI 1) (by omega)) (by decide) hP hD hS 1 1 rfl rfl [1, 2, 3] rfl (by decide) hl.1 rfl (Nat.le_of_ble_eq_true rfl) d_Run_perform_380 (fun r1 w1 H locs hp2 hP hD hS => ?_)
    obtain ⟨rfl, rfl⟩ := hp2
    have hP : va_P E.1 clz [(u0, .inr (3, [.ref e0, .ref s0, .ref h0, .ref c0])), (e0, .inr (1, [.ref eb, .ref es, .int (nI (S.length + 1))])), (eb, .inl (E.2.1, 1920, .inl (pn4 f (S.length * 80) (nI 1)))), (es, .inl (E.2.2.1, 24, .inl (upd sz S.length (pnz (nI 1))))), (s0, .inr (5, [.ref m0, .ref d0, .ref h0, .ref x0])), (m0, .inl (E.2.1, 32, .inl mf)), (d0, .inl (E.2.1, 32, .inl df)), (x0, .inl (E.2.1, 112, .inl xf)), (h0, .inr (4, [.ref a1, .ref a2])), (a1, .inl (E.2.2.1, 8, .inl st)), (a2, .inl (E.2.2.1, 64, .inl wv)), (c0, .inr (0, [.int (nI bo), .int (nI bh)]))] H := hP
    have hD : va_D A [(u0, .inr (3, [.ref e0, .ref s0, .ref h0, .ref c0])), (e0, .inr (1, [.ref eb, .ref es, .int (nI (S.length + 1))])), (eb, .inl (E.2.1, 1920, .inl (pn4 f (S.length * 80) (nI 1)))), (es, .inl (E.2.2.1, 24, .inl (upd sz S.length (pnz (nI 1))))), (s0, .inr (5, [.ref m0, .ref d0, .ref h0, .ref x0])), (m0, .inl (E.2.1, 32, .inl mf)), (d0, .inl (E.2.1, 32, .inl df)), (x0, .inl (E.2.1, 112, .inl xf)), (h0, .inr (4, [.ref a1, .ref a2])), (a1, .inl (E.2.2.1, 8, .inl st)), (a2, .inl (E.2.2.1, 64, .inl wv)), (c0, .inr (0, [.int (nI bo), .int (nI bh)]))] := hD
    exact kret (b2 true) [(u0, .inr (3, [.ref e0, .ref s0, .ref h0, .ref c0])), (e0, .inr (1, [.ref eb, .ref es, .int (nI (S.length + 1))])), (eb, .inl (E.2.1, 1920, .inl (pn4 f (S.length * 80) (nI 1)))), (es, .inl (E.2.2.1, 24, .inl (upd sz S.length (pnz (nI 1))))), (s0, .inr (5, [.ref m0, .ref d0, .ref h0, .ref x0])), (m0, .inl (E.2.1, 32, .inl mf)), (d0, .inl (E.2.1, 32, .inl df)), (x0, .inl (E.2.1, 112, .inl xf)), (h0, .inr (4, [.ref a1, .ref a2])), (a1, .inl (E.2.2.1, 8, .inl st)), (a2, .inl (E.2.2.1, 64, .inl wv)), (c0, .inr (0, [.int (nI bo), .int (nI bh)]))] _ _ _ _ d_Run_perform_383 (⟨_, _, _, _, _, _, _, rfl, fB_pn4 hB, Or.inl ⟨(numB (nI 1) :: S), by show pushE _ _ = _; unfold pushE; rw [if_pos (by first | (simp only [List.length_cons]; omega) | omega)], rfl, by first | rfl | (simp only [List.length_cons]; omega) | (simp only [List.length_cons]), rep_num hrep rfl, by first | (simp only [List.length_cons]; omega) | (simp only [List.length_cons]) | omega⟩⟩) rfl hP hS
  · refine lv_aload_n hx hb d_Run_perform_375 rfl (lv_at hl 1 rfl) ?_
    refine n_get C fg_Run_12 hP 0 rfl rfl d_Run_perform_376 ?_
    refine lv_iconst (v := nI 1) hx hb d_Run_perform_379 (by decide) ?_
    refine cal_I (As := [.int (nI 1)]) (rest := []) C lk_Run_101 (c_El_pushNumber_full l E e0 eb es S.length f sz (nI 1) (by omega) (by omega)) (by decide) hP hD hS 1 1 rfl rfl [1, 2, 3] rfl (by decide) hl.1 rfl (Nat.le_of_ble_eq_true rfl) d_Run_perform_380 (fun r3 w1 H locs hp4 hP hD hS => ?_)
    obtain ⟨rfl, rfl⟩ := hp4
    have hP : va_P E.1 clz [(u0, .inr (3, [.ref e0, .ref s0, .ref h0, .ref c0])), (e0, .inr (1, [.ref eb, .ref es, .int (nI S.length)])), (eb, .inl (E.2.1, 1920, .inl f)), (es, .inl (E.2.2.1, 24, .inl sz)), (s0, .inr (5, [.ref m0, .ref d0, .ref h0, .ref x0])), (m0, .inl (E.2.1, 32, .inl mf)), (d0, .inl (E.2.1, 32, .inl df)), (x0, .inl (E.2.1, 112, .inl xf)), (h0, .inr (4, [.ref a1, .ref a2])), (a1, .inl (E.2.2.1, 8, .inl st)), (a2, .inl (E.2.2.1, 64, .inl wv)), (c0, .inr (0, [.int (nI bo), .int (nI bh)]))] H := hP
    have hD : va_D A [(u0, .inr (3, [.ref e0, .ref s0, .ref h0, .ref c0])), (e0, .inr (1, [.ref eb, .ref es, .int (nI S.length)])), (eb, .inl (E.2.1, 1920, .inl f)), (es, .inl (E.2.2.1, 24, .inl sz)), (s0, .inr (5, [.ref m0, .ref d0, .ref h0, .ref x0])), (m0, .inl (E.2.1, 32, .inl mf)), (d0, .inl (E.2.1, 32, .inl df)), (x0, .inl (E.2.1, 112, .inl xf)), (h0, .inr (4, [.ref a1, .ref a2])), (a1, .inl (E.2.2.1, 8, .inl st)), (a2, .inl (E.2.2.1, 64, .inl wv)), (c0, .inr (0, [.int (nI bo), .int (nI bh)]))] := hD
    exact kret (b2 false) [(u0, .inr (3, [.ref e0, .ref s0, .ref h0, .ref c0])), (e0, .inr (1, [.ref eb, .ref es, .int (nI S.length)])), (eb, .inl (E.2.1, 1920, .inl f)), (es, .inl (E.2.2.1, 24, .inl sz)), (s0, .inr (5, [.ref m0, .ref d0, .ref h0, .ref x0])), (m0, .inl (E.2.1, 32, .inl mf)), (d0, .inl (E.2.1, 32, .inl df)), (x0, .inl (E.2.1, 112, .inl xf)), (h0, .inr (4, [.ref a1, .ref a2])), (a1, .inl (E.2.2.1, 8, .inl st)), (a2, .inl (E.2.2.1, 64, .inl wv)), (c0, .inr (0, [.int (nI bo), .int (nI bh)]))] _ _ _ _ d_Run_perform_383 (⟨_, _, _, _, _, _, _, rfl, hB, Or.inr ⟨by show pushE _ _ = _; unfold pushE; rw [if_neg (by first | (simp only [List.length_cons]; omega) | omega)], rfl⟩⟩) rfl hP hS

set_option maxHeartbeats 4000000 in
set_option maxRecDepth 100000 in
theorem c_perf_84 (l : Launch) (E : En) (u0 e0 eb es s0 m0 d0 x0 h0 a1 a2 c0 bo bh : Nat) (mf f sz df xf st wv : Nat → Int32) (S : Stk) (msg : Byl) (hrep : rep f sz S) (hB : fB f) (hBm : fB mf) (hlen : S.length ≤ 24) (hm : lay mf 0 msg) (hm32 : msg.length = 32) (ht : Int32) : CtI l y_Run_perform b_Run_perform 4 .boolean (rmd 5) E [.ref u0, .int (nI 84), .int ht] [(u0, .inr (3, [.ref e0, .ref s0, .ref h0, .ref c0])), (e0, .inr (1, [.ref eb, .ref es, .int (nI S.length)])), (eb, .inl (E.2.1, 1920, .inl f)), (es, .inl (E.2.2.1, 24, .inl sz)), (s0, .inr (5, [.ref m0, .ref d0, .ref h0, .ref x0])), (m0, .inl (E.2.1, 32, .inl mf)), (d0, .inl (E.2.1, 32, .inl df)), (x0, .inl (E.2.1, 112, .inl xf)), (h0, .inr (4, [.ref a1, .ref a2])), (a1, .inl (E.2.2.1, 8, .inl st)), (a2, .inl (E.2.2.1, 64, .inl wv)), (c0, .inr (0, [.int (nI bo), .int (nI bh)]))] (stepP E u0 e0 eb es s0 m0 d0 x0 h0 a1 a2 c0 bo bh mf (actS 84 ht msg S)) := by
  refine CtI.of (by decide) (Nat.le_of_ble_eq_true rfl) (stepP_nar) ?_
  intro p e s m args below meth c A Q H locs ls C hP hD hS hl kret
  have hx := C.1
  have hb := C.2.1
  have hl : lv_has ls 4 [(0, .ref u0), (1, .int (nI 84)), (2, .int ht)] := hl
  refine lv_aload_n hx hb d_Run_perform_0 rfl (lv_at hl 0 rfl) ?_
  refine n_get C fg_Run_12 hP 0 rfl rfl d_Run_perform_1 ?_
  refine n_get C fg_Run_79 hP 1 rfl rfl d_Run_perform_4 ?_
  refine lv_iconst (v := nI 1) hx hb d_Run_perform_7 (by decide) ?_
  refine lv_isub hx hb d_Run_perform_8 ?_
  refine lv_istore_n (lv' := [(3, .int ((nI S.length) - (nI 1))), (0, .ref u0), (1, .int (nI 84)), (2, .int ht)]) hx hb d_Run_perform_9 rfl hl (by decide) rfl (fun ls hl => ?_)
  refine lv_iload_n hx hb d_Run_perform_10 rfl (lv_at hl 2 rfl) ?_
  refine lv_tableIn hx hb d_Run_perform_11 (by decide) (by decide) rfl rfl ?_
  refine lv_iconst (v := nI 0) hx hb d_Run_perform_389 (by decide) ?_
  exact kret (nI 0) [(u0, .inr (3, [.ref e0, .ref s0, .ref h0, .ref c0])), (e0, .inr (1, [.ref eb, .ref es, .int (nI S.length)])), (eb, .inl (E.2.1, 1920, .inl f)), (es, .inl (E.2.2.1, 24, .inl sz)), (s0, .inr (5, [.ref m0, .ref d0, .ref h0, .ref x0])), (m0, .inl (E.2.1, 32, .inl mf)), (d0, .inl (E.2.1, 32, .inl df)), (x0, .inl (E.2.1, 112, .inl xf)), (h0, .inr (4, [.ref a1, .ref a2])), (a1, .inl (E.2.2.1, 8, .inl st)), (a2, .inl (E.2.2.1, 64, .inl wv)), (c0, .inr (0, [.int (nI bo), .int (nI bh)]))] _ _ _ _ d_Run_perform_390 (⟨_, _, _, _, _, _, _, rfl, hB, Or.inr ⟨rfl, rfl⟩⟩) rfl hP hS

set_option maxHeartbeats 4000000 in
set_option maxRecDepth 100000 in
theorem c_perf_97 (l : Launch) (E : En) (u0 e0 eb es s0 m0 d0 x0 h0 a1 a2 c0 bo bh : Nat) (mf f sz df xf st wv : Nat → Int32) (S : Stk) (msg : Byl) (hrep : rep f sz S) (hB : fB f) (hBm : fB mf) (hlen : S.length ≤ 24) (hm : lay mf 0 msg) (hm32 : msg.length = 32) (ht : Int32) : CtI l y_Run_perform b_Run_perform 4 .boolean (rmd 5) E [.ref u0, .int (nI 97), .int ht] [(u0, .inr (3, [.ref e0, .ref s0, .ref h0, .ref c0])), (e0, .inr (1, [.ref eb, .ref es, .int (nI S.length)])), (eb, .inl (E.2.1, 1920, .inl f)), (es, .inl (E.2.2.1, 24, .inl sz)), (s0, .inr (5, [.ref m0, .ref d0, .ref h0, .ref x0])), (m0, .inl (E.2.1, 32, .inl mf)), (d0, .inl (E.2.1, 32, .inl df)), (x0, .inl (E.2.1, 112, .inl xf)), (h0, .inr (4, [.ref a1, .ref a2])), (a1, .inl (E.2.2.1, 8, .inl st)), (a2, .inl (E.2.2.1, 64, .inl wv)), (c0, .inr (0, [.int (nI bo), .int (nI bh)]))] (stepP E u0 e0 eb es s0 m0 d0 x0 h0 a1 a2 c0 bo bh mf (actS 97 ht msg S)) := by
  refine CtI.of (by decide) (Nat.le_of_ble_eq_true rfl) (stepP_nar) ?_
  intro p e s m args below meth c A Q H locs ls C hP hD hS hl kret
  have hx := C.1
  have hb := C.2.1
  have hl : lv_has ls 4 [(0, .ref u0), (1, .int (nI 97)), (2, .int ht)] := hl
  refine lv_aload_n hx hb d_Run_perform_0 rfl (lv_at hl 0 rfl) ?_
  refine n_get C fg_Run_12 hP 0 rfl rfl d_Run_perform_1 ?_
  refine n_get C fg_Run_79 hP 1 rfl rfl d_Run_perform_4 ?_
  refine lv_iconst (v := nI 1) hx hb d_Run_perform_7 (by decide) ?_
  refine lv_isub hx hb d_Run_perform_8 ?_
  refine lv_istore_n (lv' := [(3, .int ((nI S.length) - (nI 1))), (0, .ref u0), (1, .int (nI 97)), (2, .int ht)]) hx hb d_Run_perform_9 rfl hl (by decide) rfl (fun ls hl => ?_)
  refine lv_iload_n hx hb d_Run_perform_10 rfl (lv_at hl 2 rfl) ?_
  refine lv_tableIn hx hb d_Run_perform_11 (by decide) (by decide) rfl rfl ?_
  refine lv_iconst (v := nI 0) hx hb d_Run_perform_389 (by decide) ?_
  exact kret (nI 0) [(u0, .inr (3, [.ref e0, .ref s0, .ref h0, .ref c0])), (e0, .inr (1, [.ref eb, .ref es, .int (nI S.length)])), (eb, .inl (E.2.1, 1920, .inl f)), (es, .inl (E.2.2.1, 24, .inl sz)), (s0, .inr (5, [.ref m0, .ref d0, .ref h0, .ref x0])), (m0, .inl (E.2.1, 32, .inl mf)), (d0, .inl (E.2.1, 32, .inl df)), (x0, .inl (E.2.1, 112, .inl xf)), (h0, .inr (4, [.ref a1, .ref a2])), (a1, .inl (E.2.2.1, 8, .inl st)), (a2, .inl (E.2.2.1, 64, .inl wv)), (c0, .inr (0, [.int (nI bo), .int (nI bh)]))] _ _ _ _ d_Run_perform_390 (⟨_, _, _, _, _, _, _, rfl, hB, Or.inr ⟨rfl, rfl⟩⟩) rfl hP hS

set_option maxHeartbeats 4000000 in
set_option maxRecDepth 100000 in
theorem c_perf_98 (l : Launch) (E : En) (u0 e0 eb es s0 m0 d0 x0 h0 a1 a2 c0 bo bh : Nat) (mf f sz df xf st wv : Nat → Int32) (S : Stk) (msg : Byl) (hrep : rep f sz S) (hB : fB f) (hBm : fB mf) (hlen : S.length ≤ 24) (hm : lay mf 0 msg) (hm32 : msg.length = 32) (ht : Int32) : CtI l y_Run_perform b_Run_perform 4 .boolean (rmd 5) E [.ref u0, .int (nI 98), .int ht] [(u0, .inr (3, [.ref e0, .ref s0, .ref h0, .ref c0])), (e0, .inr (1, [.ref eb, .ref es, .int (nI S.length)])), (eb, .inl (E.2.1, 1920, .inl f)), (es, .inl (E.2.2.1, 24, .inl sz)), (s0, .inr (5, [.ref m0, .ref d0, .ref h0, .ref x0])), (m0, .inl (E.2.1, 32, .inl mf)), (d0, .inl (E.2.1, 32, .inl df)), (x0, .inl (E.2.1, 112, .inl xf)), (h0, .inr (4, [.ref a1, .ref a2])), (a1, .inl (E.2.2.1, 8, .inl st)), (a2, .inl (E.2.2.1, 64, .inl wv)), (c0, .inr (0, [.int (nI bo), .int (nI bh)]))] (stepP E u0 e0 eb es s0 m0 d0 x0 h0 a1 a2 c0 bo bh mf (actS 98 ht msg S)) := by
  refine CtI.of (by decide) (Nat.le_of_ble_eq_true rfl) (stepP_nar) ?_
  intro p e s m args below meth c A Q H locs ls C hP hD hS hl kret
  have hx := C.1
  have hb := C.2.1
  have hl : lv_has ls 4 [(0, .ref u0), (1, .int (nI 98)), (2, .int ht)] := hl
  refine lv_aload_n hx hb d_Run_perform_0 rfl (lv_at hl 0 rfl) ?_
  refine n_get C fg_Run_12 hP 0 rfl rfl d_Run_perform_1 ?_
  refine n_get C fg_Run_79 hP 1 rfl rfl d_Run_perform_4 ?_
  refine lv_iconst (v := nI 1) hx hb d_Run_perform_7 (by decide) ?_
  refine lv_isub hx hb d_Run_perform_8 ?_
  refine lv_istore_n (lv' := [(3, .int ((nI S.length) - (nI 1))), (0, .ref u0), (1, .int (nI 98)), (2, .int ht)]) hx hb d_Run_perform_9 rfl hl (by decide) rfl (fun ls hl => ?_)
  refine lv_iload_n hx hb d_Run_perform_10 rfl (lv_at hl 2 rfl) ?_
  refine lv_tableIn hx hb d_Run_perform_11 (by decide) (by decide) rfl rfl ?_
  refine lv_iconst (v := nI 0) hx hb d_Run_perform_389 (by decide) ?_
  exact kret (nI 0) [(u0, .inr (3, [.ref e0, .ref s0, .ref h0, .ref c0])), (e0, .inr (1, [.ref eb, .ref es, .int (nI S.length)])), (eb, .inl (E.2.1, 1920, .inl f)), (es, .inl (E.2.2.1, 24, .inl sz)), (s0, .inr (5, [.ref m0, .ref d0, .ref h0, .ref x0])), (m0, .inl (E.2.1, 32, .inl mf)), (d0, .inl (E.2.1, 32, .inl df)), (x0, .inl (E.2.1, 112, .inl xf)), (h0, .inr (4, [.ref a1, .ref a2])), (a1, .inl (E.2.2.1, 8, .inl st)), (a2, .inl (E.2.2.1, 64, .inl wv)), (c0, .inr (0, [.int (nI bo), .int (nI bh)]))] _ _ _ _ d_Run_perform_390 (⟨_, _, _, _, _, _, _, rfl, hB, Or.inr ⟨rfl, rfl⟩⟩) rfl hP hS

set_option maxHeartbeats 4000000 in
set_option maxRecDepth 100000 in
theorem c_perf_99 (l : Launch) (E : En) (u0 e0 eb es s0 m0 d0 x0 h0 a1 a2 c0 bo bh : Nat) (mf f sz df xf st wv : Nat → Int32) (S : Stk) (msg : Byl) (hrep : rep f sz S) (hB : fB f) (hBm : fB mf) (hlen : S.length ≤ 24) (hm : lay mf 0 msg) (hm32 : msg.length = 32) (ht : Int32) : CtI l y_Run_perform b_Run_perform 4 .boolean (rmd 5) E [.ref u0, .int (nI 99), .int ht] [(u0, .inr (3, [.ref e0, .ref s0, .ref h0, .ref c0])), (e0, .inr (1, [.ref eb, .ref es, .int (nI S.length)])), (eb, .inl (E.2.1, 1920, .inl f)), (es, .inl (E.2.2.1, 24, .inl sz)), (s0, .inr (5, [.ref m0, .ref d0, .ref h0, .ref x0])), (m0, .inl (E.2.1, 32, .inl mf)), (d0, .inl (E.2.1, 32, .inl df)), (x0, .inl (E.2.1, 112, .inl xf)), (h0, .inr (4, [.ref a1, .ref a2])), (a1, .inl (E.2.2.1, 8, .inl st)), (a2, .inl (E.2.2.1, 64, .inl wv)), (c0, .inr (0, [.int (nI bo), .int (nI bh)]))] (stepP E u0 e0 eb es s0 m0 d0 x0 h0 a1 a2 c0 bo bh mf (actS 99 ht msg S)) := by
  refine CtI.of (by decide) (Nat.le_of_ble_eq_true rfl) (stepP_nar) ?_
  intro p e s m args below meth c A Q H locs ls C hP hD hS hl kret
  have hx := C.1
  have hb := C.2.1
  have hl : lv_has ls 4 [(0, .ref u0), (1, .int (nI 99)), (2, .int ht)] := hl
  refine lv_aload_n hx hb d_Run_perform_0 rfl (lv_at hl 0 rfl) ?_
  refine n_get C fg_Run_12 hP 0 rfl rfl d_Run_perform_1 ?_
  refine n_get C fg_Run_79 hP 1 rfl rfl d_Run_perform_4 ?_
  refine lv_iconst (v := nI 1) hx hb d_Run_perform_7 (by decide) ?_
  refine lv_isub hx hb d_Run_perform_8 ?_
  refine lv_istore_n (lv' := [(3, .int ((nI S.length) - (nI 1))), (0, .ref u0), (1, .int (nI 99)), (2, .int ht)]) hx hb d_Run_perform_9 rfl hl (by decide) rfl (fun ls hl => ?_)
  refine lv_iload_n hx hb d_Run_perform_10 rfl (lv_at hl 2 rfl) ?_
  refine lv_tableIn hx hb d_Run_perform_11 (by decide) (by decide) rfl rfl ?_
  refine lv_iconst (v := nI 0) hx hb d_Run_perform_389 (by decide) ?_
  exact kret (nI 0) [(u0, .inr (3, [.ref e0, .ref s0, .ref h0, .ref c0])), (e0, .inr (1, [.ref eb, .ref es, .int (nI S.length)])), (eb, .inl (E.2.1, 1920, .inl f)), (es, .inl (E.2.2.1, 24, .inl sz)), (s0, .inr (5, [.ref m0, .ref d0, .ref h0, .ref x0])), (m0, .inl (E.2.1, 32, .inl mf)), (d0, .inl (E.2.1, 32, .inl df)), (x0, .inl (E.2.1, 112, .inl xf)), (h0, .inr (4, [.ref a1, .ref a2])), (a1, .inl (E.2.2.1, 8, .inl st)), (a2, .inl (E.2.2.1, 64, .inl wv)), (c0, .inr (0, [.int (nI bo), .int (nI bh)]))] _ _ _ _ d_Run_perform_390 (⟨_, _, _, _, _, _, _, rfl, hB, Or.inr ⟨rfl, rfl⟩⟩) rfl hP hS

set_option maxHeartbeats 4000000 in
set_option maxRecDepth 100000 in
theorem c_perf_100 (l : Launch) (E : En) (u0 e0 eb es s0 m0 d0 x0 h0 a1 a2 c0 bo bh : Nat) (mf f sz df xf st wv : Nat → Int32) (S : Stk) (msg : Byl) (hrep : rep f sz S) (hB : fB f) (hBm : fB mf) (hlen : S.length ≤ 24) (hm : lay mf 0 msg) (hm32 : msg.length = 32) (ht : Int32) : CtI l y_Run_perform b_Run_perform 4 .boolean (rmd 5) E [.ref u0, .int (nI 100), .int ht] [(u0, .inr (3, [.ref e0, .ref s0, .ref h0, .ref c0])), (e0, .inr (1, [.ref eb, .ref es, .int (nI S.length)])), (eb, .inl (E.2.1, 1920, .inl f)), (es, .inl (E.2.2.1, 24, .inl sz)), (s0, .inr (5, [.ref m0, .ref d0, .ref h0, .ref x0])), (m0, .inl (E.2.1, 32, .inl mf)), (d0, .inl (E.2.1, 32, .inl df)), (x0, .inl (E.2.1, 112, .inl xf)), (h0, .inr (4, [.ref a1, .ref a2])), (a1, .inl (E.2.2.1, 8, .inl st)), (a2, .inl (E.2.2.1, 64, .inl wv)), (c0, .inr (0, [.int (nI bo), .int (nI bh)]))] (stepP E u0 e0 eb es s0 m0 d0 x0 h0 a1 a2 c0 bo bh mf (actS 100 ht msg S)) := by
  refine CtI.of (by decide) (Nat.le_of_ble_eq_true rfl) (stepP_nar) ?_
  intro p e s m args below meth c A Q H locs ls C hP hD hS hl kret
  have hx := C.1
  have hb := C.2.1
  have hl : lv_has ls 4 [(0, .ref u0), (1, .int (nI 100)), (2, .int ht)] := hl
  refine lv_aload_n hx hb d_Run_perform_0 rfl (lv_at hl 0 rfl) ?_
  refine n_get C fg_Run_12 hP 0 rfl rfl d_Run_perform_1 ?_
  refine n_get C fg_Run_79 hP 1 rfl rfl d_Run_perform_4 ?_
  refine lv_iconst (v := nI 1) hx hb d_Run_perform_7 (by decide) ?_
  refine lv_isub hx hb d_Run_perform_8 ?_
  refine lv_istore_n (lv' := [(3, .int ((nI S.length) - (nI 1))), (0, .ref u0), (1, .int (nI 100)), (2, .int ht)]) hx hb d_Run_perform_9 rfl hl (by decide) rfl (fun ls hl => ?_)
  refine lv_iload_n hx hb d_Run_perform_10 rfl (lv_at hl 2 rfl) ?_
  refine lv_tableIn hx hb d_Run_perform_11 (by decide) (by decide) rfl rfl ?_
  refine lv_iconst (v := nI 0) hx hb d_Run_perform_389 (by decide) ?_
  exact kret (nI 0) [(u0, .inr (3, [.ref e0, .ref s0, .ref h0, .ref c0])), (e0, .inr (1, [.ref eb, .ref es, .int (nI S.length)])), (eb, .inl (E.2.1, 1920, .inl f)), (es, .inl (E.2.2.1, 24, .inl sz)), (s0, .inr (5, [.ref m0, .ref d0, .ref h0, .ref x0])), (m0, .inl (E.2.1, 32, .inl mf)), (d0, .inl (E.2.1, 32, .inl df)), (x0, .inl (E.2.1, 112, .inl xf)), (h0, .inr (4, [.ref a1, .ref a2])), (a1, .inl (E.2.2.1, 8, .inl st)), (a2, .inl (E.2.2.1, 64, .inl wv)), (c0, .inr (0, [.int (nI bo), .int (nI bh)]))] _ _ _ _ d_Run_perform_390 (⟨_, _, _, _, _, _, _, rfl, hB, Or.inr ⟨rfl, rfl⟩⟩) rfl hP hS

set_option maxHeartbeats 4000000 in
set_option maxRecDepth 100000 in
theorem c_perf_101 (l : Launch) (E : En) (u0 e0 eb es s0 m0 d0 x0 h0 a1 a2 c0 bo bh : Nat) (mf f sz df xf st wv : Nat → Int32) (S : Stk) (msg : Byl) (hrep : rep f sz S) (hB : fB f) (hBm : fB mf) (hlen : S.length ≤ 24) (hm : lay mf 0 msg) (hm32 : msg.length = 32) (ht : Int32) : CtI l y_Run_perform b_Run_perform 4 .boolean (rmd 5) E [.ref u0, .int (nI 101), .int ht] [(u0, .inr (3, [.ref e0, .ref s0, .ref h0, .ref c0])), (e0, .inr (1, [.ref eb, .ref es, .int (nI S.length)])), (eb, .inl (E.2.1, 1920, .inl f)), (es, .inl (E.2.2.1, 24, .inl sz)), (s0, .inr (5, [.ref m0, .ref d0, .ref h0, .ref x0])), (m0, .inl (E.2.1, 32, .inl mf)), (d0, .inl (E.2.1, 32, .inl df)), (x0, .inl (E.2.1, 112, .inl xf)), (h0, .inr (4, [.ref a1, .ref a2])), (a1, .inl (E.2.2.1, 8, .inl st)), (a2, .inl (E.2.2.1, 64, .inl wv)), (c0, .inr (0, [.int (nI bo), .int (nI bh)]))] (stepP E u0 e0 eb es s0 m0 d0 x0 h0 a1 a2 c0 bo bh mf (actS 101 ht msg S)) := by
  refine CtI.of (by decide) (Nat.le_of_ble_eq_true rfl) (stepP_nar) ?_
  intro p e s m args below meth c A Q H locs ls C hP hD hS hl kret
  have hx := C.1
  have hb := C.2.1
  have hl : lv_has ls 4 [(0, .ref u0), (1, .int (nI 101)), (2, .int ht)] := hl
  refine lv_aload_n hx hb d_Run_perform_0 rfl (lv_at hl 0 rfl) ?_
  refine n_get C fg_Run_12 hP 0 rfl rfl d_Run_perform_1 ?_
  refine n_get C fg_Run_79 hP 1 rfl rfl d_Run_perform_4 ?_
  refine lv_iconst (v := nI 1) hx hb d_Run_perform_7 (by decide) ?_
  refine lv_isub hx hb d_Run_perform_8 ?_
  refine lv_istore_n (lv' := [(3, .int ((nI S.length) - (nI 1))), (0, .ref u0), (1, .int (nI 101)), (2, .int ht)]) hx hb d_Run_perform_9 rfl hl (by decide) rfl (fun ls hl => ?_)
  refine lv_iload_n hx hb d_Run_perform_10 rfl (lv_at hl 2 rfl) ?_
  refine lv_tableIn hx hb d_Run_perform_11 (by decide) (by decide) rfl rfl ?_
  refine lv_iconst (v := nI 0) hx hb d_Run_perform_389 (by decide) ?_
  exact kret (nI 0) [(u0, .inr (3, [.ref e0, .ref s0, .ref h0, .ref c0])), (e0, .inr (1, [.ref eb, .ref es, .int (nI S.length)])), (eb, .inl (E.2.1, 1920, .inl f)), (es, .inl (E.2.2.1, 24, .inl sz)), (s0, .inr (5, [.ref m0, .ref d0, .ref h0, .ref x0])), (m0, .inl (E.2.1, 32, .inl mf)), (d0, .inl (E.2.1, 32, .inl df)), (x0, .inl (E.2.1, 112, .inl xf)), (h0, .inr (4, [.ref a1, .ref a2])), (a1, .inl (E.2.2.1, 8, .inl st)), (a2, .inl (E.2.2.1, 64, .inl wv)), (c0, .inr (0, [.int (nI bo), .int (nI bh)]))] _ _ _ _ d_Run_perform_390 (⟨_, _, _, _, _, _, _, rfl, hB, Or.inr ⟨rfl, rfl⟩⟩) rfl hP hS

set_option maxHeartbeats 4000000 in
set_option maxRecDepth 100000 in
theorem c_perf_out (l : Launch) (E : En) (u0 e0 eb es s0 m0 d0 x0 h0 a1 a2 c0 bo bh : Nat) (mf f sz df xf st wv : Nat → Int32) (S : Stk) (msg : Byl) (hrep : rep f sz S) (hB : fB f) (hBm : fB mf) (hlen : S.length ≤ 24) (hm : lay mf 0 msg) (hm32 : msg.length = 32) (ht : Int32) (op : Nat) (ho : op < 80 ∨ 103 < op) (ho2 : op < 256) : CtI l y_Run_perform b_Run_perform 4 .boolean (rmd 5) E [.ref u0, .int (nI op), .int ht] [(u0, .inr (3, [.ref e0, .ref s0, .ref h0, .ref c0])), (e0, .inr (1, [.ref eb, .ref es, .int (nI S.length)])), (eb, .inl (E.2.1, 1920, .inl f)), (es, .inl (E.2.2.1, 24, .inl sz)), (s0, .inr (5, [.ref m0, .ref d0, .ref h0, .ref x0])), (m0, .inl (E.2.1, 32, .inl mf)), (d0, .inl (E.2.1, 32, .inl df)), (x0, .inl (E.2.1, 112, .inl xf)), (h0, .inr (4, [.ref a1, .ref a2])), (a1, .inl (E.2.2.1, 8, .inl st)), (a2, .inl (E.2.2.1, 64, .inl wv)), (c0, .inr (0, [.int (nI bo), .int (nI bh)]))] (stepP E u0 e0 eb es s0 m0 d0 x0 h0 a1 a2 c0 bo bh mf (actS op ht msg S)) := by
  refine CtI.of (by decide) (Nat.le_of_ble_eq_true rfl) (stepP_nar) ?_
  intro p e s m args below meth c A Q H locs ls C hP hD hS hl kret
  have hx := C.1
  have hb := C.2.1
  have hl : lv_has ls 4 [(0, .ref u0), (1, .int (nI op)), (2, .int ht)] := hl
  refine lv_aload_n hx hb d_Run_perform_0 rfl (lv_at hl 0 rfl) ?_
  refine n_get C fg_Run_12 hP 0 rfl rfl d_Run_perform_1 ?_
  refine n_get C fg_Run_79 hP 1 rfl rfl d_Run_perform_4 ?_
  refine lv_iconst (v := nI 1) hx hb d_Run_perform_7 (by decide) ?_
  refine lv_isub hx hb d_Run_perform_8 ?_
  refine lv_istore_n (lv' := [(3, .int ((nI S.length) - (nI 1))), (0, .ref u0), (1, .int (nI op)), (2, .int ht)]) hx hb d_Run_perform_9 rfl hl (by decide) rfl (fun ls hl => ?_)
  refine lv_iload_n hx hb d_Run_perform_10 rfl (lv_at hl 2 rfl) ?_
  refine lv_tableOut hx hb d_Run_perform_11 (by rw [nI_toInt (by omega)]; omega) rfl ?_
  refine lv_iconst (v := nI 0) hx hb d_Run_perform_389 (by decide) ?_
  exact kret (nI 0) [(u0, .inr (3, [.ref e0, .ref s0, .ref h0, .ref c0])), (e0, .inr (1, [.ref eb, .ref es, .int (nI S.length)])), (eb, .inl (E.2.1, 1920, .inl f)), (es, .inl (E.2.2.1, 24, .inl sz)), (s0, .inr (5, [.ref m0, .ref d0, .ref h0, .ref x0])), (m0, .inl (E.2.1, 32, .inl mf)), (d0, .inl (E.2.1, 32, .inl df)), (x0, .inl (E.2.1, 112, .inl xf)), (h0, .inr (4, [.ref a1, .ref a2])), (a1, .inl (E.2.2.1, 8, .inl st)), (a2, .inl (E.2.2.1, 64, .inl wv)), (c0, .inr (0, [.int (nI bo), .int (nI bh)]))] _ _ _ _ d_Run_perform_390 (⟨_, _, _, _, _, _, _, rfl, hB, Or.inr ⟨by unfold actS; rw [if_neg (by omega), if_neg (by omega), if_neg (by omega), if_neg (by omega), if_neg (by omega), if_neg (by omega), if_neg (by omega), if_neg (by omega), if_neg (by omega), if_neg (by omega), if_neg (by omega), if_neg (by omega), if_neg (by omega), if_neg (by omega), if_neg (by omega), if_neg (by omega), if_neg (by omega), if_neg (by omega)], rfl⟩⟩) rfl hP hS
