set_option maxHeartbeats 4000000 in
set_option maxRecDepth 100000 in
theorem c_perf_103 (l : Launch) (E : En) (u0 e0 eb es s0 m0 d0 x0 h0 a1 a2 c0 bo bh : Nat) (mf f sz df xf st wv : Nat → Int32) (S : Stk) (msg : Byl) (hrep : rep f sz S) (hB : fB f) (hBm : fB mf) (hlen : S.length ≤ 24) (hm : lay mf 0 msg) (hm32 : msg.length = 32) (ht : Int32) : CtI l y_Run_perform b_Run_perform 4 .boolean (rmd 5) E [.ref u0, .int (nI 103), .int ht] [(u0, .inr (3, [.ref e0, .ref s0, .ref h0, .ref c0])), (e0, .inr (1, [.ref eb, .ref es, .int (nI S.length)])), (eb, .inl (E.2.1, 1920, .inl f)), (es, .inl (E.2.2.1, 24, .inl sz)), (s0, .inr (5, [.ref m0, .ref d0, .ref h0, .ref x0])), (m0, .inl (E.2.1, 32, .inl mf)), (d0, .inl (E.2.1, 32, .inl df)), (x0, .inl (E.2.1, 112, .inl xf)), (h0, .inr (4, [.ref a1, .ref a2])), (a1, .inl (E.2.2.1, 8, .inl st)), (a2, .inl (E.2.2.1, 64, .inl wv)), (c0, .inr (0, [.int (nI bo), .int (nI bh)]))] (stepP E u0 e0 eb es s0 m0 d0 x0 h0 a1 a2 c0 bo bh mf (actS 103 ht msg S)) := by
  refine CtI.of (by decide) (Nat.le_of_ble_eq_true rfl) (stepP_nar) ?_
  intro p e s m args below meth c A Q H locs ls C hP hD hS hl kret
  have hx := C.1
  have hb := C.2.1
  have hl : lv_has ls 4 [(0, .ref u0), (1, .int (nI 103)), (2, .int ht)] := hl
  refine lv_aload_n hx hb d_Run_perform_0 rfl (lv_at hl 0 rfl) ?_
  refine n_get C fg_Run_12 hP 0 rfl rfl d_Run_perform_1 ?_
  refine n_get C fg_Run_79 hP 1 rfl rfl d_Run_perform_4 ?_
  refine lv_iconst (v := nI 1) hx hb d_Run_perform_7 (by decide) ?_
  refine lv_isub hx hb d_Run_perform_8 ?_
  refine lv_istore_n (lv' := [(3, .int ((nI S.length) - (nI 1))), (0, .ref u0), (1, .int (nI 103)), (2, .int ht)]) hx hb d_Run_perform_9 rfl hl (by decide) rfl (fun ls hl => ?_)
  refine lv_iload_n hx hb d_Run_perform_10 rfl (lv_at hl 2 rfl) ?_
  refine lv_tableIn hx hb d_Run_perform_11 (by decide) (by decide) rfl rfl ?_
  refine lv_aload_n hx hb d_Run_perform_384 rfl (lv_at hl 1 rfl) ?_
  refine cal_I (As := []) (rest := []) C lk_Run_128 (c_Run_many l E u0 e0 eb es s0 m0 d0 x0 h0 a1 a2 c0 bo bh mf f sz df xf st wv S msg hrep hB hBm hlen hm hm32 ht) (by decide) hP hD hS 0 3 rfl rfl [0, 1, 2, 3, 4, 5, 6, 7, 8, 9, 10, 11] rfl (by decide) hl.1 rfl (Nat.le_of_ble_eq_true rfl) d_Run_perform_385 (fun r10 w1 H locs hp11 hP hD hS => ?_)
  obtain ⟨n1, f2, z3, d4, x5, s6, v7, rfl, hB9, hO8⟩ := hp11
  have hP : va_P E.1 clz [(u0, .inr (3, [.ref e0, .ref s0, .ref h0, .ref c0])), (e0, .inr (1, [.ref eb, .ref es, .int (nI n1)])), (eb, .inl (E.2.1, 1920, .inl f2)), (es, .inl (E.2.2.1, 24, .inl z3)), (s0, .inr (5, [.ref m0, .ref d0, .ref h0, .ref x0])), (m0, .inl (E.2.1, 32, .inl mf)), (d0, .inl (E.2.1, 32, .inl d4)), (x0, .inl (E.2.1, 112, .inl x5)), (h0, .inr (4, [.ref a1, .ref a2])), (a1, .inl (E.2.2.1, 8, .inl s6)), (a2, .inl (E.2.2.1, 64, .inl v7)), (c0, .inr (0, [.int (nI bo), .int (nI bh)]))] H := hP
  have hD : va_D A [(u0, .inr (3, [.ref e0, .ref s0, .ref h0, .ref c0])), (e0, .inr (1, [.ref eb, .ref es, .int (nI n1)])), (eb, .inl (E.2.1, 1920, .inl f2)), (es, .inl (E.2.2.1, 24, .inl z3)), (s0, .inr (5, [.ref m0, .ref d0, .ref h0, .ref x0])), (m0, .inl (E.2.1, 32, .inl mf)), (d0, .inl (E.2.1, 32, .inl d4)), (x0, .inl (E.2.1, 112, .inl x5)), (h0, .inr (4, [.ref a1, .ref a2])), (a1, .inl (E.2.2.1, 8, .inl s6)), (a2, .inl (E.2.2.1, 64, .inl v7)), (c0, .inr (0, [.int (nI bo), .int (nI bh)]))] := hD
  exact kret r10 [(u0, .inr (3, [.ref e0, .ref s0, .ref h0, .ref c0])), (e0, .inr (1, [.ref eb, .ref es, .int (nI n1)])), (eb, .inl (E.2.1, 1920, .inl f2)), (es, .inl (E.2.2.1, 24, .inl z3)), (s0, .inr (5, [.ref m0, .ref d0, .ref h0, .ref x0])), (m0, .inl (E.2.1, 32, .inl mf)), (d0, .inl (E.2.1, 32, .inl d4)), (x0, .inl (E.2.1, 112, .inl x5)), (h0, .inr (4, [.ref a1, .ref a2])), (a1, .inl (E.2.2.1, 8, .inl s6)), (a2, .inl (E.2.2.1, 64, .inl v7)), (c0, .inr (0, [.int (nI bo), .int (nI bh)]))] _ _ _ _ d_Run_perform_388 (⟨n1, f2, z3, d4, x5, s6, v7, rfl, hB9, hO8⟩) rfl hP hS

theorem c_Run_perform (l : Launch) (E : En) (u0 e0 eb es s0 m0 d0 x0 h0 a1 a2 c0 bo bh : Nat) (mf f sz df xf st wv : Nat → Int32) (S : Stk) (msg : Byl) (hrep : rep f sz S) (hB : fB f) (hBm : fB mf) (hlen : S.length ≤ 24) (hm : lay mf 0 msg) (hm32 : msg.length = 32) (ht : Int32) (op : Nat) (ho2 : op < 256) : CtI l y_Run_perform b_Run_perform 4 .boolean (rmd 5) E [.ref u0, .int (nI op), .int ht] [(u0, .inr (3, [.ref e0, .ref s0, .ref h0, .ref c0])), (e0, .inr (1, [.ref eb, .ref es, .int (nI S.length)])), (eb, .inl (E.2.1, 1920, .inl f)), (es, .inl (E.2.2.1, 24, .inl sz)), (s0, .inr (5, [.ref m0, .ref d0, .ref h0, .ref x0])), (m0, .inl (E.2.1, 32, .inl mf)), (d0, .inl (E.2.1, 32, .inl df)), (x0, .inl (E.2.1, 112, .inl xf)), (h0, .inr (4, [.ref a1, .ref a2])), (a1, .inl (E.2.2.1, 8, .inl st)), (a2, .inl (E.2.2.1, 64, .inl wv)), (c0, .inr (0, [.int (nI bo), .int (nI bh)]))] (stepP E u0 e0 eb es s0 m0 d0 x0 h0 a1 a2 c0 bo bh mf (actS op ht msg S)) := by
  by_cases h80 : op = 80
  · subst h80; exact c_perf_80 l E u0 e0 eb es s0 m0 d0 x0 h0 a1 a2 c0 bo bh mf f sz df xf st wv S msg hrep hB hBm hlen hm hm32 ht
  by_cases h81 : op = 81
  · subst h81; exact c_perf_81 l E u0 e0 eb es s0 m0 d0 x0 h0 a1 a2 c0 bo bh mf f sz df xf st wv S msg hrep hB hBm hlen hm hm32 ht
  by_cases h82 : op = 82
  · subst h82; exact c_perf_82 l E u0 e0 eb es s0 m0 d0 x0 h0 a1 a2 c0 bo bh mf f sz df xf st wv S msg hrep hB hBm hlen hm hm32 ht
  by_cases h83 : op = 83
  · subst h83; exact c_perf_83 l E u0 e0 eb es s0 m0 d0 x0 h0 a1 a2 c0 bo bh mf f sz df xf st wv S msg hrep hB hBm hlen hm hm32 ht
  by_cases h84 : op = 84
  · subst h84; exact c_perf_84 l E u0 e0 eb es s0 m0 d0 x0 h0 a1 a2 c0 bo bh mf f sz df xf st wv S msg hrep hB hBm hlen hm hm32 ht
  by_cases h85 : op = 85
  · subst h85; exact c_perf_85 l E u0 e0 eb es s0 m0 d0 x0 h0 a1 a2 c0 bo bh mf f sz df xf st wv S msg hrep hB hBm hlen hm hm32 ht
  by_cases h86 : op = 86
  · subst h86; exact c_perf_86 l E u0 e0 eb es s0 m0 d0 x0 h0 a1 a2 c0 bo bh mf f sz df xf st wv S msg hrep hB hBm hlen hm hm32 ht
  by_cases h87 : op = 87
  · subst h87; exact c_perf_87 l E u0 e0 eb es s0 m0 d0 x0 h0 a1 a2 c0 bo bh mf f sz df xf st wv S msg hrep hB hBm hlen hm hm32 ht
  by_cases h88 : op = 88
  · subst h88; exact c_perf_88 l E u0 e0 eb es s0 m0 d0 x0 h0 a1 a2 c0 bo bh mf f sz df xf st wv S msg hrep hB hBm hlen hm hm32 ht
  by_cases h89 : op = 89
  · subst h89; exact c_perf_89 l E u0 e0 eb es s0 m0 d0 x0 h0 a1 a2 c0 bo bh mf f sz df xf st wv S msg hrep hB hBm hlen hm hm32 ht
  by_cases h90 : op = 90
  · subst h90; exact c_perf_90 l E u0 e0 eb es s0 m0 d0 x0 h0 a1 a2 c0 bo bh mf f sz df xf st wv S msg hrep hB hBm hlen hm hm32 ht
  by_cases h91 : op = 91
  · subst h91; exact c_perf_91 l E u0 e0 eb es s0 m0 d0 x0 h0 a1 a2 c0 bo bh mf f sz df xf st wv S msg hrep hB hBm hlen hm hm32 ht
  by_cases h92 : op = 92
  · subst h92; exact c_perf_92 l E u0 e0 eb es s0 m0 d0 x0 h0 a1 a2 c0 bo bh mf f sz df xf st wv S msg hrep hB hBm hlen hm hm32 ht
  by_cases h93 : op = 93
  · subst h93; exact c_perf_93 l E u0 e0 eb es s0 m0 d0 x0 h0 a1 a2 c0 bo bh mf f sz df xf st wv S msg hrep hB hBm hlen hm hm32 ht
  by_cases h94 : op = 94
  · subst h94; exact c_perf_94 l E u0 e0 eb es s0 m0 d0 x0 h0 a1 a2 c0 bo bh mf f sz df xf st wv S msg hrep hB hBm hlen hm hm32 ht
  by_cases h95 : op = 95
  · subst h95; exact c_perf_95 l E u0 e0 eb es s0 m0 d0 x0 h0 a1 a2 c0 bo bh mf f sz df xf st wv S msg hrep hB hBm hlen hm hm32 ht
  by_cases h96 : op = 96
  · subst h96; exact c_perf_96 l E u0 e0 eb es s0 m0 d0 x0 h0 a1 a2 c0 bo bh mf f sz df xf st wv S msg hrep hB hBm hlen hm hm32 ht
  by_cases h97 : op = 97
  · subst h97; exact c_perf_97 l E u0 e0 eb es s0 m0 d0 x0 h0 a1 a2 c0 bo bh mf f sz df xf st wv S msg hrep hB hBm hlen hm hm32 ht
  by_cases h98 : op = 98
  · subst h98; exact c_perf_98 l E u0 e0 eb es s0 m0 d0 x0 h0 a1 a2 c0 bo bh mf f sz df xf st wv S msg hrep hB hBm hlen hm hm32 ht
  by_cases h99 : op = 99
  · subst h99; exact c_perf_99 l E u0 e0 eb es s0 m0 d0 x0 h0 a1 a2 c0 bo bh mf f sz df xf st wv S msg hrep hB hBm hlen hm hm32 ht
  by_cases h100 : op = 100
  · subst h100; exact c_perf_100 l E u0 e0 eb es s0 m0 d0 x0 h0 a1 a2 c0 bo bh mf f sz df xf st wv S msg hrep hB hBm hlen hm hm32 ht
  by_cases h101 : op = 101
  · subst h101; exact c_perf_101 l E u0 e0 eb es s0 m0 d0 x0 h0 a1 a2 c0 bo bh mf f sz df xf st wv S msg hrep hB hBm hlen hm hm32 ht
  by_cases h102 : op = 102
  · subst h102; exact c_perf_102 l E u0 e0 eb es s0 m0 d0 x0 h0 a1 a2 c0 bo bh mf f sz df xf st wv S msg hrep hB hBm hlen hm hm32 ht
  by_cases h103 : op = 103
  · subst h103; exact c_perf_103 l E u0 e0 eb es s0 m0 d0 x0 h0 a1 a2 c0 bo bh mf f sz df xf st wv S msg hrep hB hBm hlen hm hm32 ht
  exact c_perf_out l E u0 e0 eb es s0 m0 d0 x0 h0 a1 a2 c0 bo bh mf f sz df xf st wv S msg hrep hB hBm hlen hm hm32 ht op (by omega) ho2

def brS (op : Nat) (bs : List Bool) (S : Stk) : Option (List Bool × Stk) :=
  if op = 97 ∨ op = 98 then (if shutS bs = 0 then (match S with | y :: r => some ((isT y != decide (op = 98)) :: bs, r) | [] => none) else some (false :: bs, S))
  else if op = 99 then (match bs with | b :: r => some ((!b) :: r, S) | [] => none)
  else (match bs with | _ :: r => some (r, S) | [] => none)
def brP (E : En) (u0 e0 eb es s0 m0 d0 x0 h0 a1 a2 c0 : Nat) (mf f sz df xf st wv : Nat → Int32) (R : Option (List Bool × Stk)) (r : Int32) (w : va_W) : Prop := ∃ (n bo bh : Nat), w = wU E u0 e0 eb es s0 m0 d0 x0 h0 a1 a2 c0 n bo bh mf f sz df xf st wv ∧ ((∃ (bs1 : List Bool) (S1 : Stk), R = some (bs1, S1) ∧ r = b2 true ∧ n = S1.length ∧ bo = bs1.length ∧ bh = shutS bs1 ∧ rep f sz S1 ∧ S1.length ≤ 24) ∨ (R = none ∧ r = b2 false))
theorem brP_nar {E : En} {u0 e0 eb es s0 m0 d0 x0 h0 a1 a2 c0 : Nat} {mf f sz df xf st wv : Nat → Int32} {R : Option (List Bool × Stk)} (r : Int32) (w : va_W) (h : brP E u0 e0 eb es s0 m0 d0 x0 h0 a1 a2 c0 mf f sz df xf st wv R r w) : narrow .boolean (.int r) = .int r := by
  obtain ⟨n, bo, bh, -, ⟨b1, S1, -, rfl, -⟩ | ⟨-, rfl⟩⟩ := h
  · exact b2_nar _
  · exact b2_nar _

set_option maxHeartbeats 4000000 in
set_option maxRecDepth 100000 in
theorem c_br_99 (l : Launch) (E : En) (u0 e0 eb es s0 m0 d0 x0 h0 a1 a2 c0 : Nat) (mf f sz df xf st wv : Nat → Int32) (S : Stk) (bs : List Bool) (hrep : rep f sz S) (hlen : S.length ≤ 24) (hbs : bs.length ≤ 90) : CtI l y_Run_branch b_Run_branch 2 .boolean (rmd 2) E [.ref u0, .int (nI 99)] [(u0, .inr (3, [.ref e0, .ref s0, .ref h0, .ref c0])), (e0, .inr (1, [.ref eb, .ref es, .int (nI S.length)])), (eb, .inl (E.2.1, 1920, .inl f)), (es, .inl (E.2.2.1, 24, .inl sz)), (s0, .inr (5, [.ref m0, .ref d0, .ref h0, .ref x0])), (m0, .inl (E.2.1, 32, .inl mf)), (d0, .inl (E.2.1, 32, .inl df)), (x0, .inl (E.2.1, 112, .inl xf)), (h0, .inr (4, [.ref a1, .ref a2])), (a1, .inl (E.2.2.1, 8, .inl st)), (a2, .inl (E.2.2.1, 64, .inl wv)), (c0, .inr (0, [.int (nI bs.length), .int (nI (shutS bs))]))] (brP E u0 e0 eb es s0 m0 d0 x0 h0 a1 a2 c0 mf f sz df xf st wv (brS 99 bs S)) := by
  refine CtI.of (by decide) (Nat.le_of_ble_eq_true rfl) (brP_nar) ?_
  intro p e s m args below meth c A Q H locs ls C hP hD hS hl kret
  have hx := C.1
  have hb := C.2.1
  have hl : lv_has ls 2 [(0, .ref u0), (1, .int (nI 99))] := hl
  rcases bs with _ | ⟨q, br⟩
  · have hP : va_P E.1 clz [(u0, .inr (3, [.ref e0, .ref s0, .ref h0, .ref c0])), (e0, .inr (1, [.ref eb, .ref es, .int (nI S.length)])), (eb, .inl (E.2.1, 1920, .inl f)), (es, .inl (E.2.2.1, 24, .inl sz)), (s0, .inr (5, [.ref m0, .ref d0, .ref h0, .ref x0])), (m0, .inl (E.2.1, 32, .inl mf)), (d0, .inl (E.2.1, 32, .inl df)), (x0, .inl (E.2.1, 112, .inl xf)), (h0, .inr (4, [.ref a1, .ref a2])), (a1, .inl (E.2.2.1, 8, .inl st)), (a2, .inl (E.2.2.1, 64, .inl wv)), (c0, .inr (0, [.int (nI 0), .int (nI 0)]))] H := hP
    have hD : va_D A [(u0, .inr (3, [.ref e0, .ref s0, .ref h0, .ref c0])), (e0, .inr (1, [.ref eb, .ref es, .int (nI S.length)])), (eb, .inl (E.2.1, 1920, .inl f)), (es, .inl (E.2.2.1, 24, .inl sz)), (s0, .inr (5, [.ref m0, .ref d0, .ref h0, .ref x0])), (m0, .inl (E.2.1, 32, .inl mf)), (d0, .inl (E.2.1, 32, .inl df)), (x0, .inl (E.2.1, 112, .inl xf)), (h0, .inr (4, [.ref a1, .ref a2])), (a1, .inl (E.2.2.1, 8, .inl st)), (a2, .inl (E.2.2.1, 64, .inl wv)), (c0, .inr (0, [.int (nI 0), .int (nI 0)]))] := hD
    refine lv_iload_n hx hb d_Run_branch_0 rfl (lv_at hl 1 rfl) ?_
    refine lv_bipush (v := nI 99) hx hb d_Run_branch_1 (by decide) ?_
    refine j_ne C 99 99 rfl rfl (by decide) (by decide) d_Run_branch_3 rfl (fun hc1 => absurd hc1 (by decide)) (fun hc1 => ?_)
    refine lv_aload_n hx hb d_Run_branch_6 rfl (lv_at hl 0 rfl) ?_
    refine n_get C fg_Run_33 hP 0 rfl rfl d_Run_branch_7 ?_
    refine cal_I (As := []) (rest := []) C lk_Run_69 (c_Br_turn_no l E c0 0) (by decide) hP hD hS 11 0 rfl rfl [11] rfl (by decide) hl.1 rfl (Nat.le_of_ble_eq_true rfl) d_Run_branch_10 (fun r2 w1 H locs hp3 hP hD hS => ?_)
    obtain ⟨rfl, rfl⟩ := hp3
    have hP : va_P E.1 clz [(u0, .inr (3, [.ref e0, .ref s0, .ref h0, .ref c0])), (e0, .inr (1, [.ref eb, .ref es, .int (nI S.length)])), (eb, .inl (E.2.1, 1920, .inl f)), (es, .inl (E.2.2.1, 24, .inl sz)), (s0, .inr (5, [.ref m0, .ref d0, .ref h0, .ref x0])), (m0, .inl (E.2.1, 32, .inl mf)), (d0, .inl (E.2.1, 32, .inl df)), (x0, .inl (E.2.1, 112, .inl xf)), (h0, .inr (4, [.ref a1, .ref a2])), (a1, .inl (E.2.2.1, 8, .inl st)), (a2, .inl (E.2.2.1, 64, .inl wv)), (c0, .inr (0, [.int (nI 0), .int (nI 0)]))] H := hP
    have hD : va_D A [(u0, .inr (3, [.ref e0, .ref s0, .ref h0, .ref c0])), (e0, .inr (1, [.ref eb, .ref es, .int (nI S.length)])), (eb, .inl (E.2.1, 1920, .inl f)), (es, .inl (E.2.2.1, 24, .inl sz)), (s0, .inr (5, [.ref m0, .ref d0, .ref h0, .ref x0])), (m0, .inl (E.2.1, 32, .inl mf)), (d0, .inl (E.2.1, 32, .inl df)), (x0, .inl (E.2.1, 112, .inl xf)), (h0, .inr (4, [.ref a1, .ref a2])), (a1, .inl (E.2.2.1, 8, .inl st)), (a2, .inl (E.2.2.1, 64, .inl wv)), (c0, .inr (0, [.int (nI 0), .int (nI 0)]))] := hD
    exact kret (b2 false) [(u0, .inr (3, [.ref e0, .ref s0, .ref h0, .ref c0])), (e0, .inr (1, [.ref eb, .ref es, .int (nI S.length)])), (eb, .inl (E.2.1, 1920, .inl f)), (es, .inl (E.2.2.1, 24, .inl sz)), (s0, .inr (5, [.ref m0, .ref d0, .ref h0, .ref x0])), (m0, .inl (E.2.1, 32, .inl mf)), (d0, .inl (E.2.1, 32, .inl df)), (x0, .inl (E.2.1, 112, .inl xf)), (h0, .inr (4, [.ref a1, .ref a2])), (a1, .inl (E.2.2.1, 8, .inl st)), (a2, .inl (E.2.2.1, 64, .inl wv)), (c0, .inr (0, [.int (nI 0), .int (nI 0)]))] _ _ _ _ d_Run_branch_13 (⟨_, _, _, rfl, Or.inr ⟨rfl, rfl⟩⟩) rfl hP hS
  · have hP : va_P E.1 clz [(u0, .inr (3, [.ref e0, .ref s0, .ref h0, .ref c0])), (e0, .inr (1, [.ref eb, .ref es, .int (nI S.length)])), (eb, .inl (E.2.1, 1920, .inl f)), (es, .inl (E.2.2.1, 24, .inl sz)), (s0, .inr (5, [.ref m0, .ref d0, .ref h0, .ref x0])), (m0, .inl (E.2.1, 32, .inl mf)), (d0, .inl (E.2.1, 32, .inl df)), (x0, .inl (E.2.1, 112, .inl xf)), (h0, .inr (4, [.ref a1, .ref a2])), (a1, .inl (E.2.2.1, 8, .inl st)), (a2, .inl (E.2.2.1, 64, .inl wv)), (c0, .inr (0, [.int (nI (br.length + 1)), .int (nI (shutS (q :: br)))]))] H := hP
    have hD : va_D A [(u0, .inr (3, [.ref e0, .ref s0, .ref h0, .ref c0])), (e0, .inr (1, [.ref eb, .ref es, .int (nI S.length)])), (eb, .inl (E.2.1, 1920, .inl f)), (es, .inl (E.2.2.1, 24, .inl sz)), (s0, .inr (5, [.ref m0, .ref d0, .ref h0, .ref x0])), (m0, .inl (E.2.1, 32, .inl mf)), (d0, .inl (E.2.1, 32, .inl df)), (x0, .inl (E.2.1, 112, .inl xf)), (h0, .inr (4, [.ref a1, .ref a2])), (a1, .inl (E.2.2.1, 8, .inl st)), (a2, .inl (E.2.2.1, 64, .inl wv)), (c0, .inr (0, [.int (nI (br.length + 1)), .int (nI (shutS (q :: br)))]))] := hD
    have hbs : br.length + 1 ≤ 90 := hbs
    refine lv_iload_n hx hb d_Run_branch_0 rfl (lv_at hl 1 rfl) ?_
    refine lv_bipush (v := nI 99) hx hb d_Run_branch_1 (by decide) ?_
    refine j_ne C 99 99 rfl rfl (by decide) (by decide) d_Run_branch_3 rfl (fun hc4 => absurd hc4 (by decide)) (fun hc4 => ?_)
    refine lv_aload_n hx hb d_Run_branch_6 rfl (lv_at hl 0 rfl) ?_
    refine n_get C fg_Run_33 hP 0 rfl rfl d_Run_branch_7 ?_
    refine cal_I (As := []) (rest := []) C lk_Run_69 (c_Br_turn l E c0 q br (by omega)) (by decide) hP hD hS 11 0 rfl rfl [11] rfl (by decide) hl.1 rfl (Nat.le_of_ble_eq_true rfl) d_Run_branch_10 (fun r7 w1 H locs hp8 hP hD hS => ?_)
    obtain ⟨rfl, b5, rfl, hq6⟩ := hp8
    have hP : va_P E.1 clz [(u0, .inr (3, [.ref e0, .ref s0, .ref h0, .ref c0])), (e0, .inr (1, [.ref eb, .ref es, .int (nI S.length)])), (eb, .inl (E.2.1, 1920, .inl f)), (es, .inl (E.2.2.1, 24, .inl sz)), (s0, .inr (5, [.ref m0, .ref d0, .ref h0, .ref x0])), (m0, .inl (E.2.1, 32, .inl mf)), (d0, .inl (E.2.1, 32, .inl df)), (x0, .inl (E.2.1, 112, .inl xf)), (h0, .inr (4, [.ref a1, .ref a2])), (a1, .inl (E.2.2.1, 8, .inl st)), (a2, .inl (E.2.2.1, 64, .inl wv)), (c0, .inr (0, [.int (nI (br.length + 1)), .int (nI b5)]))] H := hP
    have hD : va_D A [(u0, .inr (3, [.ref e0, .ref s0, .ref h0, .ref c0])), (e0, .inr (1, [.ref eb, .ref es, .int (nI S.length)])), (eb, .inl (E.2.1, 1920, .inl f)), (es, .inl (E.2.2.1, 24, .inl sz)), (s0, .inr (5, [.ref m0, .ref d0, .ref h0, .ref x0])), (m0, .inl (E.2.1, 32, .inl mf)), (d0, .inl (E.2.1, 32, .inl df)), (x0, .inl (E.2.1, 112, .inl xf)), (h0, .inr (4, [.ref a1, .ref a2])), (a1, .inl (E.2.2.1, 8, .inl st)), (a2, .inl (E.2.2.1, 64, .inl wv)), (c0, .inr (0, [.int (nI (br.length + 1)), .int (nI b5)]))] := hD
    exact kret (b2 true) [(u0, .inr (3, [.ref e0, .ref s0, .ref h0, .ref c0])), (e0, .inr (1, [.ref eb, .ref es, .int (nI S.length)])), (eb, .inl (E.2.1, 1920, .inl f)), (es, .inl (E.2.2.1, 24, .inl sz)), (s0, .inr (5, [.ref m0, .ref d0, .ref h0, .ref x0])), (m0, .inl (E.2.1, 32, .inl mf)), (d0, .inl (E.2.1, 32, .inl df)), (x0, .inl (E.2.1, 112, .inl xf)), (h0, .inr (4, [.ref a1, .ref a2])), (a1, .inl (E.2.2.1, 8, .inl st)), (a2, .inl (E.2.2.1, 64, .inl wv)), (c0, .inr (0, [.int (nI (br.length + 1)), .int (nI b5)]))] _ _ _ _ d_Run_branch_13 (⟨_, _, _, rfl, Or.inl ⟨((!q) :: br), S, rfl, rfl, rfl, rfl, hq6, hrep, hlen⟩⟩) rfl hP hS

set_option maxHeartbeats 4000000 in
set_option maxRecDepth 100000 in
theorem c_br_100 (l : Launch) (E : En) (u0 e0 eb es s0 m0 d0 x0 h0 a1 a2 c0 : Nat) (mf f sz df xf st wv : Nat → Int32) (S : Stk) (bs : List Bool) (hrep : rep f sz S) (hlen : S.length ≤ 24) (hbs : bs.length ≤ 90) : CtI l y_Run_branch b_Run_branch 2 .boolean (rmd 2) E [.ref u0, .int (nI 100)] [(u0, .inr (3, [.ref e0, .ref s0, .ref h0, .ref c0])), (e0, .inr (1, [.ref eb, .ref es, .int (nI S.length)])), (eb, .inl (E.2.1, 1920, .inl f)), (es, .inl (E.2.2.1, 24, .inl sz)), (s0, .inr (5, [.ref m0, .ref d0, .ref h0, .ref x0])), (m0, .inl (E.2.1, 32, .inl mf)), (d0, .inl (E.2.1, 32, .inl df)), (x0, .inl (E.2.1, 112, .inl xf)), (h0, .inr (4, [.ref a1, .ref a2])), (a1, .inl (E.2.2.1, 8, .inl st)), (a2, .inl (E.2.2.1, 64, .inl wv)), (c0, .inr (0, [.int (nI bs.length), .int (nI (shutS bs))]))] (brP E u0 e0 eb es s0 m0 d0 x0 h0 a1 a2 c0 mf f sz df xf st wv (brS 100 bs S)) := by
  refine CtI.of (by decide) (Nat.le_of_ble_eq_true rfl) (brP_nar) ?_
  intro p e s m args below meth c A Q H locs ls C hP hD hS hl kret
  have hx := C.1
  have hb := C.2.1
  have hl : lv_has ls 2 [(0, .ref u0), (1, .int (nI 100))] := hl
  rcases bs with _ | ⟨q, br⟩
  · have hP : va_P E.1 clz [(u0, .inr (3, [.ref e0, .ref s0, .ref h0, .ref c0])), (e0, .inr (1, [.ref eb, .ref es, .int (nI S.length)])), (eb, .inl (E.2.1, 1920, .inl f)), (es, .inl (E.2.2.1, 24, .inl sz)), (s0, .inr (5, [.ref m0, .ref d0, .ref h0, .ref x0])), (m0, .inl (E.2.1, 32, .inl mf)), (d0, .inl (E.2.1, 32, .inl df)), (x0, .inl (E.2.1, 112, .inl xf)), (h0, .inr (4, [.ref a1, .ref a2])), (a1, .inl (E.2.2.1, 8, .inl st)), (a2, .inl (E.2.2.1, 64, .inl wv)), (c0, .inr (0, [.int (nI 0), .int (nI 0)]))] H := hP
    have hD : va_D A [(u0, .inr (3, [.ref e0, .ref s0, .ref h0, .ref c0])), (e0, .inr (1, [.ref eb, .ref es, .int (nI S.length)])), (eb, .inl (E.2.1, 1920, .inl f)), (es, .inl (E.2.2.1, 24, .inl sz)), (s0, .inr (5, [.ref m0, .ref d0, .ref h0, .ref x0])), (m0, .inl (E.2.1, 32, .inl mf)), (d0, .inl (E.2.1, 32, .inl df)), (x0, .inl (E.2.1, 112, .inl xf)), (h0, .inr (4, [.ref a1, .ref a2])), (a1, .inl (E.2.2.1, 8, .inl st)), (a2, .inl (E.2.2.1, 64, .inl wv)), (c0, .inr (0, [.int (nI 0), .int (nI 0)]))] := hD
    refine lv_iload_n hx hb d_Run_branch_0 rfl (lv_at hl 1 rfl) ?_
    refine lv_bipush (v := nI 99) hx hb d_Run_branch_1 (by decide) ?_
    refine j_ne C 100 99 rfl rfl (by decide) (by decide) d_Run_branch_3 rfl (fun hc1 => ?_) (fun hc1 => absurd hc1 (by decide))
    refine lv_iload_n hx hb d_Run_branch_14 rfl (lv_at hl 1 rfl) ?_
    refine lv_bipush (v := nI 100) hx hb d_Run_branch_15 (by decide) ?_
    refine j_ne C 100 100 rfl rfl (by decide) (by decide) d_Run_branch_17 rfl (fun hc2 => absurd hc2 (by decide)) (fun hc2 => ?_)
    refine lv_aload_n hx hb d_Run_branch_20 rfl (lv_at hl 0 rfl) ?_
    refine n_get C fg_Run_33 hP 0 rfl rfl d_Run_branch_21 ?_
    refine cal_I (As := []) (rest := []) C lk_Run_72 (c_Br_leave_no l E c0 0) (by decide) hP hD hS 11 0 rfl rfl [11] rfl (by decide) hl.1 rfl (Nat.le_of_ble_eq_true rfl) d_Run_branch_24 (fun r3 w1 H locs hp4 hP hD hS => ?_)
    obtain ⟨rfl, rfl⟩ := hp4
    have hP : va_P E.1 clz [(u0, .inr (3, [.ref e0, .ref s0, .ref h0, .ref c0])), (e0, .inr (1, [.ref eb, .ref es, .int (nI S.length)])), (eb, .inl (E.2.1, 1920, .inl f)), (es, .inl (E.2.2.1, 24, .inl sz)), (s0, .inr (5, [.ref m0, .ref d0, .ref h0, .ref x0])), (m0, .inl (E.2.1, 32, .inl mf)), (d0, .inl (E.2.1, 32, .inl df)), (x0, .inl (E.2.1, 112, .inl xf)), (h0, .inr (4, [.ref a1, .ref a2])), (a1, .inl (E.2.2.1, 8, .inl st)), (a2, .inl (E.2.2.1, 64, .inl wv)), (c0, .inr (0, [.int (nI 0), .int (nI 0)]))] H := hP
    have hD : va_D A [(u0, .inr (3, [.ref e0, .ref s0, .ref h0, .ref c0])), (e0, .inr (1, [.ref eb, .ref es, .int (nI S.length)])), (eb, .inl (E.2.1, 1920, .inl f)), (es, .inl (E.2.2.1, 24, .inl sz)), (s0, .inr (5, [.ref m0, .ref d0, .ref h0, .ref x0])), (m0, .inl (E.2.1, 32, .inl mf)), (d0, .inl (E.2.1, 32, .inl df)), (x0, .inl (E.2.1, 112, .inl xf)), (h0, .inr (4, [.ref a1, .ref a2])), (a1, .inl (E.2.2.1, 8, .inl st)), (a2, .inl (E.2.2.1, 64, .inl wv)), (c0, .inr (0, [.int (nI 0), .int (nI 0)]))] := hD
    exact kret (b2 false) [(u0, .inr (3, [.ref e0, .ref s0, .ref h0, .ref c0])), (e0, .inr (1, [.ref eb, .ref es, .int (nI S.length)])), (eb, .inl (E.2.1, 1920, .inl f)), (es, .inl (E.2.2.1, 24, .inl sz)), (s0, .inr (5, [.ref m0, .ref d0, .ref h0, .ref x0])), (m0, .inl (E.2.1, 32, .inl mf)), (d0, .inl (E.2.1, 32, .inl df)), (x0, .inl (E.2.1, 112, .inl xf)), (h0, .inr (4, [.ref a1, .ref a2])), (a1, .inl (E.2.2.1, 8, .inl st)), (a2, .inl (E.2.2.1, 64, .inl wv)), (c0, .inr (0, [.int (nI 0), .int (nI 0)]))] _ _ _ _ d_Run_branch_27 (⟨_, _, _, rfl, Or.inr ⟨rfl, rfl⟩⟩) rfl hP hS
  · have hP : va_P E.1 clz [(u0, .inr (3, [.ref e0, .ref s0, .ref h0, .ref c0])), (e0, .inr (1, [.ref eb, .ref es, .int (nI S.length)])), (eb, .inl (E.2.1, 1920, .inl f)), (es, .inl (E.2.2.1, 24, .inl sz)), (s0, .inr (5, [.ref m0, .ref d0, .ref h0, .ref x0])), (m0, .inl (E.2.1, 32, .inl mf)), (d0, .inl (E.2.1, 32, .inl df)), (x0, .inl (E.2.1, 112, .inl xf)), (h0, .inr (4, [.ref a1, .ref a2])), (a1, .inl (E.2.2.1, 8, .inl st)), (a2, .inl (E.2.2.1, 64, .inl wv)), (c0, .inr (0, [.int (nI (br.length + 1)), .int (nI (shutS (q :: br)))]))] H := hP
    have hD : va_D A [(u0, .inr (3, [.ref e0, .ref s0, .ref h0, .ref c0])), (e0, .inr (1, [.ref eb, .ref es, .int (nI S.length)])), (eb, .inl (E.2.1, 1920, .inl f)), (es, .inl (E.2.2.1, 24, .inl sz)), (s0, .inr (5, [.ref m0, .ref d0, .ref h0, .ref x0])), (m0, .inl (E.2.1, 32, .inl mf)), (d0, .inl (E.2.1, 32, .inl df)), (x0, .inl (E.2.1, 112, .inl xf)), (h0, .inr (4, [.ref a1, .ref a2])), (a1, .inl (E.2.2.1, 8, .inl st)), (a2, .inl (E.2.2.1, 64, .inl wv)), (c0, .inr (0, [.int (nI (br.length + 1)), .int (nI (shutS (q :: br)))]))] := hD
    have hbs : br.length + 1 ≤ 90 := hbs
    refine lv_iload_n hx hb d_Run_branch_0 rfl (lv_at hl 1 rfl) ?_
    refine lv_bipush (v := nI 99) hx hb d_Run_branch_1 (by decide) ?_
    refine j_ne C 100 99 rfl rfl (by decide) (by decide) d_Run_branch_3 rfl (fun hc5 => ?_) (fun hc5 => absurd hc5 (by decide))
    refine lv_iload_n hx hb d_Run_branch_14 rfl (lv_at hl 1 rfl) ?_
    refine lv_bipush (v := nI 100) hx hb d_Run_branch_15 (by decide) ?_
    refine j_ne C 100 100 rfl rfl (by decide) (by decide) d_Run_branch_17 rfl (fun hc6 => absurd hc6 (by decide)) (fun hc6 => ?_)
    refine lv_aload_n hx hb d_Run_branch_20 rfl (lv_at hl 0 rfl) ?_
    refine n_get C fg_Run_33 hP 0 rfl rfl d_Run_branch_21 ?_
    refine cal_I (As := []) (rest := []) C lk_Run_72 (c_Br_leave l E c0 q br (by omega)) (by decide) hP hD hS 11 0 rfl rfl [11] rfl (by decide) hl.1 rfl (Nat.le_of_ble_eq_true rfl) d_Run_branch_24 (fun r9 w1 H locs hp10 hP hD hS => ?_)
    obtain ⟨rfl, b7, rfl, hq8⟩ := hp10
    have hP : va_P E.1 clz [(u0, .inr (3, [.ref e0, .ref s0, .ref h0, .ref c0])), (e0, .inr (1, [.ref eb, .ref es, .int (nI S.length)])), (eb, .inl (E.2.1, 1920, .inl f)), (es, .inl (E.2.2.1, 24, .inl sz)), (s0, .inr (5, [.ref m0, .ref d0, .ref h0, .ref x0])), (m0, .inl (E.2.1, 32, .inl mf)), (d0, .inl (E.2.1, 32, .inl df)), (x0, .inl (E.2.1, 112, .inl xf)), (h0, .inr (4, [.ref a1, .ref a2])), (a1, .inl (E.2.2.1, 8, .inl st)), (a2, .inl (E.2.2.1, 64, .inl wv)), (c0, .inr (0, [.int (nI br.length), .int (nI b7)]))] H := hP
    have hD : va_D A [(u0, .inr (3, [.ref e0, .ref s0, .ref h0, .ref c0])), (e0, .inr (1, [.ref eb, .ref es, .int (nI S.length)])), (eb, .inl (E.2.1, 1920, .inl f)), (es, .inl (E.2.2.1, 24, .inl sz)), (s0, .inr (5, [.ref m0, .ref d0, .ref h0, .ref x0])), (m0, .inl (E.2.1, 32, .inl mf)), (d0, .inl (E.2.1, 32, .inl df)), (x0, .inl (E.2.1, 112, .inl xf)), (h0, .inr (4, [.ref a1, .ref a2])), (a1, .inl (E.2.2.1, 8, .inl st)), (a2, .inl (E.2.2.1, 64, .inl wv)), (c0, .inr (0, [.int (nI br.length), .int (nI b7)]))] := hD
    exact kret (b2 true) [(u0, .inr (3, [.ref e0, .ref s0, .ref h0, .ref c0])), (e0, .inr (1, [.ref eb, .ref es, .int (nI S.length)])), (eb, .inl (E.2.1, 1920, .inl f)), (es, .inl (E.2.2.1, 24, .inl sz)), (s0, .inr (5, [.ref m0, .ref d0, .ref h0, .ref x0])), (m0, .inl (E.2.1, 32, .inl mf)), (d0, .inl (E.2.1, 32, .inl df)), (x0, .inl (E.2.1, 112, .inl xf)), (h0, .inr (4, [.ref a1, .ref a2])), (a1, .inl (E.2.2.1, 8, .inl st)), (a2, .inl (E.2.2.1, 64, .inl wv)), (c0, .inr (0, [.int (nI br.length), .int (nI b7)]))] _ _ _ _ d_Run_branch_27 (⟨_, _, _, rfl, Or.inl ⟨br, S, rfl, rfl, rfl, rfl, hq8, hrep, hlen⟩⟩) rfl hP hS

set_option maxHeartbeats 4000000 in
set_option maxRecDepth 100000 in
theorem c_br_97 (l : Launch) (E : En) (u0 e0 eb es s0 m0 d0 x0 h0 a1 a2 c0 : Nat) (mf f sz df xf st wv : Nat → Int32) (S : Stk) (bs : List Bool) (hrep : rep f sz S) (hlen : S.length ≤ 24) (hbs : bs.length ≤ 90) : CtI l y_Run_branch b_Run_branch 2 .boolean (rmd 2) E [.ref u0, .int (nI 97)] [(u0, .inr (3, [.ref e0, .ref s0, .ref h0, .ref c0])), (e0, .inr (1, [.ref eb, .ref es, .int (nI S.length)])), (eb, .inl (E.2.1, 1920, .inl f)), (es, .inl (E.2.2.1, 24, .inl sz)), (s0, .inr (5, [.ref m0, .ref d0, .ref h0, .ref x0])), (m0, .inl (E.2.1, 32, .inl mf)), (d0, .inl (E.2.1, 32, .inl df)), (x0, .inl (E.2.1, 112, .inl xf)), (h0, .inr (4, [.ref a1, .ref a2])), (a1, .inl (E.2.2.1, 8, .inl st)), (a2, .inl (E.2.2.1, 64, .inl wv)), (c0, .inr (0, [.int (nI bs.length), .int (nI (shutS bs))]))] (brP E u0 e0 eb es s0 m0 d0 x0 h0 a1 a2 c0 mf f sz df xf st wv (brS 97 bs S)) := by
  refine CtI.of (by decide) (Nat.le_of_ble_eq_true rfl) (brP_nar) ?_
  intro p e s m args below meth c A Q H locs ls C hP hD hS hl kret
  have hx := C.1
  have hb := C.2.1
  have hl : lv_has ls 2 [(0, .ref u0), (1, .int (nI 97))] := hl
  have hbl := shutS_le bs
  rcases Nat.eq_zero_or_pos (shutS bs) with hd0 | hd0
  · rcases S with _ | ⟨x, S⟩
    · have hP : va_P E.1 clz [(u0, .inr (3, [.ref e0, .ref s0, .ref h0, .ref c0])), (e0, .inr (1, [.ref eb, .ref es, .int (nI 0)])), (eb, .inl (E.2.1, 1920, .inl f)), (es, .inl (E.2.2.1, 24, .inl sz)), (s0, .inr (5, [.ref m0, .ref d0, .ref h0, .ref x0])), (m0, .inl (E.2.1, 32, .inl mf)), (d0, .inl (E.2.1, 32, .inl df)), (x0, .inl (E.2.1, 112, .inl xf)), (h0, .inr (4, [.ref a1, .ref a2])), (a1, .inl (E.2.2.1, 8, .inl st)), (a2, .inl (E.2.2.1, 64, .inl wv)), (c0, .inr (0, [.int (nI bs.length), .int (nI (shutS bs))]))] H := hP
      have hD : va_D A [(u0, .inr (3, [.ref e0, .ref s0, .ref h0, .ref c0])), (e0, .inr (1, [.ref eb, .ref es, .int (nI 0)])), (eb, .inl (E.2.1, 1920, .inl f)), (es, .inl (E.2.2.1, 24, .inl sz)), (s0, .inr (5, [.ref m0, .ref d0, .ref h0, .ref x0])), (m0, .inl (E.2.1, 32, .inl mf)), (d0, .inl (E.2.1, 32, .inl df)), (x0, .inl (E.2.1, 112, .inl xf)), (h0, .inr (4, [.ref a1, .ref a2])), (a1, .inl (E.2.2.1, 8, .inl st)), (a2, .inl (E.2.2.1, 64, .inl wv)), (c0, .inr (0, [.int (nI bs.length), .int (nI (shutS bs))]))] := hD
      refine lv_iload_n hx hb d_Run_branch_0 rfl (lv_at hl 1 rfl) ?_
      refine lv_bipush (v := nI 99) hx hb d_Run_branch_1 (by decide) ?_
      refine j_ne C 97 99 rfl rfl (by decide) (by decide) d_Run_branch_3 rfl (fun hc1 => ?_) (fun hc1 => absurd hc1 (by decide))
      refine lv_iload_n hx hb d_Run_branch_14 rfl (lv_at hl 1 rfl) ?_
      refine lv_bipush (v := nI 100) hx hb d_Run_branch_15 (by decide) ?_
      refine j_ne C 97 100 rfl rfl (by decide) (by decide) d_Run_branch_17 rfl (fun hc2 => ?_) (fun hc2 => absurd hc2 (by decide))
      refine lv_aload_n hx hb d_Run_branch_28 rfl (lv_at hl 0 rfl) ?_
      refine n_get C fg_Run_33 hP 0 rfl rfl d_Run_branch_29 ?_
      refine cal_I (As := []) (rest := []) C lk_Run_50 (c_Br_isDone l E c0 bs.length (shutS bs) (by first | omega | exact Nat.lt_of_le_of_lt (shutS_le _) (by first | omega | (simp only [List.length_cons]; omega)))) (by decide) hP hD hS 11 0 rfl rfl [11] rfl (by decide) hl.1 rfl (Nat.le_of_ble_eq_true rfl) d_Run_branch_32 (fun r3 w1 H locs hp4 hP hD hS => ?_)
      obtain ⟨rfl, rfl⟩ := hp4
      have hP : va_P E.1 clz [(u0, .inr (3, [.ref e0, .ref s0, .ref h0, .ref c0])), (e0, .inr (1, [.ref eb, .ref es, .int (nI 0)])), (eb, .inl (E.2.1, 1920, .inl f)), (es, .inl (E.2.2.1, 24, .inl sz)), (s0, .inr (5, [.ref m0, .ref d0, .ref h0, .ref x0])), (m0, .inl (E.2.1, 32, .inl mf)), (d0, .inl (E.2.1, 32, .inl df)), (x0, .inl (E.2.1, 112, .inl xf)), (h0, .inr (4, [.ref a1, .ref a2])), (a1, .inl (E.2.2.1, 8, .inl st)), (a2, .inl (E.2.2.1, 64, .inl wv)), (c0, .inr (0, [.int (nI bs.length), .int (nI (shutS bs))]))] H := hP
      have hD : va_D A [(u0, .inr (3, [.ref e0, .ref s0, .ref h0, .ref c0])), (e0, .inr (1, [.ref eb, .ref es, .int (nI 0)])), (eb, .inl (E.2.1, 1920, .inl f)), (es, .inl (E.2.2.1, 24, .inl sz)), (s0, .inr (5, [.ref m0, .ref d0, .ref h0, .ref x0])), (m0, .inl (E.2.1, 32, .inl mf)), (d0, .inl (E.2.1, 32, .inl df)), (x0, .inl (E.2.1, 112, .inl xf)), (h0, .inr (4, [.ref a1, .ref a2])), (a1, .inl (E.2.2.1, 8, .inl st)), (a2, .inl (E.2.2.1, 64, .inl wv)), (c0, .inr (0, [.int (nI bs.length), .int (nI (shutS bs))]))] := hD
      refine tope (z := b2 true) (congrArg b2 (decide_eq_true hd0)) ?_
      refine zb_ne C true rfl d_Run_branch_35 rfl (fun hc5 => ?_) (fun hc5 => absurd hc5 (by simp_all))
      refine lv_aload_n hx hb d_Run_branch_48 rfl (lv_at hl 0 rfl) ?_
      refine n_get C fg_Run_33 hP 0 rfl rfl d_Run_branch_49 ?_
      refine lv_aload_n hx hb d_Run_branch_52 rfl (lv_at hl 0 rfl) ?_
      refine n_get C fg_Run_12 hP 0 rfl rfl d_Run_branch_53 ?_
      refine lv_aload_n hx hb d_Run_branch_56 rfl (lv_at hl 0 rfl) ?_
      refine n_get C fg_Run_12 hP 0 rfl rfl d_Run_branch_57 ?_
      refine n_get C fg_Run_79 hP 1 rfl rfl d_Run_branch_60 ?_
      refine lv_iconst (v := nI 1) hx hb d_Run_branch_63 (by decide) ?_
      refine lv_isub hx hb d_Run_branch_64 ?_
      refine tope (z := (-1)) (by decide) ?_
      refine cal_I (As := [.int (-1)]) (rest := [.ref c0]) C lk_Run_82 (c_El_isTrue_no l E e0 eb es 0 f sz (-1) (by first | exact hasB_m1 _ | exact hasB_m2 _)) (by decide) hP hD hS 1 1 rfl rfl [1, 2, 3] rfl (by decide) hl.1 rfl (Nat.le_of_ble_eq_true rfl) d_Run_branch_65 (fun r6 w1 H locs hp7 hP hD hS => ?_)
      obtain ⟨rfl, rfl⟩ := hp7
      have hP : va_P E.1 clz [(u0, .inr (3, [.ref e0, .ref s0, .ref h0, .ref c0])), (e0, .inr (1, [.ref eb, .ref es, .int (nI 0)])), (eb, .inl (E.2.1, 1920, .inl f)), (es, .inl (E.2.2.1, 24, .inl sz)), (s0, .inr (5, [.ref m0, .ref d0, .ref h0, .ref x0])), (m0, .inl (E.2.1, 32, .inl mf)), (d0, .inl (E.2.1, 32, .inl df)), (x0, .inl (E.2.1, 112, .inl xf)), (h0, .inr (4, [.ref a1, .ref a2])), (a1, .inl (E.2.2.1, 8, .inl st)), (a2, .inl (E.2.2.1, 64, .inl wv)), (c0, .inr (0, [.int (nI bs.length), .int (nI (shutS bs))]))] H := hP
      have hD : va_D A [(u0, .inr (3, [.ref e0, .ref s0, .ref h0, .ref c0])), (e0, .inr (1, [.ref eb, .ref es, .int (nI 0)])), (eb, .inl (E.2.1, 1920, .inl f)), (es, .inl (E.2.2.1, 24, .inl sz)), (s0, .inr (5, [.ref m0, .ref d0, .ref h0, .ref x0])), (m0, .inl (E.2.1, 32, .inl mf)), (d0, .inl (E.2.1, 32, .inl df)), (x0, .inl (E.2.1, 112, .inl xf)), (h0, .inr (4, [.ref a1, .ref a2])), (a1, .inl (E.2.2.1, 8, .inl st)), (a2, .inl (E.2.2.1, 64, .inl wv)), (c0, .inr (0, [.int (nI bs.length), .int (nI (shutS bs))]))] := hD
      refine lv_iload_n hx hb d_Run_branch_68 rfl (lv_at hl 1 rfl) ?_
      refine lv_bipush (v := nI 98) hx hb d_Run_branch_69 (by decide) ?_
      refine j_ne C 97 98 rfl rfl (by decide) (by decide) d_Run_branch_71 rfl (fun hc8 => ?_) (fun hc8 => absurd hc8 (by decide))
      refine lv_iconst (v := nI 0) hx hb d_Run_branch_78 (by decide) ?_
      refine j_eq C 0 0 rfl rfl (by decide) (by decide) d_Run_branch_79 rfl (fun hc9 => ?_) (fun hc9 => absurd hc9 (by decide))
      refine lv_iconst (v := nI 0) hx hb d_Run_branch_86 (by decide) ?_
      refine cal_V (As := [.int (b2 false)]) (rest := []) C lk_Run_75 (c_Br_enter l E c0 bs false (by omega)) (by decide) hP hD hS 11 0 rfl rfl [11] rfl (by decide) hl.1 rfl (Nat.le_of_ble_eq_true rfl) d_Run_branch_87 (fun w1 H locs hp13 hP hD hS => ?_)
      obtain ⟨b10, rfl, hq11⟩ := hp13
      have hP : va_P E.1 clz [(u0, .inr (3, [.ref e0, .ref s0, .ref h0, .ref c0])), (e0, .inr (1, [.ref eb, .ref es, .int (nI 0)])), (eb, .inl (E.2.1, 1920, .inl f)), (es, .inl (E.2.2.1, 24, .inl sz)), (s0, .inr (5, [.ref m0, .ref d0, .ref h0, .ref x0])), (m0, .inl (E.2.1, 32, .inl mf)), (d0, .inl (E.2.1, 32, .inl df)), (x0, .inl (E.2.1, 112, .inl xf)), (h0, .inr (4, [.ref a1, .ref a2])), (a1, .inl (E.2.2.1, 8, .inl st)), (a2, .inl (E.2.2.1, 64, .inl wv)), (c0, .inr (0, [.int (nI (bs.length + 1)), .int (nI b10)]))] H := hP
      have hD : va_D A [(u0, .inr (3, [.ref e0, .ref s0, .ref h0, .ref c0])), (e0, .inr (1, [.ref eb, .ref es, .int (nI 0)])), (eb, .inl (E.2.1, 1920, .inl f)), (es, .inl (E.2.2.1, 24, .inl sz)), (s0, .inr (5, [.ref m0, .ref d0, .ref h0, .ref x0])), (m0, .inl (E.2.1, 32, .inl mf)), (d0, .inl (E.2.1, 32, .inl df)), (x0, .inl (E.2.1, 112, .inl xf)), (h0, .inr (4, [.ref a1, .ref a2])), (a1, .inl (E.2.2.1, 8, .inl st)), (a2, .inl (E.2.2.1, 64, .inl wv)), (c0, .inr (0, [.int (nI (bs.length + 1)), .int (nI b10)]))] := hD
      refine lv_aload_n hx hb d_Run_branch_90 rfl (lv_at hl 0 rfl) ?_
      refine n_get C fg_Run_12 hP 0 rfl rfl d_Run_branch_91 ?_
      refine lv_iconst (v := nI 1) hx hb d_Run_branch_94 (by decide) ?_
      refine cal_I (As := [.int (nI 1)]) (rest := []) C lk_Run_85 (c_El_drop_no l E e0 eb es 0 f sz 1 (by omega) (by omega)) (by decide) hP hD hS 1 1 rfl rfl [1, 2, 3] rfl (by decide) hl.1 rfl (Nat.le_of_ble_eq_true rfl) d_Run_branch_95 (fun r14 w1 H locs hp15 hP hD hS => ?_)
      obtain ⟨rfl, rfl⟩ := hp15
      have hP : va_P E.1 clz [(u0, .inr (3, [.ref e0, .ref s0, .ref h0, .ref c0])), (e0, .inr (1, [.ref eb, .ref es, .int (nI 0)])), (eb, .inl (E.2.1, 1920, .inl f)), (es, .inl (E.2.2.1, 24, .inl sz)), (s0, .inr (5, [.ref m0, .ref d0, .ref h0, .ref x0])), (m0, .inl (E.2.1, 32, .inl mf)), (d0, .inl (E.2.1, 32, .inl df)), (x0, .inl (E.2.1, 112, .inl xf)), (h0, .inr (4, [.ref a1, .ref a2])), (a1, .inl (E.2.2.1, 8, .inl st)), (a2, .inl (E.2.2.1, 64, .inl wv)), (c0, .inr (0, [.int (nI (bs.length + 1)), .int (nI b10)]))] H := hP
      have hD : va_D A [(u0, .inr (3, [.ref e0, .ref s0, .ref h0, .ref c0])), (e0, .inr (1, [.ref eb, .ref es, .int (nI 0)])), (eb, .inl (E.2.1, 1920, .inl f)), (es, .inl (E.2.2.1, 24, .inl sz)), (s0, .inr (5, [.ref m0, .ref d0, .ref h0, .ref x0])), (m0, .inl (E.2.1, 32, .inl mf)), (d0, .inl (E.2.1, 32, .inl df)), (x0, .inl (E.2.1, 112, .inl xf)), (h0, .inr (4, [.ref a1, .ref a2])), (a1, .inl (E.2.2.1, 8, .inl st)), (a2, .inl (E.2.2.1, 64, .inl wv)), (c0, .inr (0, [.int (nI (bs.length + 1)), .int (nI b10)]))] := hD
      exact kret (b2 false) [(u0, .inr (3, [.ref e0, .ref s0, .ref h0, .ref c0])), (e0, .inr (1, [.ref eb, .ref es, .int (nI 0)])), (eb, .inl (E.2.1, 1920, .inl f)), (es, .inl (E.2.2.1, 24, .inl sz)), (s0, .inr (5, [.ref m0, .ref d0, .ref h0, .ref x0])), (m0, .inl (E.2.1, 32, .inl mf)), (d0, .inl (E.2.1, 32, .inl df)), (x0, .inl (E.2.1, 112, .inl xf)), (h0, .inr (4, [.ref a1, .ref a2])), (a1, .inl (E.2.2.1, 8, .inl st)), (a2, .inl (E.2.2.1, 64, .inl wv)), (c0, .inr (0, [.int (nI (bs.length + 1)), .int (nI b10)]))] _ _ _ _ d_Run_branch_98 (⟨_, _, _, rfl, Or.inr ⟨by show (if shutS bs = 0 then _ else _) = _; rw [if_pos hd0], rfl⟩⟩) rfl hP hS
    · have hx1 : sz S.length = nI x.length ∧ x.length ≤ 80 ∧ lay f (S.length * 80) x := rep_top hrep
      have hr0 : rep f sz S := rep_tail hrep
      have hlen : S.length + 1 ≤ 24 := hlen
      have hP : va_P E.1 clz [(u0, .inr (3, [.ref e0, .ref s0, .ref h0, .ref c0])), (e0, .inr (1, [.ref eb, .ref es, .int (nI (S.length + 1))])), (eb, .inl (E.2.1, 1920, .inl f)), (es, .inl (E.2.2.1, 24, .inl sz)), (s0, .inr (5, [.ref m0, .ref d0, .ref h0, .ref x0])), (m0, .inl (E.2.1, 32, .inl mf)), (d0, .inl (E.2.1, 32, .inl df)), (x0, .inl (E.2.1, 112, .inl xf)), (h0, .inr (4, [.ref a1, .ref a2])), (a1, .inl (E.2.2.1, 8, .inl st)), (a2, .inl (E.2.2.1, 64, .inl wv)), (c0, .inr (0, [.int (nI bs.length), .int (nI (shutS bs))]))] H := hP
      have hD : va_D A [(u0, .inr (3, [.ref e0, .ref s0, .ref h0, .ref c0])), (e0, .inr (1, [.ref eb, .ref es, .int (nI (S.length + 1))])), (eb, .inl (E.2.1, 1920, .inl f)), (es, .inl (E.2.2.1, 24, .inl sz)), (s0, .inr (5, [.ref m0, .ref d0, .ref h0, .ref x0])), (m0, .inl (E.2.1, 32, .inl mf)), (d0, .inl (E.2.1, 32, .inl df)), (x0, .inl (E.2.1, 112, .inl xf)), (h0, .inr (4, [.ref a1, .ref a2])), (a1, .inl (E.2.2.1, 8, .inl st)), (a2, .inl (E.2.2.1, 64, .inl wv)), (c0, .inr (0, [.int (nI bs.length), .int (nI (shutS bs))]))] := hD
      refine lv_iload_n hx hb d_Run_branch_0 rfl (lv_at hl 1 rfl) ?_
      refine lv_bipush (v := nI 99) hx hb d_Run_branch_1 (by decide) ?_
      refine j_ne C 97 99 rfl rfl (by decide) (by decide) d_Run_branch_3 rfl (fun hc16 => ?_) (fun hc16 => absurd hc16 (by decide))
      refine lv_iload_n hx hb d_Run_branch_14 rfl (lv_at hl 1 rfl) ?_
      refine lv_bipush (v := nI 100) hx hb d_Run_branch_15 (by decide) ?_
      refine j_ne C 97 100 rfl rfl (by decide) (by decide) d_Run_branch_17 rfl (fun hc17 => ?_) (fun hc17 => absurd hc17 (by decide))
      refine lv_aload_n hx hb d_Run_branch_28 rfl (lv_at hl 0 rfl) ?_
      refine n_get C fg_Run_33 hP 0 rfl rfl d_Run_branch_29 ?_
      refine cal_I (As := []) (rest := []) C lk_Run_50 (c_Br_isDone l E c0 bs.length (shutS bs) (by first | omega | exact Nat.lt_of_le_of_lt (shutS_le _) (by first | omega | (simp only [List.length_cons]; omega)))) (by decide) hP hD hS 11 0 rfl rfl [11] rfl (by decide) hl.1 rfl (Nat.le_of_ble_eq_true rfl) d_Run_branch_32 (fun r18 w1 H locs hp19 hP hD hS => ?_)
      obtain ⟨rfl, rfl⟩ := hp19
      have hP : va_P E.1 clz [(u0, .inr (3, [.ref e0, .ref s0, .ref h0, .ref c0])), (e0, .inr (1, [.ref eb, .ref es, .int (nI (S.length + 1))])), (eb, .inl (E.2.1, 1920, .inl f)), (es, .inl (E.2.2.1, 24, .inl sz)), (s0, .inr (5, [.ref m0, .ref d0, .ref h0, .ref x0])), (m0, .inl (E.2.1, 32, .inl mf)), (d0, .inl (E.2.1, 32, .inl df)), (x0, .inl (E.2.1, 112, .inl xf)), (h0, .inr (4, [.ref a1, .ref a2])), (a1, .inl (E.2.2.1, 8, .inl st)), (a2, .inl (E.2.2.1, 64, .inl wv)), (c0, .inr (0, [.int (nI bs.length), .int (nI (shutS bs))]))] H := hP
      have hD : va_D A [(u0, .inr (3, [.ref e0, .ref s0, .ref h0, .ref c0])), (e0, .inr (1, [.ref eb, .ref es, .int (nI (S.length + 1))])), (eb, .inl (E.2.1, 1920, .inl f)), (es, .inl (E.2.2.1, 24, .inl sz)), (s0, .inr (5, [.ref m0, .ref d0, .ref h0, .ref x0])), (m0, .inl (E.2.1, 32, .inl mf)), (d0, .inl (E.2.1, 32, .inl df)), (x0, .inl (E.2.1, 112, .inl xf)), (h0, .inr (4, [.ref a1, .ref a2])), (a1, .inl (E.2.2.1, 8, .inl st)), (a2, .inl (E.2.2.1, 64, .inl wv)), (c0, .inr (0, [.int (nI bs.length), .int (nI (shutS bs))]))] := hD
      refine tope (z := b2 true) (congrArg b2 (decide_eq_true hd0)) ?_
      refine zb_ne C true rfl d_Run_branch_35 rfl (fun hc20 => ?_) (fun hc20 => absurd hc20 (by simp_all))
      refine lv_aload_n hx hb d_Run_branch_48 rfl (lv_at hl 0 rfl) ?_
      refine n_get C fg_Run_33 hP 0 rfl rfl d_Run_branch_49 ?_
      refine lv_aload_n hx hb d_Run_branch_52 rfl (lv_at hl 0 rfl) ?_
      refine n_get C fg_Run_12 hP 0 rfl rfl d_Run_branch_53 ?_
      refine lv_aload_n hx hb d_Run_branch_56 rfl (lv_at hl 0 rfl) ?_
      refine n_get C fg_Run_12 hP 0 rfl rfl d_Run_branch_57 ?_
      refine n_get C fg_Run_79 hP 1 rfl rfl d_Run_branch_60 ?_
      refine lv_iconst (v := nI 1) hx hb d_Run_branch_63 (by decide) ?_
      refine lv_isub hx hb d_Run_branch_64 ?_
      refine tope (z := nI S.length) ((pk_sub (by omega)).trans (congrArg nI (by omega))) ?_
      refine cal_I (As := [.int (nI S.length)]) (rest := [.ref c0]) C lk_Run_82 (c_El_isTrue l E e0 eb es (S.length + 1) f sz S.length x (by omega) (by omega) hx1.1 hx1.2.1 hx1.2.2) (by decide) hP hD hS 1 1 rfl rfl [1, 2, 3] rfl (by decide) hl.1 rfl (Nat.le_of_ble_eq_true rfl) d_Run_branch_65 (fun r21 w1 H locs hp22 hP hD hS => ?_)
      obtain ⟨rfl, rfl⟩ := hp22
      have hP : va_P E.1 clz [(u0, .inr (3, [.ref e0, .ref s0, .ref h0, .ref c0])), (e0, .inr (1, [.ref eb, .ref es, .int (nI (S.length + 1))])), (eb, .inl (E.2.1, 1920, .inl f)), (es, .inl (E.2.2.1, 24, .inl sz)), (s0, .inr (5, [.ref m0, .ref d0, .ref h0, .ref x0])), (m0, .inl (E.2.1, 32, .inl mf)), (d0, .inl (E.2.1, 32, .inl df)), (x0, .inl (E.2.1, 112, .inl xf)), (h0, .inr (4, [.ref a1, .ref a2])), (a1, .inl (E.2.2.1, 8, .inl st)), (a2, .inl (E.2.2.1, 64, .inl wv)), (c0, .inr (0, [.int (nI bs.length), .int (nI (shutS bs))]))] H := hP
      have hD : va_D A [(u0, .inr (3, [.ref e0, .ref s0, .ref h0, .ref c0])), (e0, .inr (1, [.ref eb, .ref es, .int (nI (S.length + 1))])), (eb, .inl (E.2.1, 1920, .inl f)), (es, .inl (E.2.2.1, 24, .inl sz)), (s0, .inr (5, [.ref m0, .ref d0, .ref h0, .ref x0])), (m0, .inl (E.2.1, 32, .inl mf)), (d0, .inl (E.2.1, 32, .inl df)), (x0, .inl (E.2.1, 112, .inl xf)), (h0, .inr (4, [.ref a1, .ref a2])), (a1, .inl (E.2.2.1, 8, .inl st)), (a2, .inl (E.2.2.1, 64, .inl wv)), (c0, .inr (0, [.int (nI bs.length), .int (nI (shutS bs))]))] := hD
      refine lv_iload_n hx hb d_Run_branch_68 rfl (lv_at hl 1 rfl) ?_
      refine lv_bipush (v := nI 98) hx hb d_Run_branch_69 (by decide) ?_
      refine j_ne C 97 98 rfl rfl (by decide) (by decide) d_Run_branch_71 rfl (fun hc23 => ?_) (fun hc23 => absurd hc23 (by decide))
      refine lv_iconst (v := nI 0) hx hb d_Run_branch_78 (by decide) ?_
      rcases Bool.eq_false_or_eq_true (isT x) with hT | hT
      · rw [hT]
        refine j_eq C 1 0 rfl rfl (by decide) (by decide) d_Run_branch_79 rfl (fun hc24 => absurd hc24 (by decide)) (fun hc24 => ?_)
        refine lv_iconst (v := nI 1) hx hb d_Run_branch_82 (by decide) ?_
        refine lv_goto hx hb d_Run_branch_83 rfl ?_
        refine cal_V (As := [.int (b2 true)]) (rest := []) C lk_Run_75 (c_Br_enter l E c0 bs true (by omega)) (by decide) hP hD hS 11 0 rfl rfl [11] rfl (by decide) hl.1 rfl (Nat.le_of_ble_eq_true rfl) d_Run_branch_87 (fun w1 H locs hp28 hP hD hS => ?_)
        obtain ⟨b25, rfl, hq26⟩ := hp28
        have hP : va_P E.1 clz [(u0, .inr (3, [.ref e0, .ref s0, .ref h0, .ref c0])), (e0, .inr (1, [.ref eb, .ref es, .int (nI (S.length + 1))])), (eb, .inl (E.2.1, 1920, .inl f)), (es, .inl (E.2.2.1, 24, .inl sz)), (s0, .inr (5, [.ref m0, .ref d0, .ref h0, .ref x0])), (m0, .inl (E.2.1, 32, .inl mf)), (d0, .inl (E.2.1, 32, .inl df)), (x0, .inl (E.2.1, 112, .inl xf)), (h0, .inr (4, [.ref a1, .ref a2])), (a1, .inl (E.2.2.1, 8, .inl st)), (a2, .inl (E.2.2.1, 64, .inl wv)), (c0, .inr (0, [.int (nI (bs.length + 1)), .int (nI b25)]))] H := hP
        have hD : va_D A [(u0, .inr (3, [.ref e0, .ref s0, .ref h0, .ref c0])), (e0, .inr (1, [.ref eb, .ref es, .int (nI (S.length + 1))])), (eb, .inl (E.2.1, 1920, .inl f)), (es, .inl (E.2.2.1, 24, .inl sz)), (s0, .inr (5, [.ref m0, .ref d0, .ref h0, .ref x0])), (m0, .inl (E.2.1, 32, .inl mf)), (d0, .inl (E.2.1, 32, .inl df)), (x0, .inl (E.2.1, 112, .inl xf)), (h0, .inr (4, [.ref a1, .ref a2])), (a1, .inl (E.2.2.1, 8, .inl st)), (a2, .inl (E.2.2.1, 64, .inl wv)), (c0, .inr (0, [.int (nI (bs.length + 1)), .int (nI b25)]))] := hD
        refine lv_aload_n hx hb d_Run_branch_90 rfl (lv_at hl 0 rfl) ?_
        refine n_get C fg_Run_12 hP 0 rfl rfl d_Run_branch_91 ?_
        refine lv_iconst (v := nI 1) hx hb d_Run_branch_94 (by decide) ?_
        refine cal_I (As := [.int (nI 1)]) (rest := []) C lk_Run_85 (c_El_drop l E e0 eb es (S.length + 1) f sz 1 (by omega) (by omega)) (by decide) hP hD hS 1 1 rfl rfl [1, 2, 3] rfl (by decide) hl.1 rfl (Nat.le_of_ble_eq_true rfl) d_Run_branch_95 (fun r29 w1 H locs hp30 hP hD hS => ?_)
        obtain ⟨rfl, rfl⟩ := hp30
        have hP : va_P E.1 clz [(u0, .inr (3, [.ref e0, .ref s0, .ref h0, .ref c0])), (e0, .inr (1, [.ref eb, .ref es, .int (nI ((S.length + 1) - 1))])), (eb, .inl (E.2.1, 1920, .inl f)), (es, .inl (E.2.2.1, 24, .inl sz)), (s0, .inr (5, [.ref m0, .ref d0, .ref h0, .ref x0])), (m0, .inl (E.2.1, 32, .inl mf)), (d0, .inl (E.2.1, 32, .inl df)), (x0, .inl (E.2.1, 112, .inl xf)), (h0, .inr (4, [.ref a1, .ref a2])), (a1, .inl (E.2.2.1, 8, .inl st)), (a2, .inl (E.2.2.1, 64, .inl wv)), (c0, .inr (0, [.int (nI (bs.length + 1)), .int (nI b25)]))] H := hP
        have hD : va_D A [(u0, .inr (3, [.ref e0, .ref s0, .ref h0, .ref c0])), (e0, .inr (1, [.ref eb, .ref es, .int (nI ((S.length + 1) - 1))])), (eb, .inl (E.2.1, 1920, .inl f)), (es, .inl (E.2.2.1, 24, .inl sz)), (s0, .inr (5, [.ref m0, .ref d0, .ref h0, .ref x0])), (m0, .inl (E.2.1, 32, .inl mf)), (d0, .inl (E.2.1, 32, .inl df)), (x0, .inl (E.2.1, 112, .inl xf)), (h0, .inr (4, [.ref a1, .ref a2])), (a1, .inl (E.2.2.1, 8, .inl st)), (a2, .inl (E.2.2.1, 64, .inl wv)), (c0, .inr (0, [.int (nI (bs.length + 1)), .int (nI b25)]))] := hD
        exact kret (b2 true) [(u0, .inr (3, [.ref e0, .ref s0, .ref h0, .ref c0])), (e0, .inr (1, [.ref eb, .ref es, .int (nI ((S.length + 1) - 1))])), (eb, .inl (E.2.1, 1920, .inl f)), (es, .inl (E.2.2.1, 24, .inl sz)), (s0, .inr (5, [.ref m0, .ref d0, .ref h0, .ref x0])), (m0, .inl (E.2.1, 32, .inl mf)), (d0, .inl (E.2.1, 32, .inl df)), (x0, .inl (E.2.1, 112, .inl xf)), (h0, .inr (4, [.ref a1, .ref a2])), (a1, .inl (E.2.2.1, 8, .inl st)), (a2, .inl (E.2.2.1, 64, .inl wv)), (c0, .inr (0, [.int (nI (bs.length + 1)), .int (nI b25)]))] _ _ _ _ d_Run_branch_98 (⟨_, _, _, rfl, Or.inl ⟨true :: bs, S, by show (if shutS bs = 0 then some ((isT x != decide (97 = 98)) :: bs, S) else _) = _; rw [if_pos hd0, hT]; rfl, rfl, by omega, rfl, hq26, hr0, by omega⟩⟩) rfl hP hS
      · rw [hT]
        refine j_eq C 0 0 rfl rfl (by decide) (by decide) d_Run_branch_79 rfl (fun hc31 => ?_) (fun hc31 => absurd hc31 (by decide))
        refine lv_iconst (v := nI 0) hx hb d_Run_branch_86 (by decide) ?_
        refine cal_V (As := [.int (b2 false)]) (rest := []) C lk_Run_75 (c_Br_enter l E c0 bs false (by omega)) (by decide) hP hD hS 11 0 rfl rfl [11] rfl (by decide) hl.1 rfl (Nat.le_of_ble_eq_true rfl) d_Run_branch_87 (fun w1 H locs hp35 hP hD hS => ?_)
        obtain ⟨b32, rfl, hq33⟩ := hp35
        have hP : va_P E.1 clz [(u0, .inr (3, [.ref e0, .ref s0, .ref h0, .ref c0])), (e0, .inr (1, [.ref eb, .ref es, .int (nI (S.length + 1))])), (eb, .inl (E.2.1, 1920, .inl f)), (es, .inl (E.2.2.1, 24, .inl sz)), (s0, .inr (5, [.ref m0, .ref d0, .ref h0, .ref x0])), (m0, .inl (E.2.1, 32, .inl mf)), (d0, .inl (E.2.1, 32, .inl df)), (x0, .inl (E.2.1, 112, .inl xf)), (h0, .inr (4, [.ref a1, .ref a2])), (a1, .inl (E.2.2.1, 8, .inl st)), (a2, .inl (E.2.2.1, 64, .inl wv)), (c0, .inr (0, [.int (nI (bs.length + 1)), .int (nI b32)]))] H := hP
        have hD : va_D A [(u0, .inr (3, [.ref e0, .ref s0, .ref h0, .ref c0])), (e0, .inr (1, [.ref eb, .ref es, .int (nI (S.length + 1))])), (eb, .inl (E.2.1, 1920, .inl f)), (es, .inl (E.2.2.1, 24, .inl sz)), (s0, .inr (5, [.ref m0, .ref d0, .ref h0, .ref x0])), (m0, .inl (E.2.1, 32, .inl mf)), (d0, .inl (E.2.1, 32, .inl df)), (x0, .inl (E.2.1, 112, .inl xf)), (h0, .inr (4, [.ref a1, .ref a2])), (a1, .inl (E.2.2.1, 8, .inl st)), (a2, .inl (E.2.2.1, 64, .inl wv)), (c0, .inr (0, [.int (nI (bs.length + 1)), .int (nI b32)]))] := hD
        refine lv_aload_n hx hb d_Run_branch_90 rfl (lv_at hl 0 rfl) ?_
        refine n_get C fg_Run_12 hP 0 rfl rfl d_Run_branch_91 ?_
        refine lv_iconst (v := nI 1) hx hb d_Run_branch_94 (by decide) ?_
        refine cal_I (As := [.int (nI 1)]) (rest := []) C lk_Run_85 (c_El_drop l E e0 eb es (S.length + 1) f sz 1 (by omega) (by omega)) (by decide) hP hD hS 1 1 rfl rfl [1, 2, 3] rfl (by decide) hl.1 rfl (Nat.le_of_ble_eq_true rfl) d_Run_branch_95 (fun r36 w1 H locs hp37 hP hD hS => ?_)
        obtain ⟨rfl, rfl⟩ := hp37
        have hP : va_P E.1 clz [(u0, .inr (3, [.ref e0, .ref s0, .ref h0, .ref c0])), (e0, .inr (1, [.ref eb, .ref es, .int (nI ((S.length + 1) - 1))])), (eb, .inl (E.2.1, 1920, .inl f)), (es, .inl (E.2.2.1, 24, .inl sz)), (s0, .inr (5, [.ref m0, .ref d0, .ref h0, .ref x0])), (m0, .inl (E.2.1, 32, .inl mf)), (d0, .inl (E.2.1, 32, .inl df)), (x0, .inl (E.2.1, 112, .inl xf)), (h0, .inr (4, [.ref a1, .ref a2])), (a1, .inl (E.2.2.1, 8, .inl st)), (a2, .inl (E.2.2.1, 64, .inl wv)), (c0, .inr (0, [.int (nI (bs.length + 1)), .int (nI b32)]))] H := hP
        have hD : va_D A [(u0, .inr (3, [.ref e0, .ref s0, .ref h0, .ref c0])), (e0, .inr (1, [.ref eb, .ref es, .int (nI ((S.length + 1) - 1))])), (eb, .inl (E.2.1, 1920, .inl f)), (es, .inl (E.2.2.1, 24, .inl sz)), (s0, .inr (5, [.ref m0, .ref d0, .ref h0, .ref x0])), (m0, .inl (E.2.1, 32, .inl mf)), (d0, .inl (E.2.1, 32, .inl df)), (x0, .inl (E.2.1, 112, .inl xf)), (h0, .inr (4, [.ref a1, .ref a2])), (a1, .inl (E.2.2.1, 8, .inl st)), (a2, .inl (E.2.2.1, 64, .inl wv)), (c0, .inr (0, [.int (nI (bs.length + 1)), .int (nI b32)]))] := hD
        exact kret (b2 true) [(u0, .inr (3, [.ref e0, .ref s0, .ref h0, .ref c0])), (e0, .inr (1, [.ref eb, .ref es, .int (nI ((S.length + 1) - 1))])), (eb, .inl (E.2.1, 1920, .inl f)), (es, .inl (E.2.2.1, 24, .inl sz)), (s0, .inr (5, [.ref m0, .ref d0, .ref h0, .ref x0])), (m0, .inl (E.2.1, 32, .inl mf)), (d0, .inl (E.2.1, 32, .inl df)), (x0, .inl (E.2.1, 112, .inl xf)), (h0, .inr (4, [.ref a1, .ref a2])), (a1, .inl (E.2.2.1, 8, .inl st)), (a2, .inl (E.2.2.1, 64, .inl wv)), (c0, .inr (0, [.int (nI (bs.length + 1)), .int (nI b32)]))] _ _ _ _ d_Run_branch_98 (⟨_, _, _, rfl, Or.inl ⟨false :: bs, S, by show (if shutS bs = 0 then some ((isT x != decide (97 = 98)) :: bs, S) else _) = _; rw [if_pos hd0, hT]; rfl, rfl, by omega, rfl, hq33, hr0, by omega⟩⟩) rfl hP hS
  · refine lv_iload_n hx hb d_Run_branch_0 rfl (lv_at hl 1 rfl) ?_
    refine lv_bipush (v := nI 99) hx hb d_Run_branch_1 (by decide) ?_
    refine j_ne C 97 99 rfl rfl (by decide) (by decide) d_Run_branch_3 rfl (fun hc38 => ?_) (fun hc38 => absurd hc38 (by decide))
    refine lv_iload_n hx hb d_Run_branch_14 rfl (lv_at hl 1 rfl) ?_
    refine lv_bipush (v := nI 100) hx hb d_Run_branch_15 (by decide) ?_
    refine j_ne C 97 100 rfl rfl (by decide) (by decide) d_Run_branch_17 rfl (fun hc39 => ?_) (fun hc39 => absurd hc39 (by decide))
    refine lv_aload_n hx hb d_Run_branch_28 rfl (lv_at hl 0 rfl) ?_
    refine n_get C fg_Run_33 hP 0 rfl rfl d_Run_branch_29 ?_
    refine cal_I (As := []) (rest := []) C lk_Run_50 (c_Br_isDone l E c0 bs.length (shutS bs) (by first | omega | exact Nat.lt_of_le_of_lt (shutS_le _) (by first | omega | (simp only [List.length_cons]; omega)))) (by decide) hP hD hS 11 0 rfl rfl [11] rfl (by decide) hl.1 rfl (Nat.le_of_ble_eq_true rfl) d_Run_branch_32 (fun r40 w1 H locs hp41 hP hD hS => ?_)
    obtain ⟨rfl, rfl⟩ := hp41
    have hP : va_P E.1 clz [(u0, .inr (3, [.ref e0, .ref s0, .ref h0, .ref c0])), (e0, .inr (1, [.ref eb, .ref es, .int (nI S.length)])), (eb, .inl (E.2.1, 1920, .inl f)), (es, .inl (E.2.2.1, 24, .inl sz)), (s0, .inr (5, [.ref m0, .ref d0, .ref h0, .ref x0])), (m0, .inl (E.2.1, 32, .inl mf)), (d0, .inl (E.2.1, 32, .inl df)), (x0, .inl (E.2.1, 112, .inl xf)), (h0, .inr (4, [.ref a1, .ref a2])), (a1, .inl (E.2.2.1, 8, .inl st)), (a2, .inl (E.2.2.1, 64, .inl wv)), (c0, .inr (0, [.int (nI bs.length), .int (nI (shutS bs))]))] H := hP
    have hD : va_D A [(u0, .inr (3, [.ref e0, .ref s0, .ref h0, .ref c0])), (e0, .inr (1, [.ref eb, .ref es, .int (nI S.length)])), (eb, .inl (E.2.1, 1920, .inl f)), (es, .inl (E.2.2.1, 24, .inl sz)), (s0, .inr (5, [.ref m0, .ref d0, .ref h0, .ref x0])), (m0, .inl (E.2.1, 32, .inl mf)), (d0, .inl (E.2.1, 32, .inl df)), (x0, .inl (E.2.1, 112, .inl xf)), (h0, .inr (4, [.ref a1, .ref a2])), (a1, .inl (E.2.2.1, 8, .inl st)), (a2, .inl (E.2.2.1, 64, .inl wv)), (c0, .inr (0, [.int (nI bs.length), .int (nI (shutS bs))]))] := hD
    refine tope (z := b2 false) (congrArg b2 (decide_eq_false (by omega))) ?_
    refine zb_ne C false rfl d_Run_branch_35 rfl (fun hc42 => absurd hc42 (by simp_all)) (fun hc42 => ?_)
    refine lv_aload_n hx hb d_Run_branch_38 rfl (lv_at hl 0 rfl) ?_
    refine n_get C fg_Run_33 hP 0 rfl rfl d_Run_branch_39 ?_
    refine lv_iconst (v := nI 0) hx hb d_Run_branch_42 (by decide) ?_
    refine cal_V (As := [.int (b2 false)]) (rest := []) C lk_Run_75 (c_Br_enter l E c0 bs false (by omega)) (by decide) hP hD hS 11 0 rfl rfl [11] rfl (by decide) hl.1 rfl (Nat.le_of_ble_eq_true rfl) d_Run_branch_43 (fun w1 H locs hp46 hP hD hS => ?_)
    obtain ⟨b43, rfl, hq44⟩ := hp46
    have hP : va_P E.1 clz [(u0, .inr (3, [.ref e0, .ref s0, .ref h0, .ref c0])), (e0, .inr (1, [.ref eb, .ref es, .int (nI S.length)])), (eb, .inl (E.2.1, 1920, .inl f)), (es, .inl (E.2.2.1, 24, .inl sz)), (s0, .inr (5, [.ref m0, .ref d0, .ref h0, .ref x0])), (m0, .inl (E.2.1, 32, .inl mf)), (d0, .inl (E.2.1, 32, .inl df)), (x0, .inl (E.2.1, 112, .inl xf)), (h0, .inr (4, [.ref a1, .ref a2])), (a1, .inl (E.2.2.1, 8, .inl st)), (a2, .inl (E.2.2.1, 64, .inl wv)), (c0, .inr (0, [.int (nI (bs.length + 1)), .int (nI b43)]))] H := hP
    have hD : va_D A [(u0, .inr (3, [.ref e0, .ref s0, .ref h0, .ref c0])), (e0, .inr (1, [.ref eb, .ref es, .int (nI S.length)])), (eb, .inl (E.2.1, 1920, .inl f)), (es, .inl (E.2.2.1, 24, .inl sz)), (s0, .inr (5, [.ref m0, .ref d0, .ref h0, .ref x0])), (m0, .inl (E.2.1, 32, .inl mf)), (d0, .inl (E.2.1, 32, .inl df)), (x0, .inl (E.2.1, 112, .inl xf)), (h0, .inr (4, [.ref a1, .ref a2])), (a1, .inl (E.2.2.1, 8, .inl st)), (a2, .inl (E.2.2.1, 64, .inl wv)), (c0, .inr (0, [.int (nI (bs.length + 1)), .int (nI b43)]))] := hD
    refine lv_iconst (v := nI 1) hx hb d_Run_branch_46 (by decide) ?_
    exact kret (nI 1) [(u0, .inr (3, [.ref e0, .ref s0, .ref h0, .ref c0])), (e0, .inr (1, [.ref eb, .ref es, .int (nI S.length)])), (eb, .inl (E.2.1, 1920, .inl f)), (es, .inl (E.2.2.1, 24, .inl sz)), (s0, .inr (5, [.ref m0, .ref d0, .ref h0, .ref x0])), (m0, .inl (E.2.1, 32, .inl mf)), (d0, .inl (E.2.1, 32, .inl df)), (x0, .inl (E.2.1, 112, .inl xf)), (h0, .inr (4, [.ref a1, .ref a2])), (a1, .inl (E.2.2.1, 8, .inl st)), (a2, .inl (E.2.2.1, 64, .inl wv)), (c0, .inr (0, [.int (nI (bs.length + 1)), .int (nI b43)]))] _ _ _ _ d_Run_branch_47 (⟨_, _, _, rfl, Or.inl ⟨false :: bs, S, by show (if shutS bs = 0 then _ else _) = _; rw [if_neg (by omega)], rfl, rfl, rfl, hq44, hrep, hlen⟩⟩) rfl hP hS

set_option maxHeartbeats 4000000 in
set_option maxRecDepth 100000 in
theorem c_br_98 (l : Launch) (E : En) (u0 e0 eb es s0 m0 d0 x0 h0 a1 a2 c0 : Nat) (mf f sz df xf st wv : Nat → Int32) (S : Stk) (bs : List Bool) (hrep : rep f sz S) (hlen : S.length ≤ 24) (hbs : bs.length ≤ 90) : CtI l y_Run_branch b_Run_branch 2 .boolean (rmd 2) E [.ref u0, .int (nI 98)] [(u0, .inr (3, [.ref e0, .ref s0, .ref h0, .ref c0])), (e0, .inr (1, [.ref eb, .ref es, .int (nI S.length)])), (eb, .inl (E.2.1, 1920, .inl f)), (es, .inl (E.2.2.1, 24, .inl sz)), (s0, .inr (5, [.ref m0, .ref d0, .ref h0, .ref x0])), (m0, .inl (E.2.1, 32, .inl mf)), (d0, .inl (E.2.1, 32, .inl df)), (x0, .inl (E.2.1, 112, .inl xf)), (h0, .inr (4, [.ref a1, .ref a2])), (a1, .inl (E.2.2.1, 8, .inl st)), (a2, .inl (E.2.2.1, 64, .inl wv)), (c0, .inr (0, [.int (nI bs.length), .int (nI (shutS bs))]))] (brP E u0 e0 eb es s0 m0 d0 x0 h0 a1 a2 c0 mf f sz df xf st wv (brS 98 bs S)) := by
  refine CtI.of (by decide) (Nat.le_of_ble_eq_true rfl) (brP_nar) ?_
  intro p e s m args below meth c A Q H locs ls C hP hD hS hl kret
  have hx := C.1
  have hb := C.2.1
  have hl : lv_has ls 2 [(0, .ref u0), (1, .int (nI 98))] := hl
  have hbl := shutS_le bs
  rcases Nat.eq_zero_or_pos (shutS bs) with hd0 | hd0
  · rcases S with _ | ⟨x, S⟩
    · have hP : va_P E.1 clz [(u0, .inr (3, [.ref e0, .ref s0, .ref h0, .ref c0])), (e0, .inr (1, [.ref eb, .ref es, .int (nI 0)])), (eb, .inl (E.2.1, 1920, .inl f)), (es, .inl (E.2.2.1, 24, .inl sz)), (s0, .inr (5, [.ref m0, .ref d0, .ref h0, .ref x0])), (m0, .inl (E.2.1, 32, .inl mf)), (d0, .inl (E.2.1, 32, .inl df)), (x0, .inl (E.2.1, 112, .inl xf)), (h0, .inr (4, [.ref a1, .ref a2])), (a1, .inl (E.2.2.1, 8, .inl st)), (a2, .inl (E.2.2.1, 64, .inl wv)), (c0, .inr (0, [.int (nI bs.length), .int (nI (shutS bs))]))] H := hP
      have hD : va_D A [(u0, .inr (3, [.ref e0, .ref s0, .ref h0, .ref c0])), (e0, .inr (1, [.ref eb, .ref es, .int (nI 0)])), (eb, .inl (E.2.1, 1920, .inl f)), (es, .inl (E.2.2.1, 24, .inl sz)), (s0, .inr (5, [.ref m0, .ref d0, .ref h0, .ref x0])), (m0, .inl (E.2.1, 32, .inl mf)), (d0, .inl (E.2.1, 32, .inl df)), (x0, .inl (E.2.1, 112, .inl xf)), (h0, .inr (4, [.ref a1, .ref a2])), (a1, .inl (E.2.2.1, 8, .inl st)), (a2, .inl (E.2.2.1, 64, .inl wv)), (c0, .inr (0, [.int (nI bs.length), .int (nI (shutS bs))]))] := hD
      refine lv_iload_n hx hb d_Run_branch_0 rfl (lv_at hl 1 rfl) ?_
      refine lv_bipush (v := nI 99) hx hb d_Run_branch_1 (by decide) ?_
      refine j_ne C 98 99 rfl rfl (by decide) (by decide) d_Run_branch_3 rfl (fun hc1 => ?_) (fun hc1 => absurd hc1 (by decide))
      refine lv_iload_n hx hb d_Run_branch_14 rfl (lv_at hl 1 rfl) ?_
      refine lv_bipush (v := nI 100) hx hb d_Run_branch_15 (by decide) ?_
      refine j_ne C 98 100 rfl rfl (by decide) (by decide) d_Run_branch_17 rfl (fun hc2 => ?_) (fun hc2 => absurd hc2 (by decide))
      refine lv_aload_n hx hb d_Run_branch_28 rfl (lv_at hl 0 rfl) ?_
      refine n_get C fg_Run_33 hP 0 rfl rfl d_Run_branch_29 ?_
      refine cal_I (As := []) (rest := []) C lk_Run_50 (c_Br_isDone l E c0 bs.length (shutS bs) (by first | omega | exact Nat.lt_of_le_of_lt (shutS_le _) (by first | omega | (simp only [List.length_cons]; omega)))) (by decide) hP hD hS 11 0 rfl rfl [11] rfl (by decide) hl.1 rfl (Nat.le_of_ble_eq_true rfl) d_Run_branch_32 (fun r3 w1 H locs hp4 hP hD hS => ?_)
      obtain ⟨rfl, rfl⟩ := hp4
      have hP : va_P E.1 clz [(u0, .inr (3, [.ref e0, .ref s0, .ref h0, .ref c0])), (e0, .inr (1, [.ref eb, .ref es, .int (nI 0)])), (eb, .inl (E.2.1, 1920, .inl f)), (es, .inl (E.2.2.1, 24, .inl sz)), (s0, .inr (5, [.ref m0, .ref d0, .ref h0, .ref x0])), (m0, .inl (E.2.1, 32, .inl mf)), (d0, .inl (E.2.1, 32, .inl df)), (x0, .inl (E.2.1, 112, .inl xf)), (h0, .inr (4, [.ref a1, .ref a2])), (a1, .inl (E.2.2.1, 8, .inl st)), (a2, .inl (E.2.2.1, 64, .inl wv)), (c0, .inr (0, [.int (nI bs.length), .int (nI (shutS bs))]))] H := hP
      have hD : va_D A [(u0, .inr (3, [.ref e0, .ref s0, .ref h0, .ref c0])), (e0, .inr (1, [.ref eb, .ref es, .int (nI 0)])), (eb, .inl (E.2.1, 1920, .inl f)), (es, .inl (E.2.2.1, 24, .inl sz)), (s0, .inr (5, [.ref m0, .ref d0, .ref h0, .ref x0])), (m0, .inl (E.2.1, 32, .inl mf)), (d0, .inl (E.2.1, 32, .inl df)), (x0, .inl (E.2.1, 112, .inl xf)), (h0, .inr (4, [.ref a1, .ref a2])), (a1, .inl (E.2.2.1, 8, .inl st)), (a2, .inl (E.2.2.1, 64, .inl wv)), (c0, .inr (0, [.int (nI bs.length), .int (nI (shutS bs))]))] := hD
      refine tope (z := b2 true) (congrArg b2 (decide_eq_true hd0)) ?_
      refine zb_ne C true rfl d_Run_branch_35 rfl (fun hc5 => ?_) (fun hc5 => absurd hc5 (by simp_all))
      refine lv_aload_n hx hb d_Run_branch_48 rfl (lv_at hl 0 rfl) ?_
      refine n_get C fg_Run_33 hP 0 rfl rfl d_Run_branch_49 ?_
      refine lv_aload_n hx hb d_Run_branch_52 rfl (lv_at hl 0 rfl) ?_
      refine n_get C fg_Run_12 hP 0 rfl rfl d_Run_branch_53 ?_
      refine lv_aload_n hx hb d_Run_branch_56 rfl (lv_at hl 0 rfl) ?_
      refine n_get C fg_Run_12 hP 0 rfl rfl d_Run_branch_57 ?_
      refine n_get C fg_Run_79 hP 1 rfl rfl d_Run_branch_60 ?_
      refine lv_iconst (v := nI 1) hx hb d_Run_branch_63 (by decide) ?_
      refine lv_isub hx hb d_Run_branch_64 ?_
      refine tope (z := (-1)) (by decide) ?_
      refine cal_I (As := [.int (-1)]) (rest := [.ref c0]) C lk_Run_82 (c_El_isTrue_no l E e0 eb es 0 f sz (-1) (by first | exact hasB_m1 _ | exact hasB_m2 _)) (by decide) hP hD hS 1 1 rfl rfl [1, 2, 3] rfl (by decide) hl.1 rfl (Nat.le_of_ble_eq_true rfl) d_Run_branch_65 (fun r6 w1 H locs hp7 hP hD hS => ?_)
      obtain ⟨rfl, rfl⟩ := hp7
      have hP : va_P E.1 clz [(u0, .inr (3, [.ref e0, .ref s0, .ref h0, .ref c0])), (e0, .inr (1, [.ref eb, .ref es, .int (nI 0)])), (eb, .inl (E.2.1, 1920, .inl f)), (es, .inl (E.2.2.1, 24, .inl sz)), (s0, .inr (5, [.ref m0, .ref d0, .ref h0, .ref x0])), (m0, .inl (E.2.1, 32, .inl mf)), (d0, .inl (E.2.1, 32, .inl df)), (x0, .inl (E.2.1, 112, .inl xf)), (h0, .inr (4, [.ref a1, .ref a2])), (a1, .inl (E.2.2.1, 8, .inl st)), (a2, .inl (E.2.2.1, 64, .inl wv)), (c0, .inr (0, [.int (nI bs.length), .int (nI (shutS bs))]))] H := hP
      have hD : va_D A [(u0, .inr (3, [.ref e0, .ref s0, .ref h0, .ref c0])), (e0, .inr (1, [.ref eb, .ref es, .int (nI 0)])), (eb, .inl (E.2.1, 1920, .inl f)), (es, .inl (E.2.2.1, 24, .inl sz)), (s0, .inr (5, [.ref m0, .ref d0, .ref h0, .ref x0])), (m0, .inl (E.2.1, 32, .inl mf)), (d0, .inl (E.2.1, 32, .inl df)), (x0, .inl (E.2.1, 112, .inl xf)), (h0, .inr (4, [.ref a1, .ref a2])), (a1, .inl (E.2.2.1, 8, .inl st)), (a2, .inl (E.2.2.1, 64, .inl wv)), (c0, .inr (0, [.int (nI bs.length), .int (nI (shutS bs))]))] := hD
      refine lv_iload_n hx hb d_Run_branch_68 rfl (lv_at hl 1 rfl) ?_
      refine lv_bipush (v := nI 98) hx hb d_Run_branch_69 (by decide) ?_
      refine j_ne C 98 98 rfl rfl (by decide) (by decide) d_Run_branch_71 rfl (fun hc8 => absurd hc8 (by decide)) (fun hc8 => ?_)
      refine lv_iconst (v := nI 1) hx hb d_Run_branch_74 (by decide) ?_
      refine lv_goto hx hb d_Run_branch_75 rfl ?_
      refine j_eq C 0 1 rfl rfl (by decide) (by decide) d_Run_branch_79 rfl (fun hc9 => absurd hc9 (by decide)) (fun hc9 => ?_)
      refine lv_iconst (v := nI 1) hx hb d_Run_branch_82 (by decide) ?_
      refine lv_goto hx hb d_Run_branch_83 rfl ?_
      refine cal_V (As := [.int (b2 true)]) (rest := []) C lk_Run_75 (c_Br_enter l E c0 bs true (by omega)) (by decide) hP hD hS 11 0 rfl rfl [11] rfl (by decide) hl.1 rfl (Nat.le_of_ble_eq_true rfl) d_Run_branch_87 (fun w1 H locs hp13 hP hD hS => ?_)
      obtain ⟨b10, rfl, hq11⟩ := hp13
      have hP : va_P E.1 clz [(u0, .inr (3, [.ref e0, .ref s0, .ref h0, .ref c0])), (e0, .inr (1, [.ref eb, .ref es, .int (nI 0)])), (eb, .inl (E.2.1, 1920, .inl f)), (es, .inl (E.2.2.1, 24, .inl sz)), (s0, .inr (5, [.ref m0, .ref d0, .ref h0, .ref x0])), (m0, .inl (E.2.1, 32, .inl mf)), (d0, .inl (E.2.1, 32, .inl df)), (x0, .inl (E.2.1, 112, .inl xf)), (h0, .inr (4, [.ref a1, .ref a2])), (a1, .inl (E.2.2.1, 8, .inl st)), (a2, .inl (E.2.2.1, 64, .inl wv)), (c0, .inr (0, [.int (nI (bs.length + 1)), .int (nI b10)]))] H := hP
      have hD : va_D A [(u0, .inr (3, [.ref e0, .ref s0, .ref h0, .ref c0])), (e0, .inr (1, [.ref eb, .ref es, .int (nI 0)])), (eb, .inl (E.2.1, 1920, .inl f)), (es, .inl (E.2.2.1, 24, .inl sz)), (s0, .inr (5, [.ref m0, .ref d0, .ref h0, .ref x0])), (m0, .inl (E.2.1, 32, .inl mf)), (d0, .inl (E.2.1, 32, .inl df)), (x0, .inl (E.2.1, 112, .inl xf)), (h0, .inr (4, [.ref a1, .ref a2])), (a1, .inl (E.2.2.1, 8, .inl st)), (a2, .inl (E.2.2.1, 64, .inl wv)), (c0, .inr (0, [.int (nI (bs.length + 1)), .int (nI b10)]))] := hD
      refine lv_aload_n hx hb d_Run_branch_90 rfl (lv_at hl 0 rfl) ?_
      refine n_get C fg_Run_12 hP 0 rfl rfl d_Run_branch_91 ?_
      refine lv_iconst (v := nI 1) hx hb d_Run_branch_94 (by decide) ?_
      refine cal_I (As := [.int (nI 1)]) (rest := []) C lk_Run_85 (c_El_drop_no l E e0 eb es 0 f sz 1 (by omega) (by omega)) (by decide) hP hD hS 1 1 rfl rfl [1, 2, 3] rfl (by decide) hl.1 rfl (Nat.le_of_ble_eq_true rfl) d_Run_branch_95 (fun r14 w1 H locs hp15 hP hD hS => ?_)
      obtain ⟨rfl, rfl⟩ := hp15
      have hP : va_P E.1 clz [(u0, .inr (3, [.ref e0, .ref s0, .ref h0, .ref c0])), (e0, .inr (1, [.ref eb, .ref es, .int (nI 0)])), (eb, .inl (E.2.1, 1920, .inl f)), (es, .inl (E.2.2.1, 24, .inl sz)), (s0, .inr (5, [.ref m0, .ref d0, .ref h0, .ref x0])), (m0, .inl (E.2.1, 32, .inl mf)), (d0, .inl (E.2.1, 32, .inl df)), (x0, .inl (E.2.1, 112, .inl xf)), (h0, .inr (4, [.ref a1, .ref a2])), (a1, .inl (E.2.2.1, 8, .inl st)), (a2, .inl (E.2.2.1, 64, .inl wv)), (c0, .inr (0, [.int (nI (bs.length + 1)), .int (nI b10)]))] H := hP
      have hD : va_D A [(u0, .inr (3, [.ref e0, .ref s0, .ref h0, .ref c0])), (e0, .inr (1, [.ref eb, .ref es, .int (nI 0)])), (eb, .inl (E.2.1, 1920, .inl f)), (es, .inl (E.2.2.1, 24, .inl sz)), (s0, .inr (5, [.ref m0, .ref d0, .ref h0, .ref x0])), (m0, .inl (E.2.1, 32, .inl mf)), (d0, .inl (E.2.1, 32, .inl df)), (x0, .inl (E.2.1, 112, .inl xf)), (h0, .inr (4, [.ref a1, .ref a2])), (a1, .inl (E.2.2.1, 8, .inl st)), (a2, .inl (E.2.2.1, 64, .inl wv)), (c0, .inr (0, [.int (nI (bs.length + 1)), .int (nI b10)]))] := hD
      exact kret (b2 false) [(u0, .inr (3, [.ref e0, .ref s0, .ref h0, .ref c0])), (e0, .inr (1, [.ref eb, .ref es, .int (nI 0)])), (eb, .inl (E.2.1, 1920, .inl f)), (es, .inl (E.2.2.1, 24, .inl sz)), (s0, .inr (5, [.ref m0, .ref d0, .ref h0, .ref x0])), (m0, .inl (E.2.1, 32, .inl mf)), (d0, .inl (E.2.1, 32, .inl df)), (x0, .inl (E.2.1, 112, .inl xf)), (h0, .inr (4, [.ref a1, .ref a2])), (a1, .inl (E.2.2.1, 8, .inl st)), (a2, .inl (E.2.2.1, 64, .inl wv)), (c0, .inr (0, [.int (nI (bs.length + 1)), .int (nI b10)]))] _ _ _ _ d_Run_branch_98 (⟨_, _, _, rfl, Or.inr ⟨by show (if shutS bs = 0 then _ else _) = _; rw [if_pos hd0], rfl⟩⟩) rfl hP hS
    · have hx1 : sz S.length = nI x.length ∧ x.length ≤ 80 ∧ lay f (S.length * 80) x := rep_top hrep
      have hr0 : rep f sz S := rep_tail hrep
      have hlen : S.length + 1 ≤ 24 := hlen
      have hP : va_P E.1 clz [(u0, .inr (3, [.ref e0, .ref s0, .ref h0, .ref c0])), (e0, .inr (1, [.ref eb, .ref es, .int (nI (S.length + 1))])), (eb, .inl (E.2.1, 1920, .inl f)), (es, .inl (E.2.2.1, 24, .inl sz)), (s0, .inr (5, [.ref m0, .ref d0, .ref h0, .ref x0])), (m0, .inl (E.2.1, 32, .inl mf)), (d0, .inl (E.2.1, 32, .inl df)), (x0, .inl (E.2.1, 112, .inl xf)), (h0, .inr (4, [.ref a1, .ref a2])), (a1, .inl (E.2.2.1, 8, .inl st)), (a2, .inl (E.2.2.1, 64, .inl wv)), (c0, .inr (0, [.int (nI bs.length), .int (nI (shutS bs))]))] H := hP
      have hD : va_D A [(u0, .inr (3, [.ref e0, .ref s0, .ref h0, .ref c0])), (e0, .inr (1, [.ref eb, .ref es, .int (nI (S.length + 1))])), (eb, .inl (E.2.1, 1920, .inl f)), (es, .inl (E.2.2.1, 24, .inl sz)), (s0, .inr (5, [.ref m0, .ref d0, .ref h0, .ref x0])), (m0, .inl (E.2.1, 32, .inl mf)), (d0, .inl (E.2.1, 32, .inl df)), (x0, .inl (E.2.1, 112, .inl xf)), (h0, .inr (4, [.ref a1, .ref a2])), (a1, .inl (E.2.2.1, 8, .inl st)), (a2, .inl (E.2.2.1, 64, .inl wv)), (c0, .inr (0, [.int (nI bs.length), .int (nI (shutS bs))]))] := hD
      refine lv_iload_n hx hb d_Run_branch_0 rfl (lv_at hl 1 rfl) ?_
      refine lv_bipush (v := nI 99) hx hb d_Run_branch_1 (by decide) ?_
      refine j_ne C 98 99 rfl rfl (by decide) (by decide) d_Run_branch_3 rfl (fun hc16 => ?_) (fun hc16 => absurd hc16 (by decide))
      refine lv_iload_n hx hb d_Run_branch_14 rfl (lv_at hl 1 rfl) ?_
      refine lv_bipush (v := nI 100) hx hb d_Run_branch_15 (by decide) ?_
      refine j_ne C 98 100 rfl rfl (by decide) (by decide) d_Run_branch_17 rfl (fun hc17 => ?_) (fun hc17 => absurd hc17 (by decide))
      refine lv_aload_n hx hb d_Run_branch_28 rfl (lv_at hl 0 rfl) ?_
      refine n_get C fg_Run_33 hP 0 rfl rfl d_Run_branch_29 ?_
      refine cal_I (As := []) (rest := []) C lk_Run_50 (c_Br_isDone l E c0 bs.length (shutS bs) (by first | omega | exact Nat.lt_of_le_of_lt (shutS_le _) (by first | omega | (simp only [List.length_cons]; omega)))) (by decide) hP hD hS 11 0 rfl rfl [11] rfl (by decide) hl.1 rfl (Nat.le_of_ble_eq_true rfl) d_Run_branch_32 (fun r18 w1 H locs hp19 hP hD hS => ?_)
      obtain ⟨rfl, rfl⟩ := hp19
      have hP : va_P E.1 clz [(u0, .inr (3, [.ref e0, .ref s0, .ref h0, .ref c0])), (e0, .inr (1, [.ref eb, .ref es, .int (nI (S.length + 1))])), (eb, .inl (E.2.1, 1920, .inl f)), (es, .inl (E.2.2.1, 24, .inl sz)), (s0, .inr (5, [.ref m0, .ref d0, .ref h0, .ref x0])), (m0, .inl (E.2.1, 32, .inl mf)), (d0, .inl (E.2.1, 32, .inl df)), (x0, .inl (E.2.1, 112, .inl xf)), (h0, .inr (4, [.ref a1, .ref a2])), (a1, .inl (E.2.2.1, 8, .inl st)), (a2, .inl (E.2.2.1, 64, .inl wv)), (c0, .inr (0, [.int (nI bs.length), .int (nI (shutS bs))]))] H := hP
      have hD : va_D A [(u0, .inr (3, [.ref e0, .ref s0, .ref h0, .ref c0])), (e0, .inr (1, [.ref eb, .ref es, .int (nI (S.length + 1))])), (eb, .inl (E.2.1, 1920, .inl f)), (es, .inl (E.2.2.1, 24, .inl sz)), (s0, .inr (5, [.ref m0, .ref d0, .ref h0, .ref x0])), (m0, .inl (E.2.1, 32, .inl mf)), (d0, .inl (E.2.1, 32, .inl df)), (x0, .inl (E.2.1, 112, .inl xf)), (h0, .inr (4, [.ref a1, .ref a2])), (a1, .inl (E.2.2.1, 8, .inl st)), (a2, .inl (E.2.2.1, 64, .inl wv)), (c0, .inr (0, [.int (nI bs.length), .int (nI (shutS bs))]))] := hD
      refine tope (z := b2 true) (congrArg b2 (decide_eq_true hd0)) ?_
      refine zb_ne C true rfl d_Run_branch_35 rfl (fun hc20 => ?_) (fun hc20 => absurd hc20 (by simp_all))
      refine lv_aload_n hx hb d_Run_branch_48 rfl (lv_at hl 0 rfl) ?_
      refine n_get C fg_Run_33 hP 0 rfl rfl d_Run_branch_49 ?_
      refine lv_aload_n hx hb d_Run_branch_52 rfl (lv_at hl 0 rfl) ?_
      refine n_get C fg_Run_12 hP 0 rfl rfl d_Run_branch_53 ?_
      refine lv_aload_n hx hb d_Run_branch_56 rfl (lv_at hl 0 rfl) ?_
      refine n_get C fg_Run_12 hP 0 rfl rfl d_Run_branch_57 ?_
      refine n_get C fg_Run_79 hP 1 rfl rfl d_Run_branch_60 ?_
      refine lv_iconst (v := nI 1) hx hb d_Run_branch_63 (by decide) ?_
      refine lv_isub hx hb d_Run_branch_64 ?_
      refine tope (z := nI S.length) ((pk_sub (by omega)).trans (congrArg nI (by omega))) ?_
      refine cal_I (As := [.int (nI S.length)]) (rest := [.ref c0]) C lk_Run_82 (c_El_isTrue l E e0 eb es (S.length + 1) f sz S.length x (by omega) (by omega) hx1.1 hx1.2.1 hx1.2.2) (by decide) hP hD hS 1 1 rfl rfl [1, 2, 3] rfl (by decide) hl.1 rfl (Nat.le_of_ble_eq_true rfl) d_Run_branch_65 (fun r21 w1 H locs hp22 hP hD hS => ?_)
      obtain ⟨rfl, rfl⟩ := hp22
      have hP : va_P E.1 clz [(u0, .inr (3, [.ref e0, .ref s0, .ref h0, .ref c0])), (e0, .inr (1, [.ref eb, .ref es, .int (nI (S.length + 1))])), (eb, .inl (E.2.1, 1920, .inl f)), (es, .inl (E.2.2.1, 24, .inl sz)), (s0, .inr (5, [.ref m0, .ref d0, .ref h0, .ref x0])), (m0, .inl (E.2.1, 32, .inl mf)), (d0, .inl (E.2.1, 32, .inl df)), (x0, .inl (E.2.1, 112, .inl xf)), (h0, .inr (4, [.ref a1, .ref a2])), (a1, .inl (E.2.2.1, 8, .inl st)), (a2, .inl (E.2.2.1, 64, .inl wv)), (c0, .inr (0, [.int (nI bs.length), .int (nI (shutS bs))]))] H := hP
      have hD : va_D A [(u0, .inr (3, [.ref e0, .ref s0, .ref h0, .ref c0])), (e0, .inr (1, [.ref eb, .ref es, .int (nI (S.length + 1))])), (eb, .inl (E.2.1, 1920, .inl f)), (es, .inl (E.2.2.1, 24, .inl sz)), (s0, .inr (5, [.ref m0, .ref d0, .ref h0, .ref x0])), (m0, .inl (E.2.1, 32, .inl mf)), (d0, .inl (E.2.1, 32, .inl df)), (x0, .inl (E.2.1, 112, .inl xf)), (h0, .inr (4, [.ref a1, .ref a2])), (a1, .inl (E.2.2.1, 8, .inl st)), (a2, .inl (E.2.2.1, 64, .inl wv)), (c0, .inr (0, [.int (nI bs.length), .int (nI (shutS bs))]))] := hD
      refine lv_iload_n hx hb d_Run_branch_68 rfl (lv_at hl 1 rfl) ?_
      refine lv_bipush (v := nI 98) hx hb d_Run_branch_69 (by decide) ?_
      refine j_ne C 98 98 rfl rfl (by decide) (by decide) d_Run_branch_71 rfl (fun hc23 => absurd hc23 (by decide)) (fun hc23 => ?_)
      refine lv_iconst (v := nI 1) hx hb d_Run_branch_74 (by decide) ?_
      refine lv_goto hx hb d_Run_branch_75 rfl ?_
      rcases Bool.eq_false_or_eq_true (isT x) with hT | hT
      · rw [hT]
        refine j_eq C 1 1 rfl rfl (by decide) (by decide) d_Run_branch_79 rfl (fun hc24 => ?_) (fun hc24 => absurd hc24 (by decide))
        refine lv_iconst (v := nI 0) hx hb d_Run_branch_86 (by decide) ?_
        refine cal_V (As := [.int (b2 false)]) (rest := []) C lk_Run_75 (c_Br_enter l E c0 bs false (by omega)) (by decide) hP hD hS 11 0 rfl rfl [11] rfl (by decide) hl.1 rfl (Nat.le_of_ble_eq_true rfl) d_Run_branch_87 (fun w1 H locs hp28 hP hD hS => ?_)
        obtain ⟨b25, rfl, hq26⟩ := hp28
        have hP : va_P E.1 clz [(u0, .inr (3, [.ref e0, .ref s0, .ref h0, .ref c0])), (e0, .inr (1, [.ref eb, .ref es, .int (nI (S.length + 1))])), (eb, .inl (E.2.1, 1920, .inl f)), (es, .inl (E.2.2.1, 24, .inl sz)), (s0, .inr (5, [.ref m0, .ref d0, .ref h0, .ref x0])), (m0, .inl (E.2.1, 32, .inl mf)), (d0, .inl (E.2.1, 32, .inl df)), (x0, .inl (E.2.1, 112, .inl xf)), (h0, .inr (4, [.ref a1, .ref a2])), (a1, .inl (E.2.2.1, 8, .inl st)), (a2, .inl (E.2.2.1, 64, .inl wv)), (c0, .inr (0, [.int (nI (bs.length + 1)), .int (nI b25)]))] H := hP
        have hD : va_D A [(u0, .inr (3, [.ref e0, .ref s0, .ref h0, .ref c0])), (e0, .inr (1, [.ref eb, .ref es, .int (nI (S.length + 1))])), (eb, .inl (E.2.1, 1920, .inl f)), (es, .inl (E.2.2.1, 24, .inl sz)), (s0, .inr (5, [.ref m0, .ref d0, .ref h0, .ref x0])), (m0, .inl (E.2.1, 32, .inl mf)), (d0, .inl (E.2.1, 32, .inl df)), (x0, .inl (E.2.1, 112, .inl xf)), (h0, .inr (4, [.ref a1, .ref a2])), (a1, .inl (E.2.2.1, 8, .inl st)), (a2, .inl (E.2.2.1, 64, .inl wv)), (c0, .inr (0, [.int (nI (bs.length + 1)), .int (nI b25)]))] := hD
        refine lv_aload_n hx hb d_Run_branch_90 rfl (lv_at hl 0 rfl) ?_
        refine n_get C fg_Run_12 hP 0 rfl rfl d_Run_branch_91 ?_
        refine lv_iconst (v := nI 1) hx hb d_Run_branch_94 (by decide) ?_
        refine cal_I (As := [.int (nI 1)]) (rest := []) C lk_Run_85 (c_El_drop l E e0 eb es (S.length + 1) f sz 1 (by omega) (by omega)) (by decide) hP hD hS 1 1 rfl rfl [1, 2, 3] rfl (by decide) hl.1 rfl (Nat.le_of_ble_eq_true rfl) d_Run_branch_95 (fun r29 w1 H locs hp30 hP hD hS => ?_)
        obtain ⟨rfl, rfl⟩ := hp30
        have hP : va_P E.1 clz [(u0, .inr (3, [.ref e0, .ref s0, .ref h0, .ref c0])), (e0, .inr (1, [.ref eb, .ref es, .int (nI ((S.length + 1) - 1))])), (eb, .inl (E.2.1, 1920, .inl f)), (es, .inl (E.2.2.1, 24, .inl sz)), (s0, .inr (5, [.ref m0, .ref d0, .ref h0, .ref x0])), (m0, .inl (E.2.1, 32, .inl mf)), (d0, .inl (E.2.1, 32, .inl df)), (x0, .inl (E.2.1, 112, .inl xf)), (h0, .inr (4, [.ref a1, .ref a2])), (a1, .inl (E.2.2.1, 8, .inl st)), (a2, .inl (E.2.2.1, 64, .inl wv)), (c0, .inr (0, [.int (nI (bs.length + 1)), .int (nI b25)]))] H := hP
        have hD : va_D A [(u0, .inr (3, [.ref e0, .ref s0, .ref h0, .ref c0])), (e0, .inr (1, [.ref eb, .ref es, .int (nI ((S.length + 1) - 1))])), (eb, .inl (E.2.1, 1920, .inl f)), (es, .inl (E.2.2.1, 24, .inl sz)), (s0, .inr (5, [.ref m0, .ref d0, .ref h0, .ref x0])), (m0, .inl (E.2.1, 32, .inl mf)), (d0, .inl (E.2.1, 32, .inl df)), (x0, .inl (E.2.1, 112, .inl xf)), (h0, .inr (4, [.ref a1, .ref a2])), (a1, .inl (E.2.2.1, 8, .inl st)), (a2, .inl (E.2.2.1, 64, .inl wv)), (c0, .inr (0, [.int (nI (bs.length + 1)), .int (nI b25)]))] := hD
        exact kret (b2 true) [(u0, .inr (3, [.ref e0, .ref s0, .ref h0, .ref c0])), (e0, .inr (1, [.ref eb, .ref es, .int (nI ((S.length + 1) - 1))])), (eb, .inl (E.2.1, 1920, .inl f)), (es, .inl (E.2.2.1, 24, .inl sz)), (s0, .inr (5, [.ref m0, .ref d0, .ref h0, .ref x0])), (m0, .inl (E.2.1, 32, .inl mf)), (d0, .inl (E.2.1, 32, .inl df)), (x0, .inl (E.2.1, 112, .inl xf)), (h0, .inr (4, [.ref a1, .ref a2])), (a1, .inl (E.2.2.1, 8, .inl st)), (a2, .inl (E.2.2.1, 64, .inl wv)), (c0, .inr (0, [.int (nI (bs.length + 1)), .int (nI b25)]))] _ _ _ _ d_Run_branch_98 (⟨_, _, _, rfl, Or.inl ⟨false :: bs, S, by show (if shutS bs = 0 then some ((isT x != decide (98 = 98)) :: bs, S) else _) = _; rw [if_pos hd0, hT]; rfl, rfl, by omega, rfl, hq26, hr0, by omega⟩⟩) rfl hP hS
      · rw [hT]
        refine j_eq C 0 1 rfl rfl (by decide) (by decide) d_Run_branch_79 rfl (fun hc31 => absurd hc31 (by decide)) (fun hc31 => ?_)
        refine lv_iconst (v := nI 1) hx hb d_Run_branch_82 (by decide) ?_
        refine lv_goto hx hb d_Run_branch_83 rfl ?_
        refine cal_V (As := [.int (b2 true)]) (rest := []) C lk_Run_75 (c_Br_enter l E c0 bs true (by omega)) (by decide) hP hD hS 11 0 rfl rfl [11] rfl (by decide) hl.1 rfl (Nat.le_of_ble_eq_true rfl) d_Run_branch_87 (fun w1 H locs hp35 hP hD hS => ?_)
        obtain ⟨b32, rfl, hq33⟩ := hp35
        have hP : va_P E.1 clz [(u0, .inr (3, [.ref e0, .ref s0, .ref h0, .ref c0])), (e0, .inr (1, [.ref eb, .ref es, .int (nI (S.length + 1))])), (eb, .inl (E.2.1, 1920, .inl f)), (es, .inl (E.2.2.1, 24, .inl sz)), (s0, .inr (5, [.ref m0, .ref d0, .ref h0, .ref x0])), (m0, .inl (E.2.1, 32, .inl mf)), (d0, .inl (E.2.1, 32, .inl df)), (x0, .inl (E.2.1, 112, .inl xf)), (h0, .inr (4, [.ref a1, .ref a2])), (a1, .inl (E.2.2.1, 8, .inl st)), (a2, .inl (E.2.2.1, 64, .inl wv)), (c0, .inr (0, [.int (nI (bs.length + 1)), .int (nI b32)]))] H := hP
        have hD : va_D A [(u0, .inr (3, [.ref e0, .ref s0, .ref h0, .ref c0])), (e0, .inr (1, [.ref eb, .ref es, .int (nI (S.length + 1))])), (eb, .inl (E.2.1, 1920, .inl f)), (es, .inl (E.2.2.1, 24, .inl sz)), (s0, .inr (5, [.ref m0, .ref d0, .ref h0, .ref x0])), (m0, .inl (E.2.1, 32, .inl mf)), (d0, .inl (E.2.1, 32, .inl df)), (x0, .inl (E.2.1, 112, .inl xf)), (h0, .inr (4, [.ref a1, .ref a2])), (a1, .inl (E.2.2.1, 8, .inl st)), (a2, .inl (E.2.2.1, 64, .inl wv)), (c0, .inr (0, [.int (nI (bs.length + 1)), .int (nI b32)]))] := hD
        refine lv_aload_n hx hb d_Run_branch_90 rfl (lv_at hl 0 rfl) ?_
        refine n_get C fg_Run_12 hP 0 rfl rfl d_Run_branch_91 ?_
        refine lv_iconst (v := nI 1) hx hb d_Run_branch_94 (by decide) ?_
        refine cal_I (As := [.int (nI 1)]) (rest := []) C lk_Run_85 (c_El_drop l E e0 eb es (S.length + 1) f sz 1 (by omega) (by omega)) (by decide) hP hD hS 1 1 rfl rfl [1, 2, 3] rfl (by decide) hl.1 rfl (Nat.le_of_ble_eq_true rfl) d_Run_branch_95 (fun r36 w1 H locs hp37 hP hD hS => ?_)
        obtain ⟨rfl, rfl⟩ := hp37
        have hP : va_P E.1 clz [(u0, .inr (3, [.ref e0, .ref s0, .ref h0, .ref c0])), (e0, .inr (1, [.ref eb, .ref es, .int (nI ((S.length + 1) - 1))])), (eb, .inl (E.2.1, 1920, .inl f)), (es, .inl (E.2.2.1, 24, .inl sz)), (s0, .inr (5, [.ref m0, .ref d0, .ref h0, .ref x0])), (m0, .inl (E.2.1, 32, .inl mf)), (d0, .inl (E.2.1, 32, .inl df)), (x0, .inl (E.2.1, 112, .inl xf)), (h0, .inr (4, [.ref a1, .ref a2])), (a1, .inl (E.2.2.1, 8, .inl st)), (a2, .inl (E.2.2.1, 64, .inl wv)), (c0, .inr (0, [.int (nI (bs.length + 1)), .int (nI b32)]))] H := hP
        have hD : va_D A [(u0, .inr (3, [.ref e0, .ref s0, .ref h0, .ref c0])), (e0, .inr (1, [.ref eb, .ref es, .int (nI ((S.length + 1) - 1))])), (eb, .inl (E.2.1, 1920, .inl f)), (es, .inl (E.2.2.1, 24, .inl sz)), (s0, .inr (5, [.ref m0, .ref d0, .ref h0, .ref x0])), (m0, .inl (E.2.1, 32, .inl mf)), (d0, .inl (E.2.1, 32, .inl df)), (x0, .inl (E.2.1, 112, .inl xf)), (h0, .inr (4, [.ref a1, .ref a2])), (a1, .inl (E.2.2.1, 8, .inl st)), (a2, .inl (E.2.2.1, 64, .inl wv)), (c0, .inr (0, [.int (nI (bs.length + 1)), .int (nI b32)]))] := hD
        exact kret (b2 true) [(u0, .inr (3, [.ref e0, .ref s0, .ref h0, .ref c0])), (e0, .inr (1, [.ref eb, .ref es, .int (nI ((S.length + 1) - 1))])), (eb, .inl (E.2.1, 1920, .inl f)), (es, .inl (E.2.2.1, 24, .inl sz)), (s0, .inr (5, [.ref m0, .ref d0, .ref h0, .ref x0])), (m0, .inl (E.2.1, 32, .inl mf)), (d0, .inl (E.2.1, 32, .inl df)), (x0, .inl (E.2.1, 112, .inl xf)), (h0, .inr (4, [.ref a1, .ref a2])), (a1, .inl (E.2.2.1, 8, .inl st)), (a2, .inl (E.2.2.1, 64, .inl wv)), (c0, .inr (0, [.int (nI (bs.length + 1)), .int (nI b32)]))] _ _ _ _ d_Run_branch_98 (⟨_, _, _, rfl, Or.inl ⟨true :: bs, S, by show (if shutS bs = 0 then some ((isT x != decide (98 = 98)) :: bs, S) else _) = _; rw [if_pos hd0, hT]; rfl, rfl, by omega, rfl, hq33, hr0, by omega⟩⟩) rfl hP hS
  · refine lv_iload_n hx hb d_Run_branch_0 rfl (lv_at hl 1 rfl) ?_
    refine lv_bipush (v := nI 99) hx hb d_Run_branch_1 (by decide) ?_
    refine j_ne C 98 99 rfl rfl (by decide) (by decide) d_Run_branch_3 rfl (fun hc38 => ?_) (fun hc38 => absurd hc38 (by decide))
    refine lv_iload_n hx hb d_Run_branch_14 rfl (lv_at hl 1 rfl) ?_
    refine lv_bipush (v := nI 100) hx hb d_Run_branch_15 (by decide) ?_
    refine j_ne C 98 100 rfl rfl (by decide) (by decide) d_Run_branch_17 rfl (fun hc39 => ?_) (fun hc39 => absurd hc39 (by decide))
    refine lv_aload_n hx hb d_Run_branch_28 rfl (lv_at hl 0 rfl) ?_
    refine n_get C fg_Run_33 hP 0 rfl rfl d_Run_branch_29 ?_
    refine cal_I (As := []) (rest := []) C lk_Run_50 (c_Br_isDone l E c0 bs.length (shutS bs) (by first | omega | exact Nat.lt_of_le_of_lt (shutS_le _) (by first | omega | (simp only [List.length_cons]; omega)))) (by decide) hP hD hS 11 0 rfl rfl [11] rfl (by decide) hl.1 rfl (Nat.le_of_ble_eq_true rfl) d_Run_branch_32 (fun r40 w1 H locs hp41 hP hD hS => ?_)
    obtain ⟨rfl, rfl⟩ := hp41
    have hP : va_P E.1 clz [(u0, .inr (3, [.ref e0, .ref s0, .ref h0, .ref c0])), (e0, .inr (1, [.ref eb, .ref es, .int (nI S.length)])), (eb, .inl (E.2.1, 1920, .inl f)), (es, .inl (E.2.2.1, 24, .inl sz)), (s0, .inr (5, [.ref m0, .ref d0, .ref h0, .ref x0])), (m0, .inl (E.2.1, 32, .inl mf)), (d0, .inl (E.2.1, 32, .inl df)), (x0, .inl (E.2.1, 112, .inl xf)), (h0, .inr (4, [.ref a1, .ref a2])), (a1, .inl (E.2.2.1, 8, .inl st)), (a2, .inl (E.2.2.1, 64, .inl wv)), (c0, .inr (0, [.int (nI bs.length), .int (nI (shutS bs))]))] H := hP
    have hD : va_D A [(u0, .inr (3, [.ref e0, .ref s0, .ref h0, .ref c0])), (e0, .inr (1, [.ref eb, .ref es, .int (nI S.length)])), (eb, .inl (E.2.1, 1920, .inl f)), (es, .inl (E.2.2.1, 24, .inl sz)), (s0, .inr (5, [.ref m0, .ref d0, .ref h0, .ref x0])), (m0, .inl (E.2.1, 32, .inl mf)), (d0, .inl (E.2.1, 32, .inl df)), (x0, .inl (E.2.1, 112, .inl xf)), (h0, .inr (4, [.ref a1, .ref a2])), (a1, .inl (E.2.2.1, 8, .inl st)), (a2, .inl (E.2.2.1, 64, .inl wv)), (c0, .inr (0, [.int (nI bs.length), .int (nI (shutS bs))]))] := hD
    refine tope (z := b2 false) (congrArg b2 (decide_eq_false (by omega))) ?_
    refine zb_ne C false rfl d_Run_branch_35 rfl (fun hc42 => absurd hc42 (by simp_all)) (fun hc42 => ?_)
    refine lv_aload_n hx hb d_Run_branch_38 rfl (lv_at hl 0 rfl) ?_
    refine n_get C fg_Run_33 hP 0 rfl rfl d_Run_branch_39 ?_
    refine lv_iconst (v := nI 0) hx hb d_Run_branch_42 (by decide) ?_
    refine cal_V (As := [.int (b2 false)]) (rest := []) C lk_Run_75 (c_Br_enter l E c0 bs false (by omega)) (by decide) hP hD hS 11 0 rfl rfl [11] rfl (by decide) hl.1 rfl (Nat.le_of_ble_eq_true rfl) d_Run_branch_43 (fun w1 H locs hp46 hP hD hS => ?_)
    obtain ⟨b43, rfl, hq44⟩ := hp46
    have hP : va_P E.1 clz [(u0, .inr (3, [.ref e0, .ref s0, .ref h0, .ref c0])), (e0, .inr (1, [.ref eb, .ref es, .int (nI S.length)])), (eb, .inl (E.2.1, 1920, .inl f)), (es, .inl (E.2.2.1, 24, .inl sz)), (s0, .inr (5, [.ref m0, .ref d0, .ref h0, .ref x0])), (m0, .inl (E.2.1, 32, .inl mf)), (d0, .inl (E.2.1, 32, .inl df)), (x0, .inl (E.2.1, 112, .inl xf)), (h0, .inr (4, [.ref a1, .ref a2])), (a1, .inl (E.2.2.1, 8, .inl st)), (a2, .inl (E.2.2.1, 64, .inl wv)), (c0, .inr (0, [.int (nI (bs.length + 1)), .int (nI b43)]))] H := hP
    have hD : va_D A [(u0, .inr (3, [.ref e0, .ref s0, .ref h0, .ref c0])), (e0, .inr (1, [.ref eb, .ref es, .int (nI S.length)])), (eb, .inl (E.2.1, 1920, .inl f)), (es, .inl (E.2.2.1, 24, .inl sz)), (s0, .inr (5, [.ref m0, .ref d0, .ref h0, .ref x0])), (m0, .inl (E.2.1, 32, .inl mf)), (d0, .inl (E.2.1, 32, .inl df)), (x0, .inl (E.2.1, 112, .inl xf)), (h0, .inr (4, [.ref a1, .ref a2])), (a1, .inl (E.2.2.1, 8, .inl st)), (a2, .inl (E.2.2.1, 64, .inl wv)), (c0, .inr (0, [.int (nI (bs.length + 1)), .int (nI b43)]))] := hD
    refine lv_iconst (v := nI 1) hx hb d_Run_branch_46 (by decide) ?_
    exact kret (nI 1) [(u0, .inr (3, [.ref e0, .ref s0, .ref h0, .ref c0])), (e0, .inr (1, [.ref eb, .ref es, .int (nI S.length)])), (eb, .inl (E.2.1, 1920, .inl f)), (es, .inl (E.2.2.1, 24, .inl sz)), (s0, .inr (5, [.ref m0, .ref d0, .ref h0, .ref x0])), (m0, .inl (E.2.1, 32, .inl mf)), (d0, .inl (E.2.1, 32, .inl df)), (x0, .inl (E.2.1, 112, .inl xf)), (h0, .inr (4, [.ref a1, .ref a2])), (a1, .inl (E.2.2.1, 8, .inl st)), (a2, .inl (E.2.2.1, 64, .inl wv)), (c0, .inr (0, [.int (nI (bs.length + 1)), .int (nI b43)]))] _ _ _ _ d_Run_branch_47 (⟨_, _, _, rfl, Or.inl ⟨false :: bs, S, by show (if shutS bs = 0 then _ else _) = _; rw [if_neg (by omega)], rfl, rfl, rfl, hq44, hrep, hlen⟩⟩) rfl hP hS

theorem c_Run_branch (l : Launch) (E : En) (u0 e0 eb es s0 m0 d0 x0 h0 a1 a2 c0 : Nat) (mf f sz df xf st wv : Nat → Int32) (S : Stk) (bs : List Bool) (hrep : rep f sz S) (hlen : S.length ≤ 24) (hbs : bs.length ≤ 90) (op : Nat) (h1 : 97 ≤ op) (h2 : op ≤ 100) : CtI l y_Run_branch b_Run_branch 2 .boolean (rmd 2) E [.ref u0, .int (nI op)] [(u0, .inr (3, [.ref e0, .ref s0, .ref h0, .ref c0])), (e0, .inr (1, [.ref eb, .ref es, .int (nI S.length)])), (eb, .inl (E.2.1, 1920, .inl f)), (es, .inl (E.2.2.1, 24, .inl sz)), (s0, .inr (5, [.ref m0, .ref d0, .ref h0, .ref x0])), (m0, .inl (E.2.1, 32, .inl mf)), (d0, .inl (E.2.1, 32, .inl df)), (x0, .inl (E.2.1, 112, .inl xf)), (h0, .inr (4, [.ref a1, .ref a2])), (a1, .inl (E.2.2.1, 8, .inl st)), (a2, .inl (E.2.2.1, 64, .inl wv)), (c0, .inr (0, [.int (nI bs.length), .int (nI (shutS bs))]))] (brP E u0 e0 eb es s0 m0 d0 x0 h0 a1 a2 c0 mf f sz df xf st wv (brS op bs S)) := by
  by_cases h97 : op = 97
  · subst h97; exact c_br_97 l E u0 e0 eb es s0 m0 d0 x0 h0 a1 a2 c0 mf f sz df xf st wv S bs hrep hlen hbs
  by_cases h98 : op = 98
  · subst h98; exact c_br_98 l E u0 e0 eb es s0 m0 d0 x0 h0 a1 a2 c0 mf f sz df xf st wv S bs hrep hlen hbs
  by_cases h99 : op = 99
  · subst h99; exact c_br_99 l E u0 e0 eb es s0 m0 d0 x0 h0 a1 a2 c0 mf f sz df xf st wv S bs hrep hlen hbs
  by_cases h100 : op = 100
  · subst h100; exact c_br_100 l E u0 e0 eb es s0 m0 d0 x0 h0 a1 a2 c0 mf f sz df xf st wv S bs hrep hlen hbs
  omega
