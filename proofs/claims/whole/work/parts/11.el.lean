def hasB (k : Int32) (n : Nat) : Bool := decide (¬ k < 0) && decide (¬ nI n ≤ k)
theorem hasB_t {k : Int32} {n : Nat} (h1 : ¬ k < 0) (h2 : ¬ nI n ≤ k) : nI 1 = b2 (hasB k n) := by simp [hasB, b2, h1, h2]
theorem hasB_f1 {k : Int32} {n : Nat} (h1 : k < 0) : nI 0 = b2 (hasB k n) := by simp [hasB, b2, h1]
theorem hasB_f2 {k : Int32} {n : Nat} (h2 : nI n ≤ k) : nI 0 = b2 (hasB k n) := by simp [hasB, b2, h2]
theorem hasB_nI {j n : Nat} (hj : j < 2 ^ 31) (hn : n < 2 ^ 31) : hasB (nI j) n = decide (j < n) := by
  unfold hasB
  simp only [nI_leI hn hj, nI_pos hj, not_false_eq_true, decide_true, Bool.true_and, Nat.not_le]
theorem hasB_m1 (n : Nat) : hasB (-1) n = false := by simp [hasB, show ((-1 : Int32) < 0) by decide]
theorem hasB_m2 (n : Nat) : hasB (-2) n = false := by simp [hasB, show ((-2 : Int32) < 0) by decide]

set_option maxHeartbeats 4000000 in
set_option maxRecDepth 100000 in
theorem c_El_place (l : Launch) (E : En) (e0 k : Nat) : CtI l y_El_place b_El_place 2 .int (rmd 0) E [.ref e0, .int (nI k)] [] (fun r w => r = nI (k * 80) ∧ w = []) := by
  refine CtI.of (by decide) (Nat.le_of_ble_eq_true rfl) (fun _ _ _ => rfl) ?_
  intro p e s m args below meth c A Q H locs ls C hP hD hS hl kret
  have hx := C.1
  have hb := C.2.1
  have hl : lv_has ls 2 [(0, .ref e0), (1, .int (nI k))] := hl
  refine lv_iload_n hx hb d_El_place_0 rfl (lv_at hl 1 rfl) ?_
  refine lv_bipush (v := nI 80) hx hb d_El_place_1 (by decide) ?_
  refine lv_imul hx hb d_El_place_3 ?_
  refine tope (z := nI (k * 80)) (pk_mul _ _) ?_
  exact kret (nI (k * 80)) [] _ _ _ _ d_El_place_4 (⟨rfl, rfl⟩) rfl hP hS

set_option maxHeartbeats 4000000 in
set_option maxRecDepth 100000 in
theorem c_El_has (l : Launch) (E : En) (e0 eb es n : Nat) (k : Int32) : CtI l y_El_has b_El_has 2 .boolean (rmd 0) E [.ref e0, .int k] [(e0, .inr (1, [.ref eb, .ref es, .int (nI n)]))] (fun r w => r = b2 (hasB k n) ∧ w = [(e0, .inr (1, [.ref eb, .ref es, .int (nI n)]))]) := by
  refine CtI.of (by decide) (Nat.le_of_ble_eq_true rfl) (fun r w h => by obtain ⟨rfl, _⟩ := h; exact b2_nar _) ?_
  intro p e s m args below meth c A Q H locs ls C hP hD hS hl kret
  have hx := C.1
  have hb := C.2.1
  have hl : lv_has ls 2 [(0, .ref e0), (1, .int k)] := hl
  refine lv_iload_n hx hb d_El_has_0 rfl (lv_at hl 1 rfl) ?_
  refine lv_if_lt hx hb d_El_has_1 rfl (fun hc1 => ?_) (fun hc1 => ?_)
  · refine lv_iconst (v := nI 0) hx hb d_El_has_16 (by decide) ?_
    exact kret (nI 0) [(e0, .inr (1, [.ref eb, .ref es, .int (nI n)]))] _ _ _ _ d_El_has_17 (⟨by first | exact hasB_t (by assumption) (by assumption) | exact hasB_f1 (by assumption) | exact hasB_f2 (by assumption), rfl⟩) rfl hP hS
  · refine lv_iload_n hx hb d_El_has_4 rfl (lv_at hl 1 rfl) ?_
    refine lv_aload_n hx hb d_El_has_5 rfl (lv_at hl 0 rfl) ?_
    refine n_get C fg_El_17 hP 0 rfl rfl d_El_has_6 ?_
    refine lv_icmp_ge hx hb d_El_has_9 rfl (fun hc2 => ?_) (fun hc2 => ?_)
    · refine lv_iconst (v := nI 0) hx hb d_El_has_16 (by decide) ?_
      exact kret (nI 0) [(e0, .inr (1, [.ref eb, .ref es, .int (nI n)]))] _ _ _ _ d_El_has_17 (⟨by first | exact hasB_t (by assumption) (by assumption) | exact hasB_f1 (by assumption) | exact hasB_f2 (by assumption), rfl⟩) rfl hP hS
    · refine lv_iconst (v := nI 1) hx hb d_El_has_12 (by decide) ?_
      refine lv_goto hx hb d_El_has_13 rfl ?_
      exact kret (nI 1) [(e0, .inr (1, [.ref eb, .ref es, .int (nI n)]))] _ _ _ _ d_El_has_17 (⟨by first | exact hasB_t (by assumption) (by assumption) | exact hasB_f1 (by assumption) | exact hasB_f2 (by assumption), rfl⟩) rfl hP hS

set_option maxHeartbeats 4000000 in
set_option maxRecDepth 100000 in
theorem c_El_push (l : Launch) (E : En) (e0 eb es n : Nat) (f sz : Nat → Int32) (i k : Nat) (g0 Mg : Nat) (g : Nat → Int32) (hn : n < 24) (hk : k ≤ 80) (hi : i + k ≤ Mg) (hB : fB g) (hM : Mg < 2 ^ 31) : CtI l y_El_push b_El_push 4 .boolean (rmd 1) E [.ref e0, .ref g0, .int (nI i), .int (nI k)] [(e0, .inr (1, [.ref eb, .ref es, .int (nI n)])), (eb, .inl (E.2.1, 1920, .inl f)), (es, .inl (E.2.2.1, 24, .inl sz)), (g0, .inl (E.2.1, Mg, .inl g))] (fun r w => r = b2 true ∧ w = [(e0, .inr (1, [.ref eb, .ref es, .int (nI (n + 1))])), (eb, .inl (E.2.1, 1920, .inl (va_cpy g f i (n * 80) k))), (es, .inl (E.2.2.1, 24, .inl (upd sz n (nI k)))), (g0, .inl (E.2.1, Mg, .inl g))]) := by
  refine CtI.of (by decide) (Nat.le_of_ble_eq_true rfl) (fun r w h => by obtain ⟨rfl, _⟩ := h; exact b2_nar _) ?_
  intro p e s m args below meth c A Q H locs ls C hP hD hS hl kret
  have hx := C.1
  have hb := C.2.1
  have hl : lv_has ls 4 [(0, .ref e0), (1, .ref g0), (2, .int (nI i)), (3, .int (nI k))] := hl
  refine lv_aload_n hx hb d_El_push_0 rfl (lv_at hl 0 rfl) ?_
  refine n_get C fg_El_17 hP 0 rfl rfl d_El_push_1 ?_
  refine lv_bipush (v := nI 24) hx hb d_El_push_4 (by decide) ?_
  refine j_ge C n 24 rfl rfl (by omega) (by omega) d_El_push_6 rfl (fun hc1 => absurd hc1 (by omega)) (fun hc1 => ?_)
  refine lv_iload_n hx hb d_El_push_9 rfl (lv_at hl 3 rfl) ?_
  refine lv_bipush (v := nI 80) hx hb d_El_push_10 (by decide) ?_
  refine j_le C k 80 rfl rfl (by omega) (by omega) d_El_push_12 rfl (fun hc2 => ?_) (fun hc2 => absurd hc2 (by omega))
  refine lv_aload_n hx hb d_El_push_17 rfl (lv_at hl 1 rfl) ?_
  refine lv_iload_n hx hb d_El_push_18 rfl (lv_at hl 2 rfl) ?_
  refine lv_aload_n hx hb d_El_push_19 rfl (lv_at hl 0 rfl) ?_
  refine n_get C fg_El_9 hP 0 rfl rfl d_El_push_20 ?_
  refine lv_aload_n hx hb d_El_push_23 rfl (lv_at hl 0 rfl) ?_
  refine lv_aload_n hx hb d_El_push_24 rfl (lv_at hl 0 rfl) ?_
  refine n_get C fg_El_17 hP 0 rfl rfl d_El_push_25 ?_
  refine cal_I (As := [.int (nI n)]) (rest := [.ref eb, .int (nI i), .ref g0]) C lk_El_21 (c_El_place l E e0 n) (by decide) hP hD hS 0 1 rfl rfl [] rfl (by decide) hl.1 rfl (Nat.le_of_ble_eq_true rfl) d_El_push_28 (fun r3 w1 H locs hp4 hP hD hS => ?_)
  obtain ⟨rfl, rfl⟩ := hp4
  have hP : va_P E.1 clz [(e0, .inr (1, [.ref eb, .ref es, .int (nI n)])), (eb, .inl (E.2.1, 1920, .inl f)), (es, .inl (E.2.2.1, 24, .inl sz)), (g0, .inl (E.2.1, Mg, .inl g))] H := hP
  have hD : va_D A [(e0, .inr (1, [.ref eb, .ref es, .int (nI n)])), (eb, .inl (E.2.1, 1920, .inl f)), (es, .inl (E.2.2.1, 24, .inl sz)), (g0, .inl (E.2.1, Mg, .inl g))] := hD
  refine lv_iload_n hx hb d_El_push_31 rfl (lv_at hl 3 rfl) ?_
  refine n_cpy C lk_El_25 hP hD hS 3 1 rfl rfl i (n * 80) k rfl rfl rfl (by omega) (by omega) ⟨by omega, by omega⟩ (hB) hl.1 (by decide) (by decide) d_El_push_32 (fun H locs hP hD hS => ?_)
  have hP : va_P E.1 clz [(e0, .inr (1, [.ref eb, .ref es, .int (nI n)])), (eb, .inl (E.2.1, 1920, .inl (va_cpy g f i (n * 80) k))), (es, .inl (E.2.2.1, 24, .inl sz)), (g0, .inl (E.2.1, Mg, .inl g))] H := hP
  have hD : va_D A [(e0, .inr (1, [.ref eb, .ref es, .int (nI n)])), (eb, .inl (E.2.1, 1920, .inl (va_cpy g f i (n * 80) k))), (es, .inl (E.2.2.1, 24, .inl sz)), (g0, .inl (E.2.1, Mg, .inl g))] := hD
  refine lv_aload_n hx hb d_El_push_35 rfl (lv_at hl 0 rfl) ?_
  refine n_get C fg_El_13 hP 0 rfl rfl d_El_push_36 ?_
  refine lv_aload_n hx hb d_El_push_39 rfl (lv_at hl 0 rfl) ?_
  refine n_get C fg_El_17 hP 0 rfl rfl d_El_push_40 ?_
  refine lv_iload_n hx hb d_El_push_43 rfl (lv_at hl 3 rfl) ?_
  refine n_iast C hP hD hS 2 rfl n rfl (by omega) (by omega) d_El_push_44 (fun H locs hP hD hS => ?_)
  have hP : va_P E.1 clz [(e0, .inr (1, [.ref eb, .ref es, .int (nI n)])), (eb, .inl (E.2.1, 1920, .inl (va_cpy g f i (n * 80) k))), (es, .inl (E.2.2.1, 24, .inl (upd sz n (nI k)))), (g0, .inl (E.2.1, Mg, .inl g))] H := hP
  have hD : va_D A [(e0, .inr (1, [.ref eb, .ref es, .int (nI n)])), (eb, .inl (E.2.1, 1920, .inl (va_cpy g f i (n * 80) k))), (es, .inl (E.2.2.1, 24, .inl (upd sz n (nI k)))), (g0, .inl (E.2.1, Mg, .inl g))] := hD
  refine lv_aload_n hx hb d_El_push_45 rfl (lv_at hl 0 rfl) ?_
  refine lv_dup hx hb d_El_push_46 rfl ?_
  refine n_get C fg_El_17 hP 0 rfl rfl d_El_push_47 ?_
  refine lv_iconst (v := nI 1) hx hb d_El_push_50 (by decide) ?_
  refine lv_iadd hx hb d_El_push_51 ?_
  refine tope (z := nI (n + 1)) (nI_add _ _) ?_
  refine n_put (v := .int (nI (n + 1))) C fp_El_17 hP hD hS 0 rfl (rfl) rfl (Nat.le_of_ble_eq_true rfl) d_El_push_52 (fun H locs hP hD hS => ?_)
  have hP : va_P E.1 clz [(e0, .inr (1, [.ref eb, .ref es, .int (nI (n + 1))])), (eb, .inl (E.2.1, 1920, .inl (va_cpy g f i (n * 80) k))), (es, .inl (E.2.2.1, 24, .inl (upd sz n (nI k)))), (g0, .inl (E.2.1, Mg, .inl g))] H := hP
  have hD : va_D A [(e0, .inr (1, [.ref eb, .ref es, .int (nI (n + 1))])), (eb, .inl (E.2.1, 1920, .inl (va_cpy g f i (n * 80) k))), (es, .inl (E.2.2.1, 24, .inl (upd sz n (nI k)))), (g0, .inl (E.2.1, Mg, .inl g))] := hD
  refine lv_iconst (v := nI 1) hx hb d_El_push_55 (by decide) ?_
  exact kret (nI 1) [(e0, .inr (1, [.ref eb, .ref es, .int (nI (n + 1))])), (eb, .inl (E.2.1, 1920, .inl (va_cpy g f i (n * 80) k))), (es, .inl (E.2.2.1, 24, .inl (upd sz n (nI k)))), (g0, .inl (E.2.1, Mg, .inl g))] _ _ _ _ d_El_push_56 (⟨rfl, rfl⟩) rfl hP hS

set_option maxHeartbeats 4000000 in
set_option maxRecDepth 100000 in
theorem c_El_push_full (l : Launch) (E : En) (e0 eb es n : Nat) (f sz : Nat → Int32) (i k : Nat) (g0 Mg : Nat) (g : Nat → Int32) (hn : 24 ≤ n) (hn2 : n < 2 ^ 31) : CtI l y_El_push b_El_push 4 .boolean (rmd 1) E [.ref e0, .ref g0, .int (nI i), .int (nI k)] [(e0, .inr (1, [.ref eb, .ref es, .int (nI n)])), (eb, .inl (E.2.1, 1920, .inl f)), (es, .inl (E.2.2.1, 24, .inl sz)), (g0, .inl (E.2.1, Mg, .inl g))] (fun r w => r = b2 false ∧ w = [(e0, .inr (1, [.ref eb, .ref es, .int (nI n)])), (eb, .inl (E.2.1, 1920, .inl f)), (es, .inl (E.2.2.1, 24, .inl sz)), (g0, .inl (E.2.1, Mg, .inl g))]) := by
  refine CtI.of (by decide) (Nat.le_of_ble_eq_true rfl) (fun r w h => by obtain ⟨rfl, _⟩ := h; exact b2_nar _) ?_
  intro p e s m args below meth c A Q H locs ls C hP hD hS hl kret
  have hx := C.1
  have hb := C.2.1
  have hl : lv_has ls 4 [(0, .ref e0), (1, .ref g0), (2, .int (nI i)), (3, .int (nI k))] := hl
  refine lv_aload_n hx hb d_El_push_0 rfl (lv_at hl 0 rfl) ?_
  refine n_get C fg_El_17 hP 0 rfl rfl d_El_push_1 ?_
  refine lv_bipush (v := nI 24) hx hb d_El_push_4 (by decide) ?_
  refine j_ge C n 24 rfl rfl (by omega) (by omega) d_El_push_6 rfl (fun hc1 => ?_) (fun hc1 => absurd hc1 (by omega))
  refine lv_iconst (v := nI 0) hx hb d_El_push_15 (by decide) ?_
  exact kret (nI 0) [(e0, .inr (1, [.ref eb, .ref es, .int (nI n)])), (eb, .inl (E.2.1, 1920, .inl f)), (es, .inl (E.2.2.1, 24, .inl sz)), (g0, .inl (E.2.1, Mg, .inl g))] _ _ _ _ d_El_push_16 (⟨rfl, rfl⟩) rfl hP hS

set_option maxHeartbeats 4000000 in
set_option maxRecDepth 100000 in
theorem c_El_pushA (l : Launch) (E : En) (e0 eb es n : Nat) (f sz : Nat → Int32) (i k : Nat) (hn : n < 24) (hk : k ≤ 80) (hi : i + k ≤ 1920) (hB : fB f) : CtI l y_El_push b_El_push 4 .boolean (rmd 1) E [.ref e0, .ref eb, .int (nI i), .int (nI k)] [(e0, .inr (1, [.ref eb, .ref es, .int (nI n)])), (eb, .inl (E.2.1, 1920, .inl f)), (es, .inl (E.2.2.1, 24, .inl sz))] (fun r w => r = b2 true ∧ w = [(e0, .inr (1, [.ref eb, .ref es, .int (nI (n + 1))])), (eb, .inl (E.2.1, 1920, .inl (va_cpy f f i (n * 80) k))), (es, .inl (E.2.2.1, 24, .inl (upd sz n (nI k))))]) := by
  refine CtI.of (by decide) (Nat.le_of_ble_eq_true rfl) (fun r w h => by obtain ⟨rfl, _⟩ := h; exact b2_nar _) ?_
  intro p e s m args below meth c A Q H locs ls C hP hD hS hl kret
  have hx := C.1
  have hb := C.2.1
  have hl : lv_has ls 4 [(0, .ref e0), (1, .ref eb), (2, .int (nI i)), (3, .int (nI k))] := hl
  refine lv_aload_n hx hb d_El_push_0 rfl (lv_at hl 0 rfl) ?_
  refine n_get C fg_El_17 hP 0 rfl rfl d_El_push_1 ?_
  refine lv_bipush (v := nI 24) hx hb d_El_push_4 (by decide) ?_
  refine j_ge C n 24 rfl rfl (by omega) (by omega) d_El_push_6 rfl (fun hc1 => absurd hc1 (by omega)) (fun hc1 => ?_)
  refine lv_iload_n hx hb d_El_push_9 rfl (lv_at hl 3 rfl) ?_
  refine lv_bipush (v := nI 80) hx hb d_El_push_10 (by decide) ?_
  refine j_le C k 80 rfl rfl (by omega) (by omega) d_El_push_12 rfl (fun hc2 => ?_) (fun hc2 => absurd hc2 (by omega))
  refine lv_aload_n hx hb d_El_push_17 rfl (lv_at hl 1 rfl) ?_
  refine lv_iload_n hx hb d_El_push_18 rfl (lv_at hl 2 rfl) ?_
  refine lv_aload_n hx hb d_El_push_19 rfl (lv_at hl 0 rfl) ?_
  refine n_get C fg_El_9 hP 0 rfl rfl d_El_push_20 ?_
  refine lv_aload_n hx hb d_El_push_23 rfl (lv_at hl 0 rfl) ?_
  refine lv_aload_n hx hb d_El_push_24 rfl (lv_at hl 0 rfl) ?_
  refine n_get C fg_El_17 hP 0 rfl rfl d_El_push_25 ?_
  refine cal_I (As := [.int (nI n)]) (rest := [.ref eb, .int (nI i), .ref eb]) C lk_El_21 (c_El_place l E e0 n) (by decide) hP hD hS 0 1 rfl rfl [] rfl (by decide) hl.1 rfl (Nat.le_of_ble_eq_true rfl) d_El_push_28 (fun r3 w1 H locs hp4 hP hD hS => ?_)
  obtain ⟨rfl, rfl⟩ := hp4
  have hP : va_P E.1 clz [(e0, .inr (1, [.ref eb, .ref es, .int (nI n)])), (eb, .inl (E.2.1, 1920, .inl f)), (es, .inl (E.2.2.1, 24, .inl sz))] H := hP
  have hD : va_D A [(e0, .inr (1, [.ref eb, .ref es, .int (nI n)])), (eb, .inl (E.2.1, 1920, .inl f)), (es, .inl (E.2.2.1, 24, .inl sz))] := hD
  refine lv_iload_n hx hb d_El_push_31 rfl (lv_at hl 3 rfl) ?_
  refine n_cpy C lk_El_25 hP hD hS 1 1 rfl rfl i (n * 80) k rfl rfl rfl (by omega) (by omega) ⟨by omega, by omega⟩ (hB) hl.1 (by decide) (by decide) d_El_push_32 (fun H locs hP hD hS => ?_)
  have hP : va_P E.1 clz [(e0, .inr (1, [.ref eb, .ref es, .int (nI n)])), (eb, .inl (E.2.1, 1920, .inl (va_cpy f f i (n * 80) k))), (es, .inl (E.2.2.1, 24, .inl sz))] H := hP
  have hD : va_D A [(e0, .inr (1, [.ref eb, .ref es, .int (nI n)])), (eb, .inl (E.2.1, 1920, .inl (va_cpy f f i (n * 80) k))), (es, .inl (E.2.2.1, 24, .inl sz))] := hD
  refine lv_aload_n hx hb d_El_push_35 rfl (lv_at hl 0 rfl) ?_
  refine n_get C fg_El_13 hP 0 rfl rfl d_El_push_36 ?_
  refine lv_aload_n hx hb d_El_push_39 rfl (lv_at hl 0 rfl) ?_
  refine n_get C fg_El_17 hP 0 rfl rfl d_El_push_40 ?_
  refine lv_iload_n hx hb d_El_push_43 rfl (lv_at hl 3 rfl) ?_
  refine n_iast C hP hD hS 2 rfl n rfl (by omega) (by omega) d_El_push_44 (fun H locs hP hD hS => ?_)
  have hP : va_P E.1 clz [(e0, .inr (1, [.ref eb, .ref es, .int (nI n)])), (eb, .inl (E.2.1, 1920, .inl (va_cpy f f i (n * 80) k))), (es, .inl (E.2.2.1, 24, .inl (upd sz n (nI k))))] H := hP
  have hD : va_D A [(e0, .inr (1, [.ref eb, .ref es, .int (nI n)])), (eb, .inl (E.2.1, 1920, .inl (va_cpy f f i (n * 80) k))), (es, .inl (E.2.2.1, 24, .inl (upd sz n (nI k))))] := hD
  refine lv_aload_n hx hb d_El_push_45 rfl (lv_at hl 0 rfl) ?_
  refine lv_dup hx hb d_El_push_46 rfl ?_
  refine n_get C fg_El_17 hP 0 rfl rfl d_El_push_47 ?_
  refine lv_iconst (v := nI 1) hx hb d_El_push_50 (by decide) ?_
  refine lv_iadd hx hb d_El_push_51 ?_
  refine tope (z := nI (n + 1)) (nI_add _ _) ?_
  refine n_put (v := .int (nI (n + 1))) C fp_El_17 hP hD hS 0 rfl (rfl) rfl (Nat.le_of_ble_eq_true rfl) d_El_push_52 (fun H locs hP hD hS => ?_)
  have hP : va_P E.1 clz [(e0, .inr (1, [.ref eb, .ref es, .int (nI (n + 1))])), (eb, .inl (E.2.1, 1920, .inl (va_cpy f f i (n * 80) k))), (es, .inl (E.2.2.1, 24, .inl (upd sz n (nI k))))] H := hP
  have hD : va_D A [(e0, .inr (1, [.ref eb, .ref es, .int (nI (n + 1))])), (eb, .inl (E.2.1, 1920, .inl (va_cpy f f i (n * 80) k))), (es, .inl (E.2.2.1, 24, .inl (upd sz n (nI k))))] := hD
  refine lv_iconst (v := nI 1) hx hb d_El_push_55 (by decide) ?_
  exact kret (nI 1) [(e0, .inr (1, [.ref eb, .ref es, .int (nI (n + 1))])), (eb, .inl (E.2.1, 1920, .inl (va_cpy f f i (n * 80) k))), (es, .inl (E.2.2.1, 24, .inl (upd sz n (nI k))))] _ _ _ _ d_El_push_56 (⟨rfl, rfl⟩) rfl hP hS

set_option maxHeartbeats 4000000 in
set_option maxRecDepth 100000 in
theorem c_El_pushA_full (l : Launch) (E : En) (e0 eb es n : Nat) (f sz : Nat → Int32) (i k : Nat) (hn : 24 ≤ n) (hn2 : n < 2 ^ 31) : CtI l y_El_push b_El_push 4 .boolean (rmd 1) E [.ref e0, .ref eb, .int (nI i), .int (nI k)] [(e0, .inr (1, [.ref eb, .ref es, .int (nI n)])), (eb, .inl (E.2.1, 1920, .inl f)), (es, .inl (E.2.2.1, 24, .inl sz))] (fun r w => r = b2 false ∧ w = [(e0, .inr (1, [.ref eb, .ref es, .int (nI n)])), (eb, .inl (E.2.1, 1920, .inl f)), (es, .inl (E.2.2.1, 24, .inl sz))]) := by
  refine CtI.of (by decide) (Nat.le_of_ble_eq_true rfl) (fun r w h => by obtain ⟨rfl, _⟩ := h; exact b2_nar _) ?_
  intro p e s m args below meth c A Q H locs ls C hP hD hS hl kret
  have hx := C.1
  have hb := C.2.1
  have hl : lv_has ls 4 [(0, .ref e0), (1, .ref eb), (2, .int (nI i)), (3, .int (nI k))] := hl
  refine lv_aload_n hx hb d_El_push_0 rfl (lv_at hl 0 rfl) ?_
  refine n_get C fg_El_17 hP 0 rfl rfl d_El_push_1 ?_
  refine lv_bipush (v := nI 24) hx hb d_El_push_4 (by decide) ?_
  refine j_ge C n 24 rfl rfl (by omega) (by omega) d_El_push_6 rfl (fun hc1 => ?_) (fun hc1 => absurd hc1 (by omega))
  refine lv_iconst (v := nI 0) hx hb d_El_push_15 (by decide) ?_
  exact kret (nI 0) [(e0, .inr (1, [.ref eb, .ref es, .int (nI n)])), (eb, .inl (E.2.1, 1920, .inl f)), (es, .inl (E.2.2.1, 24, .inl sz))] _ _ _ _ d_El_push_16 (⟨rfl, rfl⟩) rfl hP hS

def pn4 (f : Nat → Int32) (o : Nat) (v : Int32) : Nat → Int32 := upd (upd (upd (upd f (o + 0) (nb (us v (nI 24)))) (o + 1) (nb (us v (nI 16)))) (o + 2) (nb (us v (nI 8)))) (o + 3) (nb (us v (nI 0)))
def pnz (v : Int32) : Int32 := if v = 0 then nI 0 else nI 4
theorem pnz_0 {v : Int32} (h : v = 0) : pnz v = nI 0 := if_pos h
theorem pnz_4 {v : Int32} (h : ¬ v = 0) : pnz v = nI 4 := if_neg h

set_option maxHeartbeats 4000000 in
set_option maxRecDepth 100000 in
theorem c_El_pushNumber (l : Launch) (E : En) (e0 eb es n : Nat) (f sz : Nat → Int32) (v : Int32) (hn : n < 24) : CtI l y_El_pushNumber b_El_pushNumber 4 .boolean (rmd 1) E [.ref e0, .int v] [(e0, .inr (1, [.ref eb, .ref es, .int (nI n)])), (eb, .inl (E.2.1, 1920, .inl f)), (es, .inl (E.2.2.1, 24, .inl sz))] (fun r w => r = b2 true ∧ w = [(e0, .inr (1, [.ref eb, .ref es, .int (nI (n + 1))])), (eb, .inl (E.2.1, 1920, .inl (pn4 f (n * 80) v))), (es, .inl (E.2.2.1, 24, .inl (upd sz n (pnz v))))]) := by
  refine CtI.of (by decide) (Nat.le_of_ble_eq_true rfl) (fun r w h => by obtain ⟨rfl, _⟩ := h; exact b2_nar _) ?_
  intro p e s m args below meth c A Q H locs ls C hP hD hS hl kret
  have hx := C.1
  have hb := C.2.1
  have hl : lv_has ls 4 [(0, .ref e0), (1, .int v)] := hl
  refine lv_aload_n hx hb d_El_pushNumber_0 rfl (lv_at hl 0 rfl) ?_
  refine n_get C fg_El_17 hP 0 rfl rfl d_El_pushNumber_1 ?_
  refine lv_bipush (v := nI 24) hx hb d_El_pushNumber_4 (by decide) ?_
  refine j_lt C n 24 rfl rfl (by omega) (by omega) d_El_pushNumber_6 rfl (fun hc1 => ?_) (fun hc1 => absurd hc1 (by omega))
  refine lv_aload_n hx hb d_El_pushNumber_11 rfl (lv_at hl 0 rfl) ?_
  refine lv_aload_n hx hb d_El_pushNumber_12 rfl (lv_at hl 0 rfl) ?_
  refine n_get C fg_El_17 hP 0 rfl rfl d_El_pushNumber_13 ?_
  refine cal_I (As := [.int (nI n)]) (rest := []) C lk_El_21 (c_El_place l E e0 n) (by decide) hP hD hS 0 1 rfl rfl [] rfl (by decide) hl.1 rfl (Nat.le_of_ble_eq_true rfl) d_El_pushNumber_16 (fun r2 w1 H locs hp3 hP hD hS => ?_)
  obtain ⟨rfl, rfl⟩ := hp3
  have hP : va_P E.1 clz [(e0, .inr (1, [.ref eb, .ref es, .int (nI n)])), (eb, .inl (E.2.1, 1920, .inl f)), (es, .inl (E.2.2.1, 24, .inl sz))] H := hP
  have hD : va_D A [(e0, .inr (1, [.ref eb, .ref es, .int (nI n)])), (eb, .inl (E.2.1, 1920, .inl f)), (es, .inl (E.2.2.1, 24, .inl sz))] := hD
  refine lv_istore_n (lv' := [(2, .int (nI (n * 80))), (0, .ref e0), (1, .int v)]) hx hb d_El_pushNumber_19 rfl hl (by decide) rfl (fun ls hl => ?_)
  refine lv_iconst (v := nI 0) hx hb d_El_pushNumber_20 (by decide) ?_
  refine lv_istore_n (lv' := [(3, .int (nI 0)), (2, .int (nI (n * 80))), (0, .ref e0), (1, .int v)]) hx hb d_El_pushNumber_21 rfl hl (by decide) rfl (fun ls hl => ?_)
  refine lv_iload_n hx hb d_El_pushNumber_22 rfl (lv_at hl 0 rfl) ?_
  refine lv_iconst (v := nI 4) hx hb d_El_pushNumber_23 (by decide) ?_
  refine j_ge C 0 4 rfl rfl (by decide) (by decide) d_El_pushNumber_24 rfl (fun hc4 => absurd hc4 (by decide)) (fun hc4 => ?_)
  refine lv_aload_n hx hb d_El_pushNumber_27 rfl (lv_at hl 2 rfl) ?_
  refine n_get C fg_El_9 hP 0 rfl rfl d_El_pushNumber_28 ?_
  refine lv_iload_n hx hb d_El_pushNumber_31 rfl (lv_at hl 1 rfl) ?_
  refine lv_iload_n hx hb d_El_pushNumber_32 rfl (lv_at hl 0 rfl) ?_
  refine lv_iadd hx hb d_El_pushNumber_33 ?_
  refine tope (z := nI ((n * 80) + 0)) (nI_add _ _) ?_
  refine lv_iload_n hx hb d_El_pushNumber_34 rfl (lv_at hl 3 rfl) ?_
  refine lv_bipush (v := nI 24) hx hb d_El_pushNumber_35 (by decide) ?_
  refine lv_iload_n hx hb d_El_pushNumber_37 rfl (lv_at hl 0 rfl) ?_
  refine lv_bipush (v := nI 8) hx hb d_El_pushNumber_38 (by decide) ?_
  refine lv_imul hx hb d_El_pushNumber_40 ?_
  refine tope (z := nI 0) (pk_mul _ _) ?_
  refine lv_isub hx hb d_El_pushNumber_41 ?_
  refine tope (z := nI 24) (pk_sub (by omega)) ?_
  refine lv_iushr (v := us v (nI 24)) hx hb d_El_pushNumber_42 rfl ?_
  refine lv_i2b (v := nb (us v (nI 24))) hx hb d_El_pushNumber_43 rfl ?_
  refine n_bast (z := nb (us v (nI 24))) C hP hD hS 1 rfl ((n * 80) + 0) rfl (nb_nb _) (by omega) (by omega) d_El_pushNumber_44 (fun H locs hP hD hS => ?_)
  have hP : va_P E.1 clz [(e0, .inr (1, [.ref eb, .ref es, .int (nI n)])), (eb, .inl (E.2.1, 1920, .inl (upd f ((n * 80) + 0) (nb (us v (nI 24)))))), (es, .inl (E.2.2.1, 24, .inl sz))] H := hP
  have hD : va_D A [(e0, .inr (1, [.ref eb, .ref es, .int (nI n)])), (eb, .inl (E.2.1, 1920, .inl (upd f ((n * 80) + 0) (nb (us v (nI 24)))))), (es, .inl (E.2.2.1, 24, .inl sz))] := hD
  refine lv_iinc (k := 0) (v := nI 1) (lv' := [(3, .int (nI 1)), (2, .int (nI (n * 80))), (0, .ref e0), (1, .int v)]) hx hb d_El_pushNumber_45 hl rfl (iincK 0 1) (by decide) rfl (fun ls hl => ?_)
  refine lv_goto hx hb d_El_pushNumber_48 rfl ?_
  refine lv_iload_n hx hb d_El_pushNumber_22 rfl (lv_at hl 0 rfl) ?_
  refine lv_iconst (v := nI 4) hx hb d_El_pushNumber_23 (by decide) ?_
  refine j_ge C 1 4 rfl rfl (by decide) (by decide) d_El_pushNumber_24 rfl (fun hc5 => absurd hc5 (by decide)) (fun hc5 => ?_)
  refine lv_aload_n hx hb d_El_pushNumber_27 rfl (lv_at hl 2 rfl) ?_
  refine n_get C fg_El_9 hP 0 rfl rfl d_El_pushNumber_28 ?_
  refine lv_iload_n hx hb d_El_pushNumber_31 rfl (lv_at hl 1 rfl) ?_
  refine lv_iload_n hx hb d_El_pushNumber_32 rfl (lv_at hl 0 rfl) ?_
  refine lv_iadd hx hb d_El_pushNumber_33 ?_
  refine tope (z := nI ((n * 80) + 1)) (nI_add _ _) ?_
  refine lv_iload_n hx hb d_El_pushNumber_34 rfl (lv_at hl 3 rfl) ?_
  refine lv_bipush (v := nI 24) hx hb d_El_pushNumber_35 (by decide) ?_
  refine lv_iload_n hx hb d_El_pushNumber_37 rfl (lv_at hl 0 rfl) ?_
  refine lv_bipush (v := nI 8) hx hb d_El_pushNumber_38 (by decide) ?_
  refine lv_imul hx hb d_El_pushNumber_40 ?_
  refine tope (z := nI 8) (pk_mul _ _) ?_
  refine lv_isub hx hb d_El_pushNumber_41 ?_
  refine tope (z := nI 16) (pk_sub (by omega)) ?_
  refine lv_iushr (v := us v (nI 16)) hx hb d_El_pushNumber_42 rfl ?_
  refine lv_i2b (v := nb (us v (nI 16))) hx hb d_El_pushNumber_43 rfl ?_
  refine n_bast (z := nb (us v (nI 16))) C hP hD hS 1 rfl ((n * 80) + 1) rfl (nb_nb _) (by omega) (by omega) d_El_pushNumber_44 (fun H locs hP hD hS => ?_)
  have hP : va_P E.1 clz [(e0, .inr (1, [.ref eb, .ref es, .int (nI n)])), (eb, .inl (E.2.1, 1920, .inl (upd (upd f ((n * 80) + 0) (nb (us v (nI 24)))) ((n * 80) + 1) (nb (us v (nI 16)))))), (es, .inl (E.2.2.1, 24, .inl sz))] H := hP
  have hD : va_D A [(e0, .inr (1, [.ref eb, .ref es, .int (nI n)])), (eb, .inl (E.2.1, 1920, .inl (upd (upd f ((n * 80) + 0) (nb (us v (nI 24)))) ((n * 80) + 1) (nb (us v (nI 16)))))), (es, .inl (E.2.2.1, 24, .inl sz))] := hD
  refine lv_iinc (k := 0) (v := nI 2) (lv' := [(3, .int (nI 2)), (2, .int (nI (n * 80))), (0, .ref e0), (1, .int v)]) hx hb d_El_pushNumber_45 hl rfl (iincK 1 1) (by decide) rfl (fun ls hl => ?_)
  refine lv_goto hx hb d_El_pushNumber_48 rfl ?_
  refine lv_iload_n hx hb d_El_pushNumber_22 rfl (lv_at hl 0 rfl) ?_
  refine lv_iconst (v := nI 4) hx hb d_El_pushNumber_23 (by decide) ?_
  refine j_ge C 2 4 rfl rfl (by decide) (by decide) d_El_pushNumber_24 rfl (fun hc6 => absurd hc6 (by decide)) (fun hc6 => ?_)
  refine lv_aload_n hx hb d_El_pushNumber_27 rfl (lv_at hl 2 rfl) ?_
  refine n_get C fg_El_9 hP 0 rfl rfl d_El_pushNumber_28 ?_
  refine lv_iload_n hx hb d_El_pushNumber_31 rfl (lv_at hl 1 rfl) ?_
  refine lv_iload_n hx hb d_El_pushNumber_32 rfl (lv_at hl 0 rfl) ?_
  refine lv_iadd hx hb d_El_pushNumber_33 ?_
  refine tope (z := nI ((n * 80) + 2)) (nI_add _ _) ?_
  refine lv_iload_n hx hb d_El_pushNumber_34 rfl (lv_at hl 3 rfl) ?_
  refine lv_bipush (v := nI 24) hx hb d_El_pushNumber_35 (by decide) ?_
  refine lv_iload_n hx hb d_El_pushNumber_37 rfl (lv_at hl 0 rfl) ?_
  refine lv_bipush (v := nI 8) hx hb d_El_pushNumber_38 (by decide) ?_
  refine lv_imul hx hb d_El_pushNumber_40 ?_
  refine tope (z := nI 16) (pk_mul _ _) ?_
  refine lv_isub hx hb d_El_pushNumber_41 ?_
  refine tope (z := nI 8) (pk_sub (by omega)) ?_
  refine lv_iushr (v := us v (nI 8)) hx hb d_El_pushNumber_42 rfl ?_
  refine lv_i2b (v := nb (us v (nI 8))) hx hb d_El_pushNumber_43 rfl ?_
  refine n_bast (z := nb (us v (nI 8))) C hP hD hS 1 rfl ((n * 80) + 2) rfl (nb_nb _) (by omega) (by omega) d_El_pushNumber_44 (fun H locs hP hD hS => ?_)
  have hP : va_P E.1 clz [(e0, .inr (1, [.ref eb, .ref es, .int (nI n)])), (eb, .inl (E.2.1, 1920, .inl (upd (upd (upd f ((n * 80) + 0) (nb (us v (nI 24)))) ((n * 80) + 1) (nb (us v (nI 16)))) ((n * 80) + 2) (nb (us v (nI 8)))))), (es, .inl (E.2.2.1, 24, .inl sz))] H := hP
  have hD : va_D A [(e0, .inr (1, [.ref eb, .ref es, .int (nI n)])), (eb, .inl (E.2.1, 1920, .inl (upd (upd (upd f ((n * 80) + 0) (nb (us v (nI 24)))) ((n * 80) + 1) (nb (us v (nI 16)))) ((n * 80) + 2) (nb (us v (nI 8)))))), (es, .inl (E.2.2.1, 24, .inl sz))] := hD
  refine lv_iinc (k := 0) (v := nI 3) (lv' := [(3, .int (nI 3)), (2, .int (nI (n * 80))), (0, .ref e0), (1, .int v)]) hx hb d_El_pushNumber_45 hl rfl (iincK 2 1) (by decide) rfl (fun ls hl => ?_)
  refine lv_goto hx hb d_El_pushNumber_48 rfl ?_
  refine lv_iload_n hx hb d_El_pushNumber_22 rfl (lv_at hl 0 rfl) ?_
  refine lv_iconst (v := nI 4) hx hb d_El_pushNumber_23 (by decide) ?_
  refine j_ge C 3 4 rfl rfl (by decide) (by decide) d_El_pushNumber_24 rfl (fun hc7 => absurd hc7 (by decide)) (fun hc7 => ?_)
  refine lv_aload_n hx hb d_El_pushNumber_27 rfl (lv_at hl 2 rfl) ?_
  refine n_get C fg_El_9 hP 0 rfl rfl d_El_pushNumber_28 ?_
  refine lv_iload_n hx hb d_El_pushNumber_31 rfl (lv_at hl 1 rfl) ?_
  refine lv_iload_n hx hb d_El_pushNumber_32 rfl (lv_at hl 0 rfl) ?_
  refine lv_iadd hx hb d_El_pushNumber_33 ?_
  refine tope (z := nI ((n * 80) + 3)) (nI_add _ _) ?_
  refine lv_iload_n hx hb d_El_pushNumber_34 rfl (lv_at hl 3 rfl) ?_
  refine lv_bipush (v := nI 24) hx hb d_El_pushNumber_35 (by decide) ?_
  refine lv_iload_n hx hb d_El_pushNumber_37 rfl (lv_at hl 0 rfl) ?_
  refine lv_bipush (v := nI 8) hx hb d_El_pushNumber_38 (by decide) ?_
  refine lv_imul hx hb d_El_pushNumber_40 ?_
  refine tope (z := nI 24) (pk_mul _ _) ?_
  refine lv_isub hx hb d_El_pushNumber_41 ?_
  refine tope (z := nI 0) (pk_sub (by omega)) ?_
  refine lv_iushr (v := us v (nI 0)) hx hb d_El_pushNumber_42 rfl ?_
  refine lv_i2b (v := nb (us v (nI 0))) hx hb d_El_pushNumber_43 rfl ?_
  refine n_bast (z := nb (us v (nI 0))) C hP hD hS 1 rfl ((n * 80) + 3) rfl (nb_nb _) (by omega) (by omega) d_El_pushNumber_44 (fun H locs hP hD hS => ?_)
  have hP : va_P E.1 clz [(e0, .inr (1, [.ref eb, .ref es, .int (nI n)])), (eb, .inl (E.2.1, 1920, .inl (upd (upd (upd (upd f ((n * 80) + 0) (nb (us v (nI 24)))) ((n * 80) + 1) (nb (us v (nI 16)))) ((n * 80) + 2) (nb (us v (nI 8)))) ((n * 80) + 3) (nb (us v (nI 0)))))), (es, .inl (E.2.2.1, 24, .inl sz))] H := hP
  have hD : va_D A [(e0, .inr (1, [.ref eb, .ref es, .int (nI n)])), (eb, .inl (E.2.1, 1920, .inl (upd (upd (upd (upd f ((n * 80) + 0) (nb (us v (nI 24)))) ((n * 80) + 1) (nb (us v (nI 16)))) ((n * 80) + 2) (nb (us v (nI 8)))) ((n * 80) + 3) (nb (us v (nI 0)))))), (es, .inl (E.2.2.1, 24, .inl sz))] := hD
  refine lv_iinc (k := 0) (v := nI 4) (lv' := [(3, .int (nI 4)), (2, .int (nI (n * 80))), (0, .ref e0), (1, .int v)]) hx hb d_El_pushNumber_45 hl rfl (iincK 3 1) (by decide) rfl (fun ls hl => ?_)
  refine lv_goto hx hb d_El_pushNumber_48 rfl ?_
  refine lv_iload_n hx hb d_El_pushNumber_22 rfl (lv_at hl 0 rfl) ?_
  refine lv_iconst (v := nI 4) hx hb d_El_pushNumber_23 (by decide) ?_
  refine j_ge C 4 4 rfl rfl (by decide) (by decide) d_El_pushNumber_24 rfl (fun hc8 => ?_) (fun hc8 => absurd hc8 (by decide))
  refine lv_aload_n hx hb d_El_pushNumber_51 rfl (lv_at hl 2 rfl) ?_
  refine n_get C fg_El_13 hP 0 rfl rfl d_El_pushNumber_52 ?_
  refine lv_aload_n hx hb d_El_pushNumber_55 rfl (lv_at hl 2 rfl) ?_
  refine n_get C fg_El_17 hP 0 rfl rfl d_El_pushNumber_56 ?_
  refine lv_iload_n hx hb d_El_pushNumber_59 rfl (lv_at hl 3 rfl) ?_
  refine lv_if_ne hx hb d_El_pushNumber_60 rfl (fun hc9 => ?_) (fun hc9 => ?_)
  · refine lv_iconst (v := nI 4) hx hb d_El_pushNumber_67 (by decide) ?_
    refine tope (z := pnz v) ((pnz_4 (by assumption)).symm) ?_
    refine n_iast C hP hD hS 2 rfl n rfl (by omega) (by omega) d_El_pushNumber_68 (fun H locs hP hD hS => ?_)
    have hP : va_P E.1 clz [(e0, .inr (1, [.ref eb, .ref es, .int (nI n)])), (eb, .inl (E.2.1, 1920, .inl (upd (upd (upd (upd f ((n * 80) + 0) (nb (us v (nI 24)))) ((n * 80) + 1) (nb (us v (nI 16)))) ((n * 80) + 2) (nb (us v (nI 8)))) ((n * 80) + 3) (nb (us v (nI 0)))))), (es, .inl (E.2.2.1, 24, .inl (upd sz n (pnz v))))] H := hP
    have hD : va_D A [(e0, .inr (1, [.ref eb, .ref es, .int (nI n)])), (eb, .inl (E.2.1, 1920, .inl (upd (upd (upd (upd f ((n * 80) + 0) (nb (us v (nI 24)))) ((n * 80) + 1) (nb (us v (nI 16)))) ((n * 80) + 2) (nb (us v (nI 8)))) ((n * 80) + 3) (nb (us v (nI 0)))))), (es, .inl (E.2.2.1, 24, .inl (upd sz n (pnz v))))] := hD
    refine lv_aload_n hx hb d_El_pushNumber_69 rfl (lv_at hl 2 rfl) ?_
    refine lv_dup hx hb d_El_pushNumber_70 rfl ?_
    refine n_get C fg_El_17 hP 0 rfl rfl d_El_pushNumber_71 ?_
    refine lv_iconst (v := nI 1) hx hb d_El_pushNumber_74 (by decide) ?_
    refine lv_iadd hx hb d_El_pushNumber_75 ?_
    refine tope (z := nI (n + 1)) (nI_add _ _) ?_
    refine n_put (v := .int (nI (n + 1))) C fp_El_17 hP hD hS 0 rfl (rfl) rfl (Nat.le_of_ble_eq_true rfl) d_El_pushNumber_76 (fun H locs hP hD hS => ?_)
    have hP : va_P E.1 clz [(e0, .inr (1, [.ref eb, .ref es, .int (nI (n + 1))])), (eb, .inl (E.2.1, 1920, .inl (upd (upd (upd (upd f ((n * 80) + 0) (nb (us v (nI 24)))) ((n * 80) + 1) (nb (us v (nI 16)))) ((n * 80) + 2) (nb (us v (nI 8)))) ((n * 80) + 3) (nb (us v (nI 0)))))), (es, .inl (E.2.2.1, 24, .inl (upd sz n (pnz v))))] H := hP
    have hD : va_D A [(e0, .inr (1, [.ref eb, .ref es, .int (nI (n + 1))])), (eb, .inl (E.2.1, 1920, .inl (upd (upd (upd (upd f ((n * 80) + 0) (nb (us v (nI 24)))) ((n * 80) + 1) (nb (us v (nI 16)))) ((n * 80) + 2) (nb (us v (nI 8)))) ((n * 80) + 3) (nb (us v (nI 0)))))), (es, .inl (E.2.2.1, 24, .inl (upd sz n (pnz v))))] := hD
    refine lv_iconst (v := nI 1) hx hb d_El_pushNumber_79 (by decide) ?_
    exact kret (nI 1) [(e0, .inr (1, [.ref eb, .ref es, .int (nI (n + 1))])), (eb, .inl (E.2.1, 1920, .inl (upd (upd (upd (upd f ((n * 80) + 0) (nb (us v (nI 24)))) ((n * 80) + 1) (nb (us v (nI 16)))) ((n * 80) + 2) (nb (us v (nI 8)))) ((n * 80) + 3) (nb (us v (nI 0)))))), (es, .inl (E.2.2.1, 24, .inl (upd sz n (pnz v))))] _ _ _ _ d_El_pushNumber_80 (⟨rfl, rfl⟩) rfl hP hS
  · refine lv_iconst (v := nI 0) hx hb d_El_pushNumber_63 (by decide) ?_
    refine lv_goto hx hb d_El_pushNumber_64 rfl ?_
    refine tope (z := pnz v) ((pnz_0 (by assumption)).symm) ?_
    refine n_iast C hP hD hS 2 rfl n rfl (by omega) (by omega) d_El_pushNumber_68 (fun H locs hP hD hS => ?_)
    have hP : va_P E.1 clz [(e0, .inr (1, [.ref eb, .ref es, .int (nI n)])), (eb, .inl (E.2.1, 1920, .inl (upd (upd (upd (upd f ((n * 80) + 0) (nb (us v (nI 24)))) ((n * 80) + 1) (nb (us v (nI 16)))) ((n * 80) + 2) (nb (us v (nI 8)))) ((n * 80) + 3) (nb (us v (nI 0)))))), (es, .inl (E.2.2.1, 24, .inl (upd sz n (pnz v))))] H := hP
    have hD : va_D A [(e0, .inr (1, [.ref eb, .ref es, .int (nI n)])), (eb, .inl (E.2.1, 1920, .inl (upd (upd (upd (upd f ((n * 80) + 0) (nb (us v (nI 24)))) ((n * 80) + 1) (nb (us v (nI 16)))) ((n * 80) + 2) (nb (us v (nI 8)))) ((n * 80) + 3) (nb (us v (nI 0)))))), (es, .inl (E.2.2.1, 24, .inl (upd sz n (pnz v))))] := hD
    refine lv_aload_n hx hb d_El_pushNumber_69 rfl (lv_at hl 2 rfl) ?_
    refine lv_dup hx hb d_El_pushNumber_70 rfl ?_
    refine n_get C fg_El_17 hP 0 rfl rfl d_El_pushNumber_71 ?_
    refine lv_iconst (v := nI 1) hx hb d_El_pushNumber_74 (by decide) ?_
    refine lv_iadd hx hb d_El_pushNumber_75 ?_
    refine tope (z := nI (n + 1)) (nI_add _ _) ?_
    refine n_put (v := .int (nI (n + 1))) C fp_El_17 hP hD hS 0 rfl (rfl) rfl (Nat.le_of_ble_eq_true rfl) d_El_pushNumber_76 (fun H locs hP hD hS => ?_)
    have hP : va_P E.1 clz [(e0, .inr (1, [.ref eb, .ref es, .int (nI (n + 1))])), (eb, .inl (E.2.1, 1920, .inl (upd (upd (upd (upd f ((n * 80) + 0) (nb (us v (nI 24)))) ((n * 80) + 1) (nb (us v (nI 16)))) ((n * 80) + 2) (nb (us v (nI 8)))) ((n * 80) + 3) (nb (us v (nI 0)))))), (es, .inl (E.2.2.1, 24, .inl (upd sz n (pnz v))))] H := hP
    have hD : va_D A [(e0, .inr (1, [.ref eb, .ref es, .int (nI (n + 1))])), (eb, .inl (E.2.1, 1920, .inl (upd (upd (upd (upd f ((n * 80) + 0) (nb (us v (nI 24)))) ((n * 80) + 1) (nb (us v (nI 16)))) ((n * 80) + 2) (nb (us v (nI 8)))) ((n * 80) + 3) (nb (us v (nI 0)))))), (es, .inl (E.2.2.1, 24, .inl (upd sz n (pnz v))))] := hD
    refine lv_iconst (v := nI 1) hx hb d_El_pushNumber_79 (by decide) ?_
    exact kret (nI 1) [(e0, .inr (1, [.ref eb, .ref es, .int (nI (n + 1))])), (eb, .inl (E.2.1, 1920, .inl (upd (upd (upd (upd f ((n * 80) + 0) (nb (us v (nI 24)))) ((n * 80) + 1) (nb (us v (nI 16)))) ((n * 80) + 2) (nb (us v (nI 8)))) ((n * 80) + 3) (nb (us v (nI 0)))))), (es, .inl (E.2.2.1, 24, .inl (upd sz n (pnz v))))] _ _ _ _ d_El_pushNumber_80 (⟨rfl, rfl⟩) rfl hP hS

set_option maxHeartbeats 4000000 in
set_option maxRecDepth 100000 in
theorem c_El_pushNumber_full (l : Launch) (E : En) (e0 eb es n : Nat) (f sz : Nat → Int32) (v : Int32) (hn : 24 ≤ n) (hn2 : n < 2 ^ 31) : CtI l y_El_pushNumber b_El_pushNumber 4 .boolean (rmd 1) E [.ref e0, .int v] [(e0, .inr (1, [.ref eb, .ref es, .int (nI n)])), (eb, .inl (E.2.1, 1920, .inl f)), (es, .inl (E.2.2.1, 24, .inl sz))] (fun r w => r = b2 false ∧ w = [(e0, .inr (1, [.ref eb, .ref es, .int (nI n)])), (eb, .inl (E.2.1, 1920, .inl f)), (es, .inl (E.2.2.1, 24, .inl sz))]) := by
  refine CtI.of (by decide) (Nat.le_of_ble_eq_true rfl) (fun r w h => by obtain ⟨rfl, _⟩ := h; exact b2_nar _) ?_
  intro p e s m args below meth c A Q H locs ls C hP hD hS hl kret
  have hx := C.1
  have hb := C.2.1
  have hl : lv_has ls 4 [(0, .ref e0), (1, .int v)] := hl
  refine lv_aload_n hx hb d_El_pushNumber_0 rfl (lv_at hl 0 rfl) ?_
  refine n_get C fg_El_17 hP 0 rfl rfl d_El_pushNumber_1 ?_
  refine lv_bipush (v := nI 24) hx hb d_El_pushNumber_4 (by decide) ?_
  refine j_lt C n 24 rfl rfl (by omega) (by omega) d_El_pushNumber_6 rfl (fun hc1 => absurd hc1 (by omega)) (fun hc1 => ?_)
  refine lv_iconst (v := nI 0) hx hb d_El_pushNumber_9 (by decide) ?_
  exact kret (nI 0) [(e0, .inr (1, [.ref eb, .ref es, .int (nI n)])), (eb, .inl (E.2.1, 1920, .inl f)), (es, .inl (E.2.2.1, 24, .inl sz))] _ _ _ _ d_El_pushNumber_10 (⟨rfl, rfl⟩) rfl hP hS

set_option maxHeartbeats 4000000 in
set_option maxRecDepth 100000 in
theorem c_El_pushCopy (l : Launch) (E : En) (e0 eb es n : Nat) (f sz : Nat → Int32) (j k : Nat) (hj : j < n) (hz : sz j = nI k) (hk : k ≤ 80) (hn : n < 24) (hB : fB f) : CtI l y_El_pushCopy b_El_pushCopy 2 .boolean (rmd 2) E [.ref e0, .int (nI j)] [(e0, .inr (1, [.ref eb, .ref es, .int (nI n)])), (eb, .inl (E.2.1, 1920, .inl f)), (es, .inl (E.2.2.1, 24, .inl sz))] (fun r w => r = b2 true ∧ w = [(e0, .inr (1, [.ref eb, .ref es, .int (nI (n + 1))])), (eb, .inl (E.2.1, 1920, .inl (va_cpy f f (j * 80) (n * 80) k))), (es, .inl (E.2.2.1, 24, .inl (upd sz n (nI k))))]) := by
  refine CtI.of (by decide) (Nat.le_of_ble_eq_true rfl) (fun r w h => by obtain ⟨rfl, _⟩ := h; exact b2_nar _) ?_
  intro p e s m args below meth c A Q H locs ls C hP hD hS hl kret
  have hx := C.1
  have hb := C.2.1
  have hl : lv_has ls 2 [(0, .ref e0), (1, .int (nI j))] := hl
  refine lv_aload_n hx hb d_El_pushCopy_0 rfl (lv_at hl 0 rfl) ?_
  refine lv_iload_n hx hb d_El_pushCopy_1 rfl (lv_at hl 1 rfl) ?_
  refine cal_I (As := [.int (nI j)]) (rest := []) C lk_El_31 (c_El_has l E e0 eb es n (nI j)) (by decide) hP hD hS 0 1 rfl rfl [0] rfl (by decide) hl.1 rfl (Nat.le_of_ble_eq_true rfl) d_El_pushCopy_2 (fun r1 w1 H locs hp2 hP hD hS => ?_)
  obtain ⟨rfl, rfl⟩ := hp2
  have hP : va_P E.1 clz [(e0, .inr (1, [.ref eb, .ref es, .int (nI n)])), (eb, .inl (E.2.1, 1920, .inl f)), (es, .inl (E.2.2.1, 24, .inl sz))] H := hP
  have hD : va_D A [(e0, .inr (1, [.ref eb, .ref es, .int (nI n)])), (eb, .inl (E.2.1, 1920, .inl f)), (es, .inl (E.2.2.1, 24, .inl sz))] := hD
  refine tope (z := b2 true) (congrArg b2 ((hasB_nI (by omega) (by omega)).trans (decide_eq_true (by omega)))) ?_
  refine zb_eq C true rfl d_El_pushCopy_5 rfl (fun hc3 => absurd hc3 (by simp_all)) (fun hc3 => ?_)
  refine lv_aload_n hx hb d_El_pushCopy_8 rfl (lv_at hl 0 rfl) ?_
  refine lv_aload_n hx hb d_El_pushCopy_9 rfl (lv_at hl 0 rfl) ?_
  refine n_get C fg_El_9 hP 0 rfl rfl d_El_pushCopy_10 ?_
  refine lv_aload_n hx hb d_El_pushCopy_13 rfl (lv_at hl 0 rfl) ?_
  refine lv_iload_n hx hb d_El_pushCopy_14 rfl (lv_at hl 1 rfl) ?_
  refine cal_I (As := [.int (nI j)]) (rest := [.ref eb, .ref e0]) C lk_El_21 (c_El_place l E e0 j) (by decide) hP hD hS 0 1 rfl rfl [] rfl (by decide) hl.1 rfl (Nat.le_of_ble_eq_true rfl) d_El_pushCopy_15 (fun r4 w1 H locs hp5 hP hD hS => ?_)
  obtain ⟨rfl, rfl⟩ := hp5
  have hP : va_P E.1 clz [(e0, .inr (1, [.ref eb, .ref es, .int (nI n)])), (eb, .inl (E.2.1, 1920, .inl f)), (es, .inl (E.2.2.1, 24, .inl sz))] H := hP
  have hD : va_D A [(e0, .inr (1, [.ref eb, .ref es, .int (nI n)])), (eb, .inl (E.2.1, 1920, .inl f)), (es, .inl (E.2.2.1, 24, .inl sz))] := hD
  refine lv_aload_n hx hb d_El_pushCopy_18 rfl (lv_at hl 0 rfl) ?_
  refine n_get C fg_El_13 hP 0 rfl rfl d_El_pushCopy_19 ?_
  refine lv_iload_n hx hb d_El_pushCopy_22 rfl (lv_at hl 1 rfl) ?_
  refine n_iald C hP 2 rfl j rfl (by omega) (by omega) d_El_pushCopy_23 ?_
  refine tope (z := nI k) (hz) ?_
  refine cal_I (As := [.ref eb, .int (nI (j * 80)), .int (nI k)]) (rest := []) C lk_El_35 (c_El_pushA l E e0 eb es n f sz (j * 80) k (by omega) (by omega) (by omega) (hB)) (by decide) hP hD hS 0 1 rfl rfl [0, 1, 2] rfl (by decide) hl.1 rfl (Nat.le_of_ble_eq_true rfl) d_El_pushCopy_24 (fun r6 w1 H locs hp7 hP hD hS => ?_)
  obtain ⟨rfl, rfl⟩ := hp7
  have hP : va_P E.1 clz [(e0, .inr (1, [.ref eb, .ref es, .int (nI (n + 1))])), (eb, .inl (E.2.1, 1920, .inl (va_cpy f f (j * 80) (n * 80) k))), (es, .inl (E.2.2.1, 24, .inl (upd sz n (nI k))))] H := hP
  have hD : va_D A [(e0, .inr (1, [.ref eb, .ref es, .int (nI (n + 1))])), (eb, .inl (E.2.1, 1920, .inl (va_cpy f f (j * 80) (n * 80) k))), (es, .inl (E.2.2.1, 24, .inl (upd sz n (nI k))))] := hD
  refine zb_eq C true rfl d_El_pushCopy_27 rfl (fun hc8 => absurd hc8 (by simp_all)) (fun hc8 => ?_)
  refine lv_iconst (v := nI 1) hx hb d_El_pushCopy_30 (by decide) ?_
  refine lv_goto hx hb d_El_pushCopy_31 rfl ?_
  exact kret (nI 1) [(e0, .inr (1, [.ref eb, .ref es, .int (nI (n + 1))])), (eb, .inl (E.2.1, 1920, .inl (va_cpy f f (j * 80) (n * 80) k))), (es, .inl (E.2.2.1, 24, .inl (upd sz n (nI k))))] _ _ _ _ d_El_pushCopy_35 (⟨rfl, rfl⟩) rfl hP hS

set_option maxHeartbeats 4000000 in
set_option maxRecDepth 100000 in
theorem c_El_pushCopy_full (l : Launch) (E : En) (e0 eb es n : Nat) (f sz : Nat → Int32) (j k : Nat) (hj : j < n) (hz : sz j = nI k) (hk : k ≤ 80) (hn : 24 ≤ n) (hn2 : n ≤ 24) : CtI l y_El_pushCopy b_El_pushCopy 2 .boolean (rmd 2) E [.ref e0, .int (nI j)] [(e0, .inr (1, [.ref eb, .ref es, .int (nI n)])), (eb, .inl (E.2.1, 1920, .inl f)), (es, .inl (E.2.2.1, 24, .inl sz))] (fun r w => r = b2 false ∧ w = [(e0, .inr (1, [.ref eb, .ref es, .int (nI n)])), (eb, .inl (E.2.1, 1920, .inl f)), (es, .inl (E.2.2.1, 24, .inl sz))]) := by
  refine CtI.of (by decide) (Nat.le_of_ble_eq_true rfl) (fun r w h => by obtain ⟨rfl, _⟩ := h; exact b2_nar _) ?_
  intro p e s m args below meth c A Q H locs ls C hP hD hS hl kret
  have hx := C.1
  have hb := C.2.1
  have hl : lv_has ls 2 [(0, .ref e0), (1, .int (nI j))] := hl
  refine lv_aload_n hx hb d_El_pushCopy_0 rfl (lv_at hl 0 rfl) ?_
  refine lv_iload_n hx hb d_El_pushCopy_1 rfl (lv_at hl 1 rfl) ?_
  refine cal_I (As := [.int (nI j)]) (rest := []) C lk_El_31 (c_El_has l E e0 eb es n (nI j)) (by decide) hP hD hS 0 1 rfl rfl [0] rfl (by decide) hl.1 rfl (Nat.le_of_ble_eq_true rfl) d_El_pushCopy_2 (fun r1 w1 H locs hp2 hP hD hS => ?_)
  obtain ⟨rfl, rfl⟩ := hp2
  have hP : va_P E.1 clz [(e0, .inr (1, [.ref eb, .ref es, .int (nI n)])), (eb, .inl (E.2.1, 1920, .inl f)), (es, .inl (E.2.2.1, 24, .inl sz))] H := hP
  have hD : va_D A [(e0, .inr (1, [.ref eb, .ref es, .int (nI n)])), (eb, .inl (E.2.1, 1920, .inl f)), (es, .inl (E.2.2.1, 24, .inl sz))] := hD
  refine tope (z := b2 true) (congrArg b2 ((hasB_nI (by omega) (by omega)).trans (decide_eq_true (by omega)))) ?_
  refine zb_eq C true rfl d_El_pushCopy_5 rfl (fun hc3 => absurd hc3 (by simp_all)) (fun hc3 => ?_)
  refine lv_aload_n hx hb d_El_pushCopy_8 rfl (lv_at hl 0 rfl) ?_
  refine lv_aload_n hx hb d_El_pushCopy_9 rfl (lv_at hl 0 rfl) ?_
  refine n_get C fg_El_9 hP 0 rfl rfl d_El_pushCopy_10 ?_
  refine lv_aload_n hx hb d_El_pushCopy_13 rfl (lv_at hl 0 rfl) ?_
  refine lv_iload_n hx hb d_El_pushCopy_14 rfl (lv_at hl 1 rfl) ?_
  refine cal_I (As := [.int (nI j)]) (rest := [.ref eb, .ref e0]) C lk_El_21 (c_El_place l E e0 j) (by decide) hP hD hS 0 1 rfl rfl [] rfl (by decide) hl.1 rfl (Nat.le_of_ble_eq_true rfl) d_El_pushCopy_15 (fun r4 w1 H locs hp5 hP hD hS => ?_)
  obtain ⟨rfl, rfl⟩ := hp5
  have hP : va_P E.1 clz [(e0, .inr (1, [.ref eb, .ref es, .int (nI n)])), (eb, .inl (E.2.1, 1920, .inl f)), (es, .inl (E.2.2.1, 24, .inl sz))] H := hP
  have hD : va_D A [(e0, .inr (1, [.ref eb, .ref es, .int (nI n)])), (eb, .inl (E.2.1, 1920, .inl f)), (es, .inl (E.2.2.1, 24, .inl sz))] := hD
  refine lv_aload_n hx hb d_El_pushCopy_18 rfl (lv_at hl 0 rfl) ?_
  refine n_get C fg_El_13 hP 0 rfl rfl d_El_pushCopy_19 ?_
  refine lv_iload_n hx hb d_El_pushCopy_22 rfl (lv_at hl 1 rfl) ?_
  refine n_iald C hP 2 rfl j rfl (by omega) (by omega) d_El_pushCopy_23 ?_
  refine tope (z := nI k) (hz) ?_
  refine cal_I (As := [.ref eb, .int (nI (j * 80)), .int (nI k)]) (rest := []) C lk_El_35 (c_El_pushA_full l E e0 eb es n f sz (j * 80) k (by omega) (by omega)) (by decide) hP hD hS 0 1 rfl rfl [0, 1, 2] rfl (by decide) hl.1 rfl (Nat.le_of_ble_eq_true rfl) d_El_pushCopy_24 (fun r6 w1 H locs hp7 hP hD hS => ?_)
  obtain ⟨rfl, rfl⟩ := hp7
  have hP : va_P E.1 clz [(e0, .inr (1, [.ref eb, .ref es, .int (nI n)])), (eb, .inl (E.2.1, 1920, .inl f)), (es, .inl (E.2.2.1, 24, .inl sz))] H := hP
  have hD : va_D A [(e0, .inr (1, [.ref eb, .ref es, .int (nI n)])), (eb, .inl (E.2.1, 1920, .inl f)), (es, .inl (E.2.2.1, 24, .inl sz))] := hD
  refine zb_eq C false rfl d_El_pushCopy_27 rfl (fun hc8 => ?_) (fun hc8 => absurd hc8 (by simp_all))
  refine lv_iconst (v := nI 0) hx hb d_El_pushCopy_34 (by decide) ?_
  exact kret (nI 0) [(e0, .inr (1, [.ref eb, .ref es, .int (nI n)])), (eb, .inl (E.2.1, 1920, .inl f)), (es, .inl (E.2.2.1, 24, .inl sz))] _ _ _ _ d_El_pushCopy_35 (⟨rfl, rfl⟩) rfl hP hS

set_option maxHeartbeats 4000000 in
set_option maxRecDepth 100000 in
theorem c_El_pushCopy_no (l : Launch) (E : En) (e0 eb es n : Nat) (f sz : Nat → Int32) (k : Int32) (hk : hasB k n = false) : CtI l y_El_pushCopy b_El_pushCopy 2 .boolean (rmd 2) E [.ref e0, .int k] [(e0, .inr (1, [.ref eb, .ref es, .int (nI n)])), (eb, .inl (E.2.1, 1920, .inl f)), (es, .inl (E.2.2.1, 24, .inl sz))] (fun r w => r = b2 false ∧ w = [(e0, .inr (1, [.ref eb, .ref es, .int (nI n)])), (eb, .inl (E.2.1, 1920, .inl f)), (es, .inl (E.2.2.1, 24, .inl sz))]) := by
  refine CtI.of (by decide) (Nat.le_of_ble_eq_true rfl) (fun r w h => by obtain ⟨rfl, _⟩ := h; exact b2_nar _) ?_
  intro p e s m args below meth c A Q H locs ls C hP hD hS hl kret
  have hx := C.1
  have hb := C.2.1
  have hl : lv_has ls 2 [(0, .ref e0), (1, .int k)] := hl
  refine lv_aload_n hx hb d_El_pushCopy_0 rfl (lv_at hl 0 rfl) ?_
  refine lv_iload_n hx hb d_El_pushCopy_1 rfl (lv_at hl 1 rfl) ?_
  refine cal_I (As := [.int k]) (rest := []) C lk_El_31 (c_El_has l E e0 eb es n k) (by decide) hP hD hS 0 1 rfl rfl [0] rfl (by decide) hl.1 rfl (Nat.le_of_ble_eq_true rfl) d_El_pushCopy_2 (fun r1 w1 H locs hp2 hP hD hS => ?_)
  obtain ⟨rfl, rfl⟩ := hp2
  have hP : va_P E.1 clz [(e0, .inr (1, [.ref eb, .ref es, .int (nI n)])), (eb, .inl (E.2.1, 1920, .inl f)), (es, .inl (E.2.2.1, 24, .inl sz))] H := hP
  have hD : va_D A [(e0, .inr (1, [.ref eb, .ref es, .int (nI n)])), (eb, .inl (E.2.1, 1920, .inl f)), (es, .inl (E.2.2.1, 24, .inl sz))] := hD
  refine tope (z := b2 false) (congrArg b2 (hk)) ?_
  refine zb_eq C false rfl d_El_pushCopy_5 rfl (fun hc3 => ?_) (fun hc3 => absurd hc3 (by simp_all))
  refine lv_iconst (v := nI 0) hx hb d_El_pushCopy_34 (by decide) ?_
  exact kret (nI 0) [(e0, .inr (1, [.ref eb, .ref es, .int (nI n)])), (eb, .inl (E.2.1, 1920, .inl f)), (es, .inl (E.2.2.1, 24, .inl sz))] _ _ _ _ d_El_pushCopy_35 (⟨rfl, rfl⟩) rfl hP hS

set_option maxHeartbeats 4000000 in
set_option maxRecDepth 100000 in
theorem c_El_drop (l : Launch) (E : En) (e0 eb es n : Nat) (f sz : Nat → Int32) (k : Nat) (hk : k ≤ n) (hn : n < 2 ^ 31) : CtI l y_El_drop b_El_drop 2 .boolean (rmd 0) E [.ref e0, .int (nI k)] [(e0, .inr (1, [.ref eb, .ref es, .int (nI n)])), (eb, .inl (E.2.1, 1920, .inl f)), (es, .inl (E.2.2.1, 24, .inl sz))] (fun r w => r = b2 true ∧ w = [(e0, .inr (1, [.ref eb, .ref es, .int (nI (n - k))])), (eb, .inl (E.2.1, 1920, .inl f)), (es, .inl (E.2.2.1, 24, .inl sz))]) := by
  refine CtI.of (by decide) (Nat.le_of_ble_eq_true rfl) (fun r w h => by obtain ⟨rfl, _⟩ := h; exact b2_nar _) ?_
  intro p e s m args below meth c A Q H locs ls C hP hD hS hl kret
  have hx := C.1
  have hb := C.2.1
  have hl : lv_has ls 2 [(0, .ref e0), (1, .int (nI k))] := hl
  refine lv_iload_n hx hb d_El_drop_0 rfl (lv_at hl 1 rfl) ?_
  refine lv_aload_n hx hb d_El_drop_1 rfl (lv_at hl 0 rfl) ?_
  refine n_get C fg_El_17 hP 0 rfl rfl d_El_drop_2 ?_
  refine j_le C k n rfl rfl (by omega) (by omega) d_El_drop_5 rfl (fun hc1 => ?_) (fun hc1 => absurd hc1 (by omega))
  refine lv_aload_n hx hb d_El_drop_10 rfl (lv_at hl 0 rfl) ?_
  refine lv_dup hx hb d_El_drop_11 rfl ?_
  refine n_get C fg_El_17 hP 0 rfl rfl d_El_drop_12 ?_
  refine lv_iload_n hx hb d_El_drop_15 rfl (lv_at hl 1 rfl) ?_
  refine lv_isub hx hb d_El_drop_16 ?_
  refine tope (z := nI (n - k)) (pk_sub (by omega)) ?_
  refine n_put (v := .int (nI (n - k))) C fp_El_17 hP hD hS 0 rfl (rfl) rfl (Nat.le_of_ble_eq_true rfl) d_El_drop_17 (fun H locs hP hD hS => ?_)
  have hP : va_P E.1 clz [(e0, .inr (1, [.ref eb, .ref es, .int (nI (n - k))])), (eb, .inl (E.2.1, 1920, .inl f)), (es, .inl (E.2.2.1, 24, .inl sz))] H := hP
  have hD : va_D A [(e0, .inr (1, [.ref eb, .ref es, .int (nI (n - k))])), (eb, .inl (E.2.1, 1920, .inl f)), (es, .inl (E.2.2.1, 24, .inl sz))] := hD
  refine lv_iconst (v := nI 1) hx hb d_El_drop_20 (by decide) ?_
  exact kret (nI 1) [(e0, .inr (1, [.ref eb, .ref es, .int (nI (n - k))])), (eb, .inl (E.2.1, 1920, .inl f)), (es, .inl (E.2.2.1, 24, .inl sz))] _ _ _ _ d_El_drop_21 (⟨rfl, rfl⟩) rfl hP hS

set_option maxHeartbeats 4000000 in
set_option maxRecDepth 100000 in
theorem c_El_drop_no (l : Launch) (E : En) (e0 eb es n : Nat) (f sz : Nat → Int32) (k : Nat) (hk : n < k) (hn : k < 2 ^ 31) : CtI l y_El_drop b_El_drop 2 .boolean (rmd 0) E [.ref e0, .int (nI k)] [(e0, .inr (1, [.ref eb, .ref es, .int (nI n)])), (eb, .inl (E.2.1, 1920, .inl f)), (es, .inl (E.2.2.1, 24, .inl sz))] (fun r w => r = b2 false ∧ w = [(e0, .inr (1, [.ref eb, .ref es, .int (nI n)])), (eb, .inl (E.2.1, 1920, .inl f)), (es, .inl (E.2.2.1, 24, .inl sz))]) := by
  refine CtI.of (by decide) (Nat.le_of_ble_eq_true rfl) (fun r w h => by obtain ⟨rfl, _⟩ := h; exact b2_nar _) ?_
  intro p e s m args below meth c A Q H locs ls C hP hD hS hl kret
  have hx := C.1
  have hb := C.2.1
  have hl : lv_has ls 2 [(0, .ref e0), (1, .int (nI k))] := hl
  refine lv_iload_n hx hb d_El_drop_0 rfl (lv_at hl 1 rfl) ?_
  refine lv_aload_n hx hb d_El_drop_1 rfl (lv_at hl 0 rfl) ?_
  refine n_get C fg_El_17 hP 0 rfl rfl d_El_drop_2 ?_
  refine j_le C k n rfl rfl (by omega) (by omega) d_El_drop_5 rfl (fun hc1 => absurd hc1 (by omega)) (fun hc1 => ?_)
  refine lv_iconst (v := nI 0) hx hb d_El_drop_8 (by decide) ?_
  exact kret (nI 0) [(e0, .inr (1, [.ref eb, .ref es, .int (nI n)])), (eb, .inl (E.2.1, 1920, .inl f)), (es, .inl (E.2.2.1, 24, .inl sz))] _ _ _ _ d_El_drop_9 (⟨rfl, rfl⟩) rfl hP hS

set_option maxHeartbeats 4000000 in
set_option maxRecDepth 100000 in
theorem c_El_replace (l : Launch) (E : En) (e0 eb es n : Nat) (f sz : Nat → Int32) (k : Nat) (v : Int32) (h1 : 1 ≤ k) (hk : k ≤ n) (hn : n ≤ 24) : CtI l y_El_replace b_El_replace 3 .boolean (rmd 2) E [.ref e0, .int (nI k), .int v] [(e0, .inr (1, [.ref eb, .ref es, .int (nI n)])), (eb, .inl (E.2.1, 1920, .inl f)), (es, .inl (E.2.2.1, 24, .inl sz))] (fun r w => r = b2 true ∧ w = [(e0, .inr (1, [.ref eb, .ref es, .int (nI (n - k + 1))])), (eb, .inl (E.2.1, 1920, .inl (pn4 f ((n - k) * 80) v))), (es, .inl (E.2.2.1, 24, .inl (upd sz (n - k) (pnz v))))]) := by
  refine CtI.of (by decide) (Nat.le_of_ble_eq_true rfl) (fun r w h => by obtain ⟨rfl, _⟩ := h; exact b2_nar _) ?_
  intro p e s m args below meth c A Q H locs ls C hP hD hS hl kret
  have hx := C.1
  have hb := C.2.1
  have hl : lv_has ls 3 [(0, .ref e0), (1, .int (nI k)), (2, .int v)] := hl
  refine lv_aload_n hx hb d_El_replace_0 rfl (lv_at hl 0 rfl) ?_
  refine lv_iload_n hx hb d_El_replace_1 rfl (lv_at hl 1 rfl) ?_
  refine cal_I (As := [.int (nI k)]) (rest := []) C lk_El_39 (c_El_drop l E e0 eb es n f sz k (by omega) (by omega)) (by decide) hP hD hS 0 1 rfl rfl [0, 1, 2] rfl (by decide) hl.1 rfl (Nat.le_of_ble_eq_true rfl) d_El_replace_2 (fun r1 w1 H locs hp2 hP hD hS => ?_)
  obtain ⟨rfl, rfl⟩ := hp2
  have hP : va_P E.1 clz [(e0, .inr (1, [.ref eb, .ref es, .int (nI (n - k))])), (eb, .inl (E.2.1, 1920, .inl f)), (es, .inl (E.2.2.1, 24, .inl sz))] H := hP
  have hD : va_D A [(e0, .inr (1, [.ref eb, .ref es, .int (nI (n - k))])), (eb, .inl (E.2.1, 1920, .inl f)), (es, .inl (E.2.2.1, 24, .inl sz))] := hD
  refine zb_eq C true rfl d_El_replace_5 rfl (fun hc3 => absurd hc3 (by simp_all)) (fun hc3 => ?_)
  refine lv_aload_n hx hb d_El_replace_8 rfl (lv_at hl 0 rfl) ?_
  refine lv_iload_n hx hb d_El_replace_9 rfl (lv_at hl 2 rfl) ?_
  refine cal_I (As := [.int v]) (rest := []) C lk_El_42 (c_El_pushNumber l E e0 eb es (n - k) f sz v (by omega)) (by decide) hP hD hS 0 1 rfl rfl [0, 1, 2] rfl (by decide) hl.1 rfl (Nat.le_of_ble_eq_true rfl) d_El_replace_10 (fun r4 w1 H locs hp5 hP hD hS => ?_)
  obtain ⟨rfl, rfl⟩ := hp5
  have hP : va_P E.1 clz [(e0, .inr (1, [.ref eb, .ref es, .int (nI (n - k + 1))])), (eb, .inl (E.2.1, 1920, .inl (pn4 f ((n - k) * 80) v))), (es, .inl (E.2.2.1, 24, .inl (upd sz (n - k) (pnz v))))] H := hP
  have hD : va_D A [(e0, .inr (1, [.ref eb, .ref es, .int (nI (n - k + 1))])), (eb, .inl (E.2.1, 1920, .inl (pn4 f ((n - k) * 80) v))), (es, .inl (E.2.2.1, 24, .inl (upd sz (n - k) (pnz v))))] := hD
  refine zb_eq C true rfl d_El_replace_13 rfl (fun hc6 => absurd hc6 (by simp_all)) (fun hc6 => ?_)
  refine lv_iconst (v := nI 1) hx hb d_El_replace_16 (by decide) ?_
  refine lv_goto hx hb d_El_replace_17 rfl ?_
  exact kret (nI 1) [(e0, .inr (1, [.ref eb, .ref es, .int (nI (n - k + 1))])), (eb, .inl (E.2.1, 1920, .inl (pn4 f ((n - k) * 80) v))), (es, .inl (E.2.2.1, 24, .inl (upd sz (n - k) (pnz v))))] _ _ _ _ d_El_replace_21 (⟨rfl, rfl⟩) rfl hP hS

set_option maxHeartbeats 4000000 in
set_option maxRecDepth 100000 in
theorem c_El_replace_no (l : Launch) (E : En) (e0 eb es n : Nat) (f sz : Nat → Int32) (k : Nat) (v : Int32) (hk : n < k) (hn : k < 2 ^ 31) : CtI l y_El_replace b_El_replace 3 .boolean (rmd 2) E [.ref e0, .int (nI k), .int v] [(e0, .inr (1, [.ref eb, .ref es, .int (nI n)])), (eb, .inl (E.2.1, 1920, .inl f)), (es, .inl (E.2.2.1, 24, .inl sz))] (fun r w => r = b2 false ∧ w = [(e0, .inr (1, [.ref eb, .ref es, .int (nI n)])), (eb, .inl (E.2.1, 1920, .inl f)), (es, .inl (E.2.2.1, 24, .inl sz))]) := by
  refine CtI.of (by decide) (Nat.le_of_ble_eq_true rfl) (fun r w h => by obtain ⟨rfl, _⟩ := h; exact b2_nar _) ?_
  intro p e s m args below meth c A Q H locs ls C hP hD hS hl kret
  have hx := C.1
  have hb := C.2.1
  have hl : lv_has ls 3 [(0, .ref e0), (1, .int (nI k)), (2, .int v)] := hl
  refine lv_aload_n hx hb d_El_replace_0 rfl (lv_at hl 0 rfl) ?_
  refine lv_iload_n hx hb d_El_replace_1 rfl (lv_at hl 1 rfl) ?_
  refine cal_I (As := [.int (nI k)]) (rest := []) C lk_El_39 (c_El_drop_no l E e0 eb es n f sz k (by omega) (by omega)) (by decide) hP hD hS 0 1 rfl rfl [0, 1, 2] rfl (by decide) hl.1 rfl (Nat.le_of_ble_eq_true rfl) d_El_replace_2 (fun r1 w1 H locs hp2 hP hD hS => ?_)
  obtain ⟨rfl, rfl⟩ := hp2
  have hP : va_P E.1 clz [(e0, .inr (1, [.ref eb, .ref es, .int (nI n)])), (eb, .inl (E.2.1, 1920, .inl f)), (es, .inl (E.2.2.1, 24, .inl sz))] H := hP
  have hD : va_D A [(e0, .inr (1, [.ref eb, .ref es, .int (nI n)])), (eb, .inl (E.2.1, 1920, .inl f)), (es, .inl (E.2.2.1, 24, .inl sz))] := hD
  refine zb_eq C false rfl d_El_replace_5 rfl (fun hc3 => ?_) (fun hc3 => absurd hc3 (by simp_all))
  refine lv_iconst (v := nI 0) hx hb d_El_replace_20 (by decide) ?_
  exact kret (nI 0) [(e0, .inr (1, [.ref eb, .ref es, .int (nI n)])), (eb, .inl (E.2.1, 1920, .inl f)), (es, .inl (E.2.2.1, 24, .inl sz))] _ _ _ _ d_El_replace_21 (⟨rfl, rfl⟩) rfl hP hS

set_option maxHeartbeats 4000000 in
set_option maxRecDepth 100000 in
theorem c_El_truth (l : Launch) (E : En) (e0 eb es n : Nat) (f sz : Nat → Int32) (k : Nat) (t : Bool) (h1 : 1 ≤ k) (hk : k ≤ n) (hn : n ≤ 24) : CtI l y_El_replaceByTruth b_El_replaceByTruth 3 .boolean (rmd 3) E [.ref e0, .int (nI k), .int (b2 t)] [(e0, .inr (1, [.ref eb, .ref es, .int (nI n)])), (eb, .inl (E.2.1, 1920, .inl f)), (es, .inl (E.2.2.1, 24, .inl sz))] (fun r w => r = b2 true ∧ w = [(e0, .inr (1, [.ref eb, .ref es, .int (nI (n - k + 1))])), (eb, .inl (E.2.1, 1920, .inl (pn4 f ((n - k) * 80) (b2 t)))), (es, .inl (E.2.2.1, 24, .inl (upd sz (n - k) (pnz (b2 t)))))]) := by
  refine CtI.of (by decide) (Nat.le_of_ble_eq_true rfl) (fun r w h => by obtain ⟨rfl, _⟩ := h; exact b2_nar _) ?_
  intro p e s m args below meth c A Q H locs ls C hP hD hS hl kret
  have hx := C.1
  have hb := C.2.1
  have hl : lv_has ls 3 [(0, .ref e0), (1, .int (nI k)), (2, .int (b2 t))] := hl
  refine lv_aload_n hx hb d_El_replaceByTruth_0 rfl (lv_at hl 0 rfl) ?_
  refine lv_iload_n hx hb d_El_replaceByTruth_1 rfl (lv_at hl 1 rfl) ?_
  refine lv_iload_n hx hb d_El_replaceByTruth_2 rfl (lv_at hl 2 rfl) ?_
  refine zb_eq C t rfl d_El_replaceByTruth_3 rfl (fun hc1 => ?_) (fun hc1 => ?_)
  · subst hc1
    refine lv_iconst (v := nI 0) hx hb d_El_replaceByTruth_10 (by decide) ?_
    refine cal_I (As := [.int (nI k), .int (nI 0)]) (rest := []) C lk_El_45 (c_El_replace l E e0 eb es n f sz k (nI 0) (by omega) (by omega) (by omega)) (by decide) hP hD hS 0 1 rfl rfl [0, 1, 2] rfl (by decide) hl.1 rfl (Nat.le_of_ble_eq_true rfl) d_El_replaceByTruth_11 (fun r2 w1 H locs hp3 hP hD hS => ?_)
    obtain ⟨rfl, rfl⟩ := hp3
    have hP : va_P E.1 clz [(e0, .inr (1, [.ref eb, .ref es, .int (nI (n - k + 1))])), (eb, .inl (E.2.1, 1920, .inl (pn4 f ((n - k) * 80) (nI 0)))), (es, .inl (E.2.2.1, 24, .inl (upd sz (n - k) (pnz (nI 0)))))] H := hP
    have hD : va_D A [(e0, .inr (1, [.ref eb, .ref es, .int (nI (n - k + 1))])), (eb, .inl (E.2.1, 1920, .inl (pn4 f ((n - k) * 80) (nI 0)))), (es, .inl (E.2.2.1, 24, .inl (upd sz (n - k) (pnz (nI 0)))))] := hD
    exact kret (b2 true) [(e0, .inr (1, [.ref eb, .ref es, .int (nI (n - k + 1))])), (eb, .inl (E.2.1, 1920, .inl (pn4 f ((n - k) * 80) (nI 0)))), (es, .inl (E.2.2.1, 24, .inl (upd sz (n - k) (pnz (nI 0)))))] _ _ _ _ d_El_replaceByTruth_14 (⟨rfl, rfl⟩) rfl hP hS
  · subst hc1
    refine lv_iconst (v := nI 1) hx hb d_El_replaceByTruth_6 (by decide) ?_
    refine lv_goto hx hb d_El_replaceByTruth_7 rfl ?_
    refine cal_I (As := [.int (nI k), .int (nI 1)]) (rest := []) C lk_El_45 (c_El_replace l E e0 eb es n f sz k (nI 1) (by omega) (by omega) (by omega)) (by decide) hP hD hS 0 1 rfl rfl [0, 1, 2] rfl (by decide) hl.1 rfl (Nat.le_of_ble_eq_true rfl) d_El_replaceByTruth_11 (fun r4 w1 H locs hp5 hP hD hS => ?_)
    obtain ⟨rfl, rfl⟩ := hp5
    have hP : va_P E.1 clz [(e0, .inr (1, [.ref eb, .ref es, .int (nI (n - k + 1))])), (eb, .inl (E.2.1, 1920, .inl (pn4 f ((n - k) * 80) (nI 1)))), (es, .inl (E.2.2.1, 24, .inl (upd sz (n - k) (pnz (nI 1)))))] H := hP
    have hD : va_D A [(e0, .inr (1, [.ref eb, .ref es, .int (nI (n - k + 1))])), (eb, .inl (E.2.1, 1920, .inl (pn4 f ((n - k) * 80) (nI 1)))), (es, .inl (E.2.2.1, 24, .inl (upd sz (n - k) (pnz (nI 1)))))] := hD
    exact kret (b2 true) [(e0, .inr (1, [.ref eb, .ref es, .int (nI (n - k + 1))])), (eb, .inl (E.2.1, 1920, .inl (pn4 f ((n - k) * 80) (nI 1)))), (es, .inl (E.2.2.1, 24, .inl (upd sz (n - k) (pnz (nI 1)))))] _ _ _ _ d_El_replaceByTruth_14 (⟨rfl, rfl⟩) rfl hP hS

set_option maxHeartbeats 4000000 in
set_option maxRecDepth 100000 in
theorem c_El_truth_no (l : Launch) (E : En) (e0 eb es n : Nat) (f sz : Nat → Int32) (k : Nat) (t : Bool) (hk : n < k) (hn : k < 2 ^ 31) : CtI l y_El_replaceByTruth b_El_replaceByTruth 3 .boolean (rmd 3) E [.ref e0, .int (nI k), .int (b2 t)] [(e0, .inr (1, [.ref eb, .ref es, .int (nI n)])), (eb, .inl (E.2.1, 1920, .inl f)), (es, .inl (E.2.2.1, 24, .inl sz))] (fun r w => r = b2 false ∧ w = [(e0, .inr (1, [.ref eb, .ref es, .int (nI n)])), (eb, .inl (E.2.1, 1920, .inl f)), (es, .inl (E.2.2.1, 24, .inl sz))]) := by
  refine CtI.of (by decide) (Nat.le_of_ble_eq_true rfl) (fun r w h => by obtain ⟨rfl, _⟩ := h; exact b2_nar _) ?_
  intro p e s m args below meth c A Q H locs ls C hP hD hS hl kret
  have hx := C.1
  have hb := C.2.1
  have hl : lv_has ls 3 [(0, .ref e0), (1, .int (nI k)), (2, .int (b2 t))] := hl
  refine lv_aload_n hx hb d_El_replaceByTruth_0 rfl (lv_at hl 0 rfl) ?_
  refine lv_iload_n hx hb d_El_replaceByTruth_1 rfl (lv_at hl 1 rfl) ?_
  refine lv_iload_n hx hb d_El_replaceByTruth_2 rfl (lv_at hl 2 rfl) ?_
  refine zb_eq C t rfl d_El_replaceByTruth_3 rfl (fun hc1 => ?_) (fun hc1 => ?_)
  · subst hc1
    refine lv_iconst (v := nI 0) hx hb d_El_replaceByTruth_10 (by decide) ?_
    refine cal_I (As := [.int (nI k), .int (nI 0)]) (rest := []) C lk_El_45 (c_El_replace_no l E e0 eb es n f sz k (nI 0) (by omega) (by omega)) (by decide) hP hD hS 0 1 rfl rfl [0, 1, 2] rfl (by decide) hl.1 rfl (Nat.le_of_ble_eq_true rfl) d_El_replaceByTruth_11 (fun r2 w1 H locs hp3 hP hD hS => ?_)
    obtain ⟨rfl, rfl⟩ := hp3
    have hP : va_P E.1 clz [(e0, .inr (1, [.ref eb, .ref es, .int (nI n)])), (eb, .inl (E.2.1, 1920, .inl f)), (es, .inl (E.2.2.1, 24, .inl sz))] H := hP
    have hD : va_D A [(e0, .inr (1, [.ref eb, .ref es, .int (nI n)])), (eb, .inl (E.2.1, 1920, .inl f)), (es, .inl (E.2.2.1, 24, .inl sz))] := hD
    exact kret (b2 false) [(e0, .inr (1, [.ref eb, .ref es, .int (nI n)])), (eb, .inl (E.2.1, 1920, .inl f)), (es, .inl (E.2.2.1, 24, .inl sz))] _ _ _ _ d_El_replaceByTruth_14 (⟨rfl, rfl⟩) rfl hP hS
  · subst hc1
    refine lv_iconst (v := nI 1) hx hb d_El_replaceByTruth_6 (by decide) ?_
    refine lv_goto hx hb d_El_replaceByTruth_7 rfl ?_
    refine cal_I (As := [.int (nI k), .int (nI 1)]) (rest := []) C lk_El_45 (c_El_replace_no l E e0 eb es n f sz k (nI 1) (by omega) (by omega)) (by decide) hP hD hS 0 1 rfl rfl [0, 1, 2] rfl (by decide) hl.1 rfl (Nat.le_of_ble_eq_true rfl) d_El_replaceByTruth_11 (fun r4 w1 H locs hp5 hP hD hS => ?_)
    obtain ⟨rfl, rfl⟩ := hp5
    have hP : va_P E.1 clz [(e0, .inr (1, [.ref eb, .ref es, .int (nI n)])), (eb, .inl (E.2.1, 1920, .inl f)), (es, .inl (E.2.2.1, 24, .inl sz))] H := hP
    have hD : va_D A [(e0, .inr (1, [.ref eb, .ref es, .int (nI n)])), (eb, .inl (E.2.1, 1920, .inl f)), (es, .inl (E.2.2.1, 24, .inl sz))] := hD
    exact kret (b2 false) [(e0, .inr (1, [.ref eb, .ref es, .int (nI n)])), (eb, .inl (E.2.1, 1920, .inl f)), (es, .inl (E.2.2.1, 24, .inl sz))] _ _ _ _ d_El_replaceByTruth_14 (⟨rfl, rfl⟩) rfl hP hS
