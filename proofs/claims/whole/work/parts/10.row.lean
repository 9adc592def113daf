set_option maxHeartbeats 4000000 in
set_option maxRecDepth 100000 in
theorem c_Row_hasRoomFor (l : Launch) (E : En) (h0 a M n k : Nat) (f : Nat → Int32) (hn : n ≤ M) (hM : M < 2 ^ 31) (hk : k < 2 ^ 31) : CtI l y_Row_hasRoomFor b_Row_hasRoomFor 2 .boolean (rmd 0) E [.ref h0, .int (nI k)] [(h0, .inr (2, [.ref a, .int (nI n)])), (a, .inl (E.2.1, M, .inl f))] (fun r w => r = b2 (decide (k + n ≤ M)) ∧ w = [(h0, .inr (2, [.ref a, .int (nI n)])), (a, .inl (E.2.1, M, .inl f))]) := by
  refine CtI.of (by decide) (Nat.le_of_ble_eq_true rfl) (fun r w h => by obtain ⟨rfl, _⟩ := h; exact b2_nar _) ?_
  intro p e s m args below meth c A Q H locs ls C hP hD hS hl kret
  have hx := C.1
  have hb := C.2.1
  have hl : lv_has ls 2 [(0, .ref h0), (1, .int (nI k))] := hl
  refine lv_iload_n hx hb d_Row_hasRoomFor_0 rfl (lv_at hl 1 rfl) ?_
  refine lv_aload_n hx hb d_Row_hasRoomFor_1 rfl (lv_at hl 0 rfl) ?_
  refine n_get C fg_Row_7 hP 0 rfl rfl d_Row_hasRoomFor_2 ?_
  refine n_alenB C hP 1 rfl d_Row_hasRoomFor_5 ?_
  refine lv_aload_n hx hb d_Row_hasRoomFor_6 rfl (lv_at hl 0 rfl) ?_
  refine n_get C fg_Row_13 hP 0 rfl rfl d_Row_hasRoomFor_7 ?_
  refine lv_isub hx hb d_Row_hasRoomFor_10 ?_
  refine tope (z := nI (M - n)) (pk_sub (by omega)) ?_
  refine j_gt C k (M - n) rfl rfl (by omega) (by omega) d_Row_hasRoomFor_11 rfl (fun hc1 => ?_) (fun hc1 => ?_)
  · refine lv_iconst (v := nI 0) hx hb d_Row_hasRoomFor_18 (by decide) ?_
    exact kret (nI 0) [(h0, .inr (2, [.ref a, .int (nI n)])), (a, .inl (E.2.1, M, .inl f))] _ _ _ _ d_Row_hasRoomFor_19 (⟨by first | exact b2_t (decide_eq_true (by omega)) | exact b2_f (decide_eq_false (by omega)), rfl⟩) rfl hP hS
  · refine lv_iconst (v := nI 1) hx hb d_Row_hasRoomFor_14 (by decide) ?_
    refine lv_goto hx hb d_Row_hasRoomFor_15 rfl ?_
    exact kret (nI 1) [(h0, .inr (2, [.ref a, .int (nI n)])), (a, .inl (E.2.1, M, .inl f))] _ _ _ _ d_Row_hasRoomFor_19 (⟨by first | exact b2_t (decide_eq_true (by omega)) | exact b2_f (decide_eq_false (by omega)), rfl⟩) rfl hP hS

set_option maxHeartbeats 4000000 in
set_option maxRecDepth 100000 in
theorem c_Row_addByte (l : Launch) (E : En) (h0 a M n : Nat) (f : Nat → Int32) (v : Int32) (hn : n < M) (hM : M < 2 ^ 31) : CtV l y_Row_addByte b_Row_addByte 2 (rmd 0) E [.ref h0, .int v] [(h0, .inr (2, [.ref a, .int (nI n)])), (a, .inl (E.2.1, M, .inl f))] (fun w => w = [(h0, .inr (2, [.ref a, .int (nI (n + 1))])), (a, .inl (E.2.1, M, .inl (upd f n (nb v))))]) := by
  refine CtV.of (by decide) (Nat.le_of_ble_eq_true rfl) ?_
  intro p e s m args below meth c A Q H locs ls C hP hD hS hl kret
  have hx := C.1
  have hb := C.2.1
  have hl : lv_has ls 2 [(0, .ref h0), (1, .int v)] := hl
  refine lv_aload_n hx hb d_Row_addByte_0 rfl (lv_at hl 0 rfl) ?_
  refine n_get C fg_Row_13 hP 0 rfl rfl d_Row_addByte_1 ?_
  refine lv_aload_n hx hb d_Row_addByte_4 rfl (lv_at hl 0 rfl) ?_
  refine n_get C fg_Row_7 hP 0 rfl rfl d_Row_addByte_5 ?_
  refine n_alenB C hP 1 rfl d_Row_addByte_8 ?_
  refine j_ge C n M rfl rfl (by omega) (by omega) d_Row_addByte_9 rfl (fun hc1 => absurd hc1 (by omega)) (fun hc1 => ?_)
  refine lv_aload_n hx hb d_Row_addByte_12 rfl (lv_at hl 0 rfl) ?_
  refine n_get C fg_Row_7 hP 0 rfl rfl d_Row_addByte_13 ?_
  refine lv_aload_n hx hb d_Row_addByte_16 rfl (lv_at hl 0 rfl) ?_
  refine n_get C fg_Row_13 hP 0 rfl rfl d_Row_addByte_17 ?_
  refine lv_iload_n hx hb d_Row_addByte_20 rfl (lv_at hl 1 rfl) ?_
  refine lv_i2b (v := nb v) hx hb d_Row_addByte_21 rfl ?_
  refine n_bast (z := nb v) C hP hD hS 1 rfl n rfl (nb_nb _) (by omega) (by omega) d_Row_addByte_22 (fun H locs hP hD hS => ?_)
  have hP : va_P E.1 clz [(h0, .inr (2, [.ref a, .int (nI n)])), (a, .inl (E.2.1, M, .inl (upd f n (nb v))))] H := hP
  have hD : va_D A [(h0, .inr (2, [.ref a, .int (nI n)])), (a, .inl (E.2.1, M, .inl (upd f n (nb v))))] := hD
  refine lv_aload_n hx hb d_Row_addByte_23 rfl (lv_at hl 0 rfl) ?_
  refine lv_dup hx hb d_Row_addByte_24 rfl ?_
  refine n_get C fg_Row_13 hP 0 rfl rfl d_Row_addByte_25 ?_
  refine lv_iconst (v := nI 1) hx hb d_Row_addByte_28 (by decide) ?_
  refine lv_iadd hx hb d_Row_addByte_29 ?_
  refine tope (z := nI (n + 1)) (nI_add _ _) ?_
  refine n_put (v := .int (nI (n + 1))) C fp_Row_13 hP hD hS 0 rfl (rfl) rfl (Nat.le_of_ble_eq_true rfl) d_Row_addByte_30 (fun H locs hP hD hS => ?_)
  have hP : va_P E.1 clz [(h0, .inr (2, [.ref a, .int (nI (n + 1))])), (a, .inl (E.2.1, M, .inl (upd f n (nb v))))] H := hP
  have hD : va_D A [(h0, .inr (2, [.ref a, .int (nI (n + 1))])), (a, .inl (E.2.1, M, .inl (upd f n (nb v))))] := hD
  exact kret [(h0, .inr (2, [.ref a, .int (nI (n + 1))])), (a, .inl (E.2.1, M, .inl (upd f n (nb v))))] _ _ _ _ d_Row_addByte_33 (rfl) rfl hP hS

def aw4 (f : Nat → Int32) (n : Nat) (v : Int32) : Nat → Int32 := upd (upd (upd (upd f n (nb (us v (nI 24)))) (n + 1) (nb (us v (nI 16)))) (n + 1 + 1) (nb (us v (nI 8)))) (n + 1 + 1 + 1) (nb v)

set_option maxHeartbeats 4000000 in
set_option maxRecDepth 100000 in
theorem c_Row_addWord (l : Launch) (E : En) (h0 a M n : Nat) (f : Nat → Int32) (v : Int32) (hn : n + 4 ≤ M) (hM : M < 2 ^ 31) : CtV l y_Row_addWord b_Row_addWord 2 (rmd 1) E [.ref h0, .int v] [(h0, .inr (2, [.ref a, .int (nI n)])), (a, .inl (E.2.1, M, .inl f))] (fun w => w = [(h0, .inr (2, [.ref a, .int (nI (n + 4))])), (a, .inl (E.2.1, M, .inl (aw4 f n v)))]) := by
  refine CtV.of (by decide) (Nat.le_of_ble_eq_true rfl) ?_
  intro p e s m args below meth c A Q H locs ls C hP hD hS hl kret
  have hx := C.1
  have hb := C.2.1
  have hl : lv_has ls 2 [(0, .ref h0), (1, .int v)] := hl
  refine lv_aload_n hx hb d_Row_addWord_0 rfl (lv_at hl 0 rfl) ?_
  refine lv_iload_n hx hb d_Row_addWord_1 rfl (lv_at hl 1 rfl) ?_
  refine lv_bipush (v := nI 24) hx hb d_Row_addWord_2 (by decide) ?_
  refine lv_iushr (v := us v (nI 24)) hx hb d_Row_addWord_4 rfl ?_
  refine cal_V (As := [.int (us v (nI 24))]) (rest := []) C lk_Row_17 (c_Row_addByte l E h0 a M n f (us v (nI 24)) (by omega) (by omega)) (by decide) hP hD hS 0 2 rfl rfl [0, 1] rfl (by decide) hl.1 rfl (Nat.le_of_ble_eq_true rfl) d_Row_addWord_5 (fun w1 H locs hp2 hP hD hS => ?_)
  obtain rfl := hp2
  have hP : va_P E.1 clz [(h0, .inr (2, [.ref a, .int (nI (n + 1))])), (a, .inl (E.2.1, M, .inl (upd f n (nb (us v (nI 24))))))] H := hP
  have hD : va_D A [(h0, .inr (2, [.ref a, .int (nI (n + 1))])), (a, .inl (E.2.1, M, .inl (upd f n (nb (us v (nI 24))))))] := hD
  refine lv_aload_n hx hb d_Row_addWord_8 rfl (lv_at hl 0 rfl) ?_
  refine lv_iload_n hx hb d_Row_addWord_9 rfl (lv_at hl 1 rfl) ?_
  refine lv_bipush (v := nI 16) hx hb d_Row_addWord_10 (by decide) ?_
  refine lv_iushr (v := us v (nI 16)) hx hb d_Row_addWord_12 rfl ?_
  refine cal_V (As := [.int (us v (nI 16))]) (rest := []) C lk_Row_17 (c_Row_addByte l E h0 a M (n + 1) (upd f n (nb (us v (nI 24)))) (us v (nI 16)) (by omega) (by omega)) (by decide) hP hD hS 0 2 rfl rfl [0, 1] rfl (by decide) hl.1 rfl (Nat.le_of_ble_eq_true rfl) d_Row_addWord_13 (fun w1 H locs hp4 hP hD hS => ?_)
  obtain rfl := hp4
  have hP : va_P E.1 clz [(h0, .inr (2, [.ref a, .int (nI (n + 1 + 1))])), (a, .inl (E.2.1, M, .inl (upd (upd f n (nb (us v (nI 24)))) (n + 1) (nb (us v (nI 16))))))] H := hP
  have hD : va_D A [(h0, .inr (2, [.ref a, .int (nI (n + 1 + 1))])), (a, .inl (E.2.1, M, .inl (upd (upd f n (nb (us v (nI 24)))) (n + 1) (nb (us v (nI 16))))))] := hD
  refine lv_aload_n hx hb d_Row_addWord_16 rfl (lv_at hl 0 rfl) ?_
  refine lv_iload_n hx hb d_Row_addWord_17 rfl (lv_at hl 1 rfl) ?_
  refine lv_bipush (v := nI 8) hx hb d_Row_addWord_18 (by decide) ?_
  refine lv_iushr (v := us v (nI 8)) hx hb d_Row_addWord_20 rfl ?_
  refine cal_V (As := [.int (us v (nI 8))]) (rest := []) C lk_Row_17 (c_Row_addByte l E h0 a M (n + 1 + 1) (upd (upd f n (nb (us v (nI 24)))) (n + 1) (nb (us v (nI 16)))) (us v (nI 8)) (by omega) (by omega)) (by decide) hP hD hS 0 2 rfl rfl [0, 1] rfl (by decide) hl.1 rfl (Nat.le_of_ble_eq_true rfl) d_Row_addWord_21 (fun w1 H locs hp6 hP hD hS => ?_)
  obtain rfl := hp6
  have hP : va_P E.1 clz [(h0, .inr (2, [.ref a, .int (nI (n + 1 + 1 + 1))])), (a, .inl (E.2.1, M, .inl (upd (upd (upd f n (nb (us v (nI 24)))) (n + 1) (nb (us v (nI 16)))) (n + 1 + 1) (nb (us v (nI 8))))))] H := hP
  have hD : va_D A [(h0, .inr (2, [.ref a, .int (nI (n + 1 + 1 + 1))])), (a, .inl (E.2.1, M, .inl (upd (upd (upd f n (nb (us v (nI 24)))) (n + 1) (nb (us v (nI 16)))) (n + 1 + 1) (nb (us v (nI 8))))))] := hD
  refine lv_aload_n hx hb d_Row_addWord_24 rfl (lv_at hl 0 rfl) ?_
  refine lv_iload_n hx hb d_Row_addWord_25 rfl (lv_at hl 1 rfl) ?_
  refine cal_V (As := [.int v]) (rest := []) C lk_Row_17 (c_Row_addByte l E h0 a M (n + 1 + 1 + 1) (upd (upd (upd f n (nb (us v (nI 24)))) (n + 1) (nb (us v (nI 16)))) (n + 1 + 1) (nb (us v (nI 8)))) v (by omega) (by omega)) (by decide) hP hD hS 0 2 rfl rfl [0, 1] rfl (by decide) hl.1 rfl (Nat.le_of_ble_eq_true rfl) d_Row_addWord_26 (fun w1 H locs hp8 hP hD hS => ?_)
  obtain rfl := hp8
  have hP : va_P E.1 clz [(h0, .inr (2, [.ref a, .int (nI (n + 1 + 1 + 1 + 1))])), (a, .inl (E.2.1, M, .inl (upd (upd (upd (upd f n (nb (us v (nI 24)))) (n + 1) (nb (us v (nI 16)))) (n + 1 + 1) (nb (us v (nI 8)))) (n + 1 + 1 + 1) (nb v))))] H := hP
  have hD : va_D A [(h0, .inr (2, [.ref a, .int (nI (n + 1 + 1 + 1 + 1))])), (a, .inl (E.2.1, M, .inl (upd (upd (upd (upd f n (nb (us v (nI 24)))) (n + 1) (nb (us v (nI 16)))) (n + 1 + 1) (nb (us v (nI 8)))) (n + 1 + 1 + 1) (nb v))))] := hD
  exact kret [(h0, .inr (2, [.ref a, .int (nI (n + 1 + 1 + 1 + 1))])), (a, .inl (E.2.1, M, .inl (upd (upd (upd (upd f n (nb (us v (nI 24)))) (n + 1) (nb (us v (nI 16)))) (n + 1 + 1) (nb (us v (nI 8)))) (n + 1 + 1 + 1) (nb v))))] _ _ _ _ d_Row_addWord_29 (rfl) rfl hP hS
