def swp (f : Nat → Int32) (o i : Nat) : Nat → Int32 := fun q => if o ≤ q ∧ q < o + i then f (q + 80) else if o + 80 ≤ q ∧ q < o + 80 + i then f (q - 80) else f q
theorem swp_0 (f : Nat → Int32) (o : Nat) : swp f o 0 = f := by
  funext q
  unfold swp
  rw [if_neg (by omega), if_neg (by omega)]
theorem swp_s (f : Nat → Int32) (o i : Nat) (hi : i < 80) : upd (upd (swp f o i) (o + i) (swp f o i (o + i + 80))) (o + i + 80) (swp f o i (o + i)) = swp f o (i + 1) := by
  have e1 : swp f o i (o + i + 80) = f (o + i + 80) := by unfold swp; rw [if_neg (by omega), if_neg (by omega)]
  have e2 : swp f o i (o + i) = f (o + i) := by unfold swp; rw [if_neg (by omega), if_neg (by omega)]
  rw [e1, e2]
  funext q
  unfold upd
  by_cases h1 : q = o + i + 80
  · subst h1
    rw [if_pos rfl]
    unfold swp
    rw [if_neg (by omega), if_pos (by omega)]
    congr 1
  · rw [if_neg h1]
    by_cases h2 : q = o + i
    · subst h2
      rw [if_pos rfl]
      unfold swp
      rw [if_pos (by omega)]
    · rw [if_neg h2]
      unfold swp
      by_cases h3 : o ≤ q ∧ q < o + i
      · rw [if_pos h3, if_pos (by omega)]
      · rw [if_neg h3]
        by_cases h4 : o + 80 ≤ q ∧ q < o + 80 + i
        · rw [if_pos h4, if_neg (by omega), if_pos (by omega)]
        · rw [if_neg h4, if_neg (by omega), if_neg (by omega)]
theorem swp_B {f : Nat → Int32} (o i : Nat) (h : fB f) : fB (swp f o i) := by
  intro q
  unfold swp
  split
  · exact h _
  · split
    · exact h _
    · exact h _
theorem isT_f {x : List Int32} (h : ∀ q, q < x.length → x.getD q 0 = 0) : isT x = false := by
  unfold isT
  rw [List.any_eq_false]
  intro b hb
  obtain ⟨q, hq, rfl⟩ := List.getElem_of_mem hb
  have := h q hq
  rw [List.getD_eq_getElem?_getD, List.getElem?_eq_getElem hq] at this
  simpa using this
theorem isT_t {x : List Int32} {q : Nat} (hq : q < x.length) (h : ¬ x.getD q 0 = 0) : isT x = true := by
  unfold isT
  rw [List.any_eq_true]
  rw [List.getD_eq_getElem?_getD, List.getElem?_eq_getElem hq] at h
  exact ⟨x[q], List.getElem_mem hq, by simpa using h⟩
def numI (x : List Int32) (b : Int32) (i : Nat) : Int32 := ((x.drop 1).take i).foldl (fun v c => cm1 v (c &&& nI 255)) b
theorem numI_s (x : List Int32) (b : Int32) (i : Nat) (hi : i + 1 < x.length) : numI x b (i + 1) = sl (numI x b i) (nI 8) ||| (x.getD (i + 1) 0 &&& nI 255) := by
  unfold numI
  have h1 : i < (x.drop 1).length := by simp; omega
  rw [List.take_succ_eq_append_getElem h1, List.foldl_append]
  simp only [List.foldl_cons, List.foldl_nil, cm1, List.getElem_drop]
  congr 2
  rw [List.getD_eq_getElem?_getD, List.getElem?_eq_getElem (by omega)]
  simp only [Option.getD_some]
  congr 1
  omega
theorem numI_e (x : List Int32) (h : 0 < x.length) : numI x (x.getD 0 0) (x.length - 1) = numL x := by
  cases x with
  | nil => simp at h
  | cons b r =>
    unfold numI numL
    simp
theorem list_eq_of {x y : List Int32} (h : x.length = y.length) (hq : ∀ q, q < x.length → x.getD q 0 = y.getD q 0) : x = y := by
  apply List.ext_getElem h
  intro q h1 h2
  have := hq q h1
  rw [List.getD_eq_getElem?_getD, List.getD_eq_getElem?_getD, List.getElem?_eq_getElem h1, List.getElem?_eq_getElem h2] at this
  simpa using this

set_option maxHeartbeats 4000000 in
set_option maxRecDepth 100000 in
theorem c_El_swapLast (l : Launch) (E : En) (e0 eb es k : Nat) (f sz : Nat → Int32) (hk : k + 2 ≤ 24) (hB : fB f) : CtI l y_El_swapLast b_El_swapLast 6 .boolean (rmd 1) E [.ref e0] [(e0, .inr (1, [.ref eb, .ref es, .int (nI (k + 2))])), (eb, .inl (E.2.1, 1920, .inl f)), (es, .inl (E.2.2.1, 24, .inl sz))] (fun r w => r = b2 true ∧ w = [(e0, .inr (1, [.ref eb, .ref es, .int (nI (k + 2))])), (eb, .inl (E.2.1, 1920, .inl (swp f (k * 80) 80))), (es, .inl (E.2.2.1, 24, .inl (upd (upd sz k (sz (k + 1))) (k + 1) (sz k))))]) := by
  refine CtI.of (by decide) (Nat.le_of_ble_eq_true rfl) (fun r w h => by obtain ⟨rfl, _⟩ := h; exact b2_nar _) ?_
  intro p e s m args below meth c A Q H locs ls C hP hD hS hl kret
  have hx := C.1
  have hb := C.2.1
  have hl : lv_has ls 6 [(0, .ref e0)] := hl
  refine lv_aload_n hx hb d_El_swapLast_0 rfl (lv_at hl 0 rfl) ?_
  refine n_get C fg_El_17 hP 0 rfl rfl d_El_swapLast_1 ?_
  refine lv_iconst (v := nI 2) hx hb d_El_swapLast_4 (by decide) ?_
  refine lv_isub hx hb d_El_swapLast_5 ?_
  refine tope (z := nI k) ((pk_sub (by omega)).trans (congrArg nI (by omega))) ?_
  refine tope (z := nI k) (congrArg nI (by omega)) ?_
  refine lv_istore_n (lv' := [(1, .int (nI k)), (0, .ref e0)]) hx hb d_El_swapLast_6 rfl hl (by decide) rfl (fun ls hl => ?_)
  refine lv_aload_n hx hb d_El_swapLast_7 rfl (lv_at hl 1 rfl) ?_
  refine lv_iload_n hx hb d_El_swapLast_8 rfl (lv_at hl 0 rfl) ?_
  refine cal_I (As := [.int (nI k)]) (rest := []) C lk_El_31 (c_El_has l E e0 eb es (k + 2) (nI k)) (by decide) hP hD hS 0 1 rfl rfl [0] rfl (by decide) hl.1 rfl (Nat.le_of_ble_eq_true rfl) d_El_swapLast_9 (fun r1 w1 H locs hp2 hP hD hS => ?_)
  obtain ⟨rfl, rfl⟩ := hp2
  have hP : va_P E.1 clz [(e0, .inr (1, [.ref eb, .ref es, .int (nI (k + 2))])), (eb, .inl (E.2.1, 1920, .inl f)), (es, .inl (E.2.2.1, 24, .inl sz))] H := hP
  have hD : va_D A [(e0, .inr (1, [.ref eb, .ref es, .int (nI (k + 2))])), (eb, .inl (E.2.1, 1920, .inl f)), (es, .inl (E.2.2.1, 24, .inl sz))] := hD
  refine tope (z := b2 true) (congrArg b2 ((hasB_nI (by omega) (by omega)).trans (decide_eq_true (by omega)))) ?_
  refine zb_ne C true rfl d_El_swapLast_12 rfl (fun hc3 => ?_) (fun hc3 => absurd hc3 (by simp_all))
  refine lv_aload_n hx hb d_El_swapLast_17 rfl (lv_at hl 1 rfl) ?_
  refine n_get C fg_El_13 hP 0 rfl rfl d_El_swapLast_18 ?_
  refine lv_iload_n hx hb d_El_swapLast_21 rfl (lv_at hl 0 rfl) ?_
  refine n_iald C hP 2 rfl k rfl (by omega) (by omega) d_El_swapLast_22 ?_
  refine lv_istore_n (lv' := [(2, .int (sz k)), (1, .int (nI k)), (0, .ref e0)]) hx hb d_El_swapLast_23 rfl hl (by decide) rfl (fun ls hl => ?_)
  refine lv_aload_n hx hb d_El_swapLast_24 rfl (lv_at hl 2 rfl) ?_
  refine n_get C fg_El_13 hP 0 rfl rfl d_El_swapLast_25 ?_
  refine lv_iload_n hx hb d_El_swapLast_28 rfl (lv_at hl 1 rfl) ?_
  refine lv_aload_n hx hb d_El_swapLast_29 rfl (lv_at hl 2 rfl) ?_
  refine n_get C fg_El_13 hP 0 rfl rfl d_El_swapLast_30 ?_
  refine lv_iload_n hx hb d_El_swapLast_33 rfl (lv_at hl 1 rfl) ?_
  refine lv_iconst (v := nI 1) hx hb d_El_swapLast_34 (by decide) ?_
  refine lv_iadd hx hb d_El_swapLast_35 ?_
  refine tope (z := nI (k + 1)) (nI_add _ _) ?_
  refine n_iald C hP 2 rfl (k + 1) rfl (by omega) (by omega) d_El_swapLast_36 ?_
  refine n_iast C hP hD hS 2 rfl k rfl (by omega) (by omega) d_El_swapLast_37 (fun H locs hP hD hS => ?_)
  have hP : va_P E.1 clz [(e0, .inr (1, [.ref eb, .ref es, .int (nI (k + 2))])), (eb, .inl (E.2.1, 1920, .inl f)), (es, .inl (E.2.2.1, 24, .inl (upd sz k (sz (k + 1)))))] H := hP
  have hD : va_D A [(e0, .inr (1, [.ref eb, .ref es, .int (nI (k + 2))])), (eb, .inl (E.2.1, 1920, .inl f)), (es, .inl (E.2.2.1, 24, .inl (upd sz k (sz (k + 1)))))] := hD
  refine lv_aload_n hx hb d_El_swapLast_38 rfl (lv_at hl 2 rfl) ?_
  refine n_get C fg_El_13 hP 0 rfl rfl d_El_swapLast_39 ?_
  refine lv_iload_n hx hb d_El_swapLast_42 rfl (lv_at hl 1 rfl) ?_
  refine lv_iconst (v := nI 1) hx hb d_El_swapLast_43 (by decide) ?_
  refine lv_iadd hx hb d_El_swapLast_44 ?_
  refine tope (z := nI (k + 1)) (nI_add _ _) ?_
  refine lv_iload_n hx hb d_El_swapLast_45 rfl (lv_at hl 0 rfl) ?_
  refine n_iast C hP hD hS 2 rfl (k + 1) rfl (by omega) (by omega) d_El_swapLast_46 (fun H locs hP hD hS => ?_)
  have hP : va_P E.1 clz [(e0, .inr (1, [.ref eb, .ref es, .int (nI (k + 2))])), (eb, .inl (E.2.1, 1920, .inl f)), (es, .inl (E.2.2.1, 24, .inl (upd (upd sz k (sz (k + 1))) (k + 1) (sz k))))] H := hP
  have hD : va_D A [(e0, .inr (1, [.ref eb, .ref es, .int (nI (k + 2))])), (eb, .inl (E.2.1, 1920, .inl f)), (es, .inl (E.2.2.1, 24, .inl (upd (upd sz k (sz (k + 1))) (k + 1) (sz k))))] := hD
  refine lv_aload_n hx hb d_El_swapLast_47 rfl (lv_at hl 2 rfl) ?_
  refine lv_iload_n hx hb d_El_swapLast_48 rfl (lv_at hl 1 rfl) ?_
  refine cal_I (As := [.int (nI k)]) (rest := []) C lk_El_21 (c_El_place l E e0 k) (by decide) hP hD hS 0 1 rfl rfl [] rfl (by decide) hl.1 rfl (Nat.le_of_ble_eq_true rfl) d_El_swapLast_49 (fun r4 w1 H locs hp5 hP hD hS => ?_)
  obtain ⟨rfl, rfl⟩ := hp5
  have hP : va_P E.1 clz [(e0, .inr (1, [.ref eb, .ref es, .int (nI (k + 2))])), (eb, .inl (E.2.1, 1920, .inl f)), (es, .inl (E.2.2.1, 24, .inl (upd (upd sz k (sz (k + 1))) (k + 1) (sz k))))] H := hP
  have hD : va_D A [(e0, .inr (1, [.ref eb, .ref es, .int (nI (k + 2))])), (eb, .inl (E.2.1, 1920, .inl f)), (es, .inl (E.2.2.1, 24, .inl (upd (upd sz k (sz (k + 1))) (k + 1) (sz k))))] := hD
  refine lv_istore_n (lv' := [(3, .int (nI (k * 80))), (2, .int (sz k)), (1, .int (nI k)), (0, .ref e0)]) hx hb d_El_swapLast_52 rfl hl (by decide) rfl (fun ls hl => ?_)
  refine lv_iload_n hx hb d_El_swapLast_53 rfl (lv_at hl 0 rfl) ?_
  refine lv_istore (lv' := [(4, .int (nI (k * 80))), (3, .int (nI (k * 80))), (2, .int (sz k)), (1, .int (nI k)), (0, .ref e0)]) hx hb d_El_swapLast_54 hl (by decide) rfl (fun ls hl => ?_)
  rw [← swp_0 f (k * 80)] at hP hD
  have hloop56 : ∀ (dd : Nat) (i : Nat) (H : Heap) (locs : List Loc) (ls : Array Slot), 80 - i < dd → (i ≤ 80) → va_P E.1 clz [(e0, .inr (1, [.ref eb, .ref es, .int (nI (k + 2))])), (eb, .inl (E.2.1, 1920, .inl (swp f (k * 80) i))), (es, .inl (E.2.2.1, 24, .inl (upd (upd sz k (sz (k + 1))) (k + 1) (sz k))))] H → va_D A [(e0, .inr (1, [.ref eb, .ref es, .int (nI (k + 2))])), (eb, .inl (E.2.1, 1920, .inl (swp f (k * 80) i))), (es, .inl (E.2.2.1, 24, .inl (upd (upd sz k (sz (k + 1))) (k + 1) (sz k))))] → va_S A s.heap H locs → lv_has ls 6 [(4, .int (nI (k * 80 + i))), (3, .int (nI (k * 80))), (1, .int (nI k)), (0, .ref e0)] → W p l e (rmd 1) s m args below meth c H locs 0 0 Q (F0 m 56 ls []) := by
    intro dd
    induction dd with
    | zero => intro i H locs ls hmz; exact absurd hmz (Nat.not_lt_zero _)
    | succ dd ih56 =>
      intro i H locs ls hmz hi hP hD hS hl
      refine lv_iload hx hb d_El_swapLast_56 (lv_at hl 0 rfl) ?_
      refine lv_iload_n hx hb d_El_swapLast_58 rfl (lv_at hl 1 rfl) ?_
      refine lv_bipush (v := nI 80) hx hb d_El_swapLast_59 (by decide) ?_
      refine lv_iadd hx hb d_El_swapLast_61 ?_
      refine tope (z := nI ((k * 80) + 80)) (nI_add _ _) ?_
      refine j_ge C (k * 80 + i) ((k * 80) + 80) rfl rfl (by omega) (by omega) d_El_swapLast_62 rfl (fun hc6 => ?_) (fun hc6 => ?_)
      · obtain rfl : i = 80 := by omega
        refine lv_iconst (v := nI 1) hx hb d_El_swapLast_109 (by decide) ?_
        exact kret (nI 1) [(e0, .inr (1, [.ref eb, .ref es, .int (nI (k + 2))])), (eb, .inl (E.2.1, 1920, .inl (swp f (k * 80) 80))), (es, .inl (E.2.2.1, 24, .inl (upd (upd sz k (sz (k + 1))) (k + 1) (sz k))))] _ _ _ _ d_El_swapLast_110 (⟨rfl, rfl⟩) rfl hP hS
      · refine lv_aload_n hx hb d_El_swapLast_65 rfl (lv_at hl 3 rfl) ?_
        refine n_get C fg_El_9 hP 0 rfl rfl d_El_swapLast_66 ?_
        refine lv_iload hx hb d_El_swapLast_69 (lv_at hl 0 rfl) ?_
        refine n_bald C hP 1 rfl (k * 80 + i) rfl (by omega) (by omega) d_El_swapLast_71 ?_
        refine lv_istore (lv' := [(5, .int ((swp f (k * 80) i) (k * 80 + i))), (4, .int (nI (k * 80 + i))), (3, .int (nI (k * 80))), (1, .int (nI k)), (0, .ref e0)]) hx hb d_El_swapLast_72 hl (by decide) rfl (fun ls hl => ?_)
        refine lv_aload_n hx hb d_El_swapLast_74 rfl (lv_at hl 4 rfl) ?_
        refine n_get C fg_El_9 hP 0 rfl rfl d_El_swapLast_75 ?_
        refine lv_iload hx hb d_El_swapLast_78 (lv_at hl 1 rfl) ?_
        refine lv_aload_n hx hb d_El_swapLast_80 rfl (lv_at hl 4 rfl) ?_
        refine n_get C fg_El_9 hP 0 rfl rfl d_El_swapLast_81 ?_
        refine lv_iload hx hb d_El_swapLast_84 (lv_at hl 1 rfl) ?_
        refine lv_bipush (v := nI 80) hx hb d_El_swapLast_86 (by decide) ?_
        refine lv_iadd hx hb d_El_swapLast_88 ?_
        refine tope (z := nI ((k * 80 + i) + 80)) (nI_add _ _) ?_
        refine n_bald C hP 1 rfl ((k * 80 + i) + 80) rfl (by omega) (by omega) d_El_swapLast_89 ?_
        refine n_bast (z := (swp f (k * 80) i) ((k * 80 + i) + 80)) C hP hD hS 1 rfl (k * 80 + i) rfl ((swp_B (k * 80) i hB) _) (by omega) (by omega) d_El_swapLast_90 (fun H locs hP hD hS => ?_)
        have hP : va_P E.1 clz [(e0, .inr (1, [.ref eb, .ref es, .int (nI (k + 2))])), (eb, .inl (E.2.1, 1920, .inl (upd (swp f (k * 80) i) (k * 80 + i) ((swp f (k * 80) i) ((k * 80 + i) + 80))))), (es, .inl (E.2.2.1, 24, .inl (upd (upd sz k (sz (k + 1))) (k + 1) (sz k))))] H := hP
        have hD : va_D A [(e0, .inr (1, [.ref eb, .ref es, .int (nI (k + 2))])), (eb, .inl (E.2.1, 1920, .inl (upd (swp f (k * 80) i) (k * 80 + i) ((swp f (k * 80) i) ((k * 80 + i) + 80))))), (es, .inl (E.2.2.1, 24, .inl (upd (upd sz k (sz (k + 1))) (k + 1) (sz k))))] := hD
        refine lv_aload_n hx hb d_El_swapLast_91 rfl (lv_at hl 4 rfl) ?_
        refine n_get C fg_El_9 hP 0 rfl rfl d_El_swapLast_92 ?_
        refine lv_iload hx hb d_El_swapLast_95 (lv_at hl 1 rfl) ?_
        refine lv_bipush (v := nI 80) hx hb d_El_swapLast_97 (by decide) ?_
        refine lv_iadd hx hb d_El_swapLast_99 ?_
        refine tope (z := nI ((k * 80 + i) + 80)) (nI_add _ _) ?_
        refine lv_iload hx hb d_El_swapLast_100 (lv_at hl 0 rfl) ?_
        refine n_bast (z := (swp f (k * 80) i) (k * 80 + i)) C hP hD hS 1 rfl ((k * 80 + i) + 80) rfl ((swp_B (k * 80) i hB) _) (by omega) (by omega) d_El_swapLast_102 (fun H locs hP hD hS => ?_)
        have hP : va_P E.1 clz [(e0, .inr (1, [.ref eb, .ref es, .int (nI (k + 2))])), (eb, .inl (E.2.1, 1920, .inl (upd (upd (swp f (k * 80) i) (k * 80 + i) ((swp f (k * 80) i) ((k * 80 + i) + 80))) ((k * 80 + i) + 80) ((swp f (k * 80) i) (k * 80 + i))))), (es, .inl (E.2.2.1, 24, .inl (upd (upd sz k (sz (k + 1))) (k + 1) (sz k))))] H := hP
        have hD : va_D A [(e0, .inr (1, [.ref eb, .ref es, .int (nI (k + 2))])), (eb, .inl (E.2.1, 1920, .inl (upd (upd (swp f (k * 80) i) (k * 80 + i) ((swp f (k * 80) i) ((k * 80 + i) + 80))) ((k * 80 + i) + 80) ((swp f (k * 80) i) (k * 80 + i))))), (es, .inl (E.2.2.1, 24, .inl (upd (upd sz k (sz (k + 1))) (k + 1) (sz k))))] := hD
        rw [swp_s f (k * 80) i (by omega)] at hP hD
        have hP : va_P E.1 clz [(e0, .inr (1, [.ref eb, .ref es, .int (nI (k + 2))])), (eb, .inl (E.2.1, 1920, .inl (swp f (k * 80) (i + 1)))), (es, .inl (E.2.2.1, 24, .inl (upd (upd sz k (sz (k + 1))) (k + 1) (sz k))))] H := hP
        have hD : va_D A [(e0, .inr (1, [.ref eb, .ref es, .int (nI (k + 2))])), (eb, .inl (E.2.1, 1920, .inl (swp f (k * 80) (i + 1)))), (es, .inl (E.2.2.1, 24, .inl (upd (upd sz k (sz (k + 1))) (k + 1) (sz k))))] := hD
        refine lv_iinc (k := 1) (v := nI (k * 80 + i + 1)) (lv' := [(4, .int (nI (k * 80 + i + 1))), (5, .int ((swp f (k * 80) i) (k * 80 + i))), (3, .int (nI (k * 80))), (1, .int (nI k)), (0, .ref e0)]) hx hb d_El_swapLast_103 hl rfl (iincK (k * 80 + i) 1) (by decide) rfl (fun ls hl => ?_)
        refine lv_goto hx hb d_El_swapLast_106 rfl ?_
        exact ih56 (i + 1) H locs ls (by omega) (by omega) hP hD hS (lv_sub hl [0, 2, 3, 4] rfl)
  exact hloop56 (80 + 1) 0 H locs ls (by omega) (by omega) hP hD hS (lv_sub hl [0, 1, 3, 4] rfl)

set_option maxHeartbeats 4000000 in
set_option maxRecDepth 100000 in
theorem c_El_swapLast_no (l : Launch) (E : En) (e0 eb es n : Nat) (f sz : Nat → Int32) (hk : hasB (nI n - nI 2) n = false) : CtI l y_El_swapLast b_El_swapLast 6 .boolean (rmd 1) E [.ref e0] [(e0, .inr (1, [.ref eb, .ref es, .int (nI n)])), (eb, .inl (E.2.1, 1920, .inl f)), (es, .inl (E.2.2.1, 24, .inl sz))] (fun r w => r = b2 false ∧ w = [(e0, .inr (1, [.ref eb, .ref es, .int (nI n)])), (eb, .inl (E.2.1, 1920, .inl f)), (es, .inl (E.2.2.1, 24, .inl sz))]) := by
  refine CtI.of (by decide) (Nat.le_of_ble_eq_true rfl) (fun r w h => by obtain ⟨rfl, _⟩ := h; exact b2_nar _) ?_
  intro p e s m args below meth c A Q H locs ls C hP hD hS hl kret
  have hx := C.1
  have hb := C.2.1
  have hl : lv_has ls 6 [(0, .ref e0)] := hl
  refine lv_aload_n hx hb d_El_swapLast_0 rfl (lv_at hl 0 rfl) ?_
  refine n_get C fg_El_17 hP 0 rfl rfl d_El_swapLast_1 ?_
  refine lv_iconst (v := nI 2) hx hb d_El_swapLast_4 (by decide) ?_
  refine lv_isub hx hb d_El_swapLast_5 ?_
  refine lv_istore_n (lv' := [(1, .int ((nI n) - (nI 2))), (0, .ref e0)]) hx hb d_El_swapLast_6 rfl hl (by decide) rfl (fun ls hl => ?_)
  refine lv_aload_n hx hb d_El_swapLast_7 rfl (lv_at hl 1 rfl) ?_
  refine lv_iload_n hx hb d_El_swapLast_8 rfl (lv_at hl 0 rfl) ?_
  refine cal_I (As := [.int ((nI n) - (nI 2))]) (rest := []) C lk_El_31 (c_El_has l E e0 eb es n ((nI n) - (nI 2))) (by decide) hP hD hS 0 1 rfl rfl [0] rfl (by decide) hl.1 rfl (Nat.le_of_ble_eq_true rfl) d_El_swapLast_9 (fun r1 w1 H locs hp2 hP hD hS => ?_)
  obtain ⟨rfl, rfl⟩ := hp2
  have hP : va_P E.1 clz [(e0, .inr (1, [.ref eb, .ref es, .int (nI n)])), (eb, .inl (E.2.1, 1920, .inl f)), (es, .inl (E.2.2.1, 24, .inl sz))] H := hP
  have hD : va_D A [(e0, .inr (1, [.ref eb, .ref es, .int (nI n)])), (eb, .inl (E.2.1, 1920, .inl f)), (es, .inl (E.2.2.1, 24, .inl sz))] := hD
  refine tope (z := b2 false) (congrArg b2 (hk)) ?_
  refine zb_ne C false rfl d_El_swapLast_12 rfl (fun hc3 => absurd hc3 (by simp_all)) (fun hc3 => ?_)
  refine lv_iconst (v := nI 0) hx hb d_El_swapLast_15 (by decide) ?_
  exact kret (nI 0) [(e0, .inr (1, [.ref eb, .ref es, .int (nI n)])), (eb, .inl (E.2.1, 1920, .inl f)), (es, .inl (E.2.2.1, 24, .inl sz))] _ _ _ _ d_El_swapLast_16 (⟨rfl, rfl⟩) rfl hP hS

set_option maxHeartbeats 4000000 in
set_option maxRecDepth 100000 in
theorem c_El_isTrue (l : Launch) (E : En) (e0 eb es n : Nat) (f sz : Nat → Int32) (j : Nat) (x : List Int32) (hj : j < n) (hn : n ≤ 24) (hz : sz j = nI x.length) (hx80 : x.length ≤ 80) (hla : lay f (j * 80) x) : CtI l y_El_isTrue b_El_isTrue 4 .boolean (rmd 1) E [.ref e0, .int (nI j)] [(e0, .inr (1, [.ref eb, .ref es, .int (nI n)])), (eb, .inl (E.2.1, 1920, .inl f)), (es, .inl (E.2.2.1, 24, .inl sz))] (fun r w => r = b2 (isT x) ∧ w = [(e0, .inr (1, [.ref eb, .ref es, .int (nI n)])), (eb, .inl (E.2.1, 1920, .inl f)), (es, .inl (E.2.2.1, 24, .inl sz))]) := by
  refine CtI.of (by decide) (Nat.le_of_ble_eq_true rfl) (fun r w h => by obtain ⟨rfl, _⟩ := h; exact b2_nar _) ?_
  intro p e s m args below meth c A Q H locs ls C hP hD hS hl kret
  have hx := C.1
  have hb := C.2.1
  have hl : lv_has ls 4 [(0, .ref e0), (1, .int (nI j))] := hl
  refine lv_aload_n hx hb d_El_isTrue_0 rfl (lv_at hl 0 rfl) ?_
  refine lv_iload_n hx hb d_El_isTrue_1 rfl (lv_at hl 1 rfl) ?_
  refine cal_I (As := [.int (nI j)]) (rest := []) C lk_El_31 (c_El_has l E e0 eb es n (nI j)) (by decide) hP hD hS 0 1 rfl rfl [0] rfl (by decide) hl.1 rfl (Nat.le_of_ble_eq_true rfl) d_El_isTrue_2 (fun r1 w1 H locs hp2 hP hD hS => ?_)
  obtain ⟨rfl, rfl⟩ := hp2
  have hP : va_P E.1 clz [(e0, .inr (1, [.ref eb, .ref es, .int (nI n)])), (eb, .inl (E.2.1, 1920, .inl f)), (es, .inl (E.2.2.1, 24, .inl sz))] H := hP
  have hD : va_D A [(e0, .inr (1, [.ref eb, .ref es, .int (nI n)])), (eb, .inl (E.2.1, 1920, .inl f)), (es, .inl (E.2.2.1, 24, .inl sz))] := hD
  refine tope (z := b2 true) (congrArg b2 ((hasB_nI (by omega) (by omega)).trans (decide_eq_true (by omega)))) ?_
  refine zb_ne C true rfl d_El_isTrue_5 rfl (fun hc3 => ?_) (fun hc3 => absurd hc3 (by simp_all))
  refine lv_aload_n hx hb d_El_isTrue_10 rfl (lv_at hl 0 rfl) ?_
  refine lv_iload_n hx hb d_El_isTrue_11 rfl (lv_at hl 1 rfl) ?_
  refine cal_I (As := [.int (nI j)]) (rest := []) C lk_El_21 (c_El_place l E e0 j) (by decide) hP hD hS 0 1 rfl rfl [] rfl (by decide) hl.1 rfl (Nat.le_of_ble_eq_true rfl) d_El_isTrue_12 (fun r4 w1 H locs hp5 hP hD hS => ?_)
  obtain ⟨rfl, rfl⟩ := hp5
  have hP : va_P E.1 clz [(e0, .inr (1, [.ref eb, .ref es, .int (nI n)])), (eb, .inl (E.2.1, 1920, .inl f)), (es, .inl (E.2.2.1, 24, .inl sz))] H := hP
  have hD : va_D A [(e0, .inr (1, [.ref eb, .ref es, .int (nI n)])), (eb, .inl (E.2.1, 1920, .inl f)), (es, .inl (E.2.2.1, 24, .inl sz))] := hD
  refine lv_istore_n (lv' := [(2, .int (nI (j * 80))), (0, .ref e0), (1, .int (nI j))]) hx hb d_El_isTrue_15 rfl hl (by decide) rfl (fun ls hl => ?_)
  refine lv_iconst (v := nI 0) hx hb d_El_isTrue_16 (by decide) ?_
  refine lv_istore_n (lv' := [(3, .int (nI 0)), (2, .int (nI (j * 80))), (0, .ref e0), (1, .int (nI j))]) hx hb d_El_isTrue_17 rfl hl (by decide) rfl (fun ls hl => ?_)
  have hloop18 : ∀ (dd : Nat) (i : Nat) (H : Heap) (locs : List Loc) (ls : Array Slot), x.length - i < dd → (i ≤ x.length) → (∀ q, q < i → x.getD q 0 = 0) → va_P E.1 clz [(e0, .inr (1, [.ref eb, .ref es, .int (nI n)])), (eb, .inl (E.2.1, 1920, .inl f)), (es, .inl (E.2.2.1, 24, .inl sz))] H → va_D A [(e0, .inr (1, [.ref eb, .ref es, .int (nI n)])), (eb, .inl (E.2.1, 1920, .inl f)), (es, .inl (E.2.2.1, 24, .inl sz))] → va_S A s.heap H locs → lv_has ls 4 [(3, .int (nI i)), (2, .int (nI (j * 80))), (1, .int (nI j)), (0, .ref e0)] → W p l e (rmd 1) s m args below meth c H locs 0 0 Q (F0 m 18 ls []) := by
    intro dd
    induction dd with
    | zero => intro i H locs ls hmz; exact absurd hmz (Nat.not_lt_zero _)
    | succ dd ih18 =>
      intro i H locs ls hmz hi hi2 hP hD hS hl
      refine lv_iload_n hx hb d_El_isTrue_18 rfl (lv_at hl 0 rfl) ?_
      refine lv_aload_n hx hb d_El_isTrue_19 rfl (lv_at hl 3 rfl) ?_
      refine n_get C fg_El_13 hP 0 rfl rfl d_El_isTrue_20 ?_
      refine lv_iload_n hx hb d_El_isTrue_23 rfl (lv_at hl 2 rfl) ?_
      refine n_iald C hP 2 rfl j rfl (by omega) (by omega) d_El_isTrue_24 ?_
      refine tope (z := nI x.length) (hz) ?_
      refine j_ge C i x.length rfl rfl (by omega) (by omega) d_El_isTrue_25 rfl (fun hc6 => ?_) (fun hc6 => ?_)
      · refine lv_iconst (v := nI 0) hx hb d_El_isTrue_47 (by decide) ?_
        exact kret (nI 0) [(e0, .inr (1, [.ref eb, .ref es, .int (nI n)])), (eb, .inl (E.2.1, 1920, .inl f)), (es, .inl (E.2.2.1, 24, .inl sz))] _ _ _ _ d_El_isTrue_48 (⟨b2_f (isT_f (fun q hq => hi2 q (by omega))), rfl⟩) rfl hP hS
      · refine lv_aload_n hx hb d_El_isTrue_28 rfl (lv_at hl 3 rfl) ?_
        refine n_get C fg_El_9 hP 0 rfl rfl d_El_isTrue_29 ?_
        refine lv_iload_n hx hb d_El_isTrue_32 rfl (lv_at hl 1 rfl) ?_
        refine lv_iload_n hx hb d_El_isTrue_33 rfl (lv_at hl 0 rfl) ?_
        refine lv_iadd hx hb d_El_isTrue_34 ?_
        refine tope (z := nI ((j * 80) + i)) (nI_add _ _) ?_
        refine n_bald C hP 1 rfl ((j * 80) + i) rfl (by omega) (by omega) d_El_isTrue_35 ?_
        refine lv_if_eq hx hb d_El_isTrue_36 rfl (fun hc7 => ?_) (fun hc7 => ?_)
        · refine lv_iinc (k := 0) (v := nI (i + 1)) (lv' := [(3, .int (nI (i + 1))), (2, .int (nI (j * 80))), (1, .int (nI j)), (0, .ref e0)]) hx hb d_El_isTrue_41 hl rfl (iincK i 1) (by decide) rfl (fun ls hl => ?_)
          refine lv_goto hx hb d_El_isTrue_44 rfl ?_
          exact ih18 (i + 1) H locs ls (by omega) (by omega) (fun q hq => by rcases Nat.lt_or_ge q i with h9 | h9; exact hi2 q h9; obtain rfl : q = i := (by omega); rw [← hla q (by omega)]; assumption) hP hD hS (lv_sub hl [0, 1, 2, 3] rfl)
        · refine lv_iconst (v := nI 1) hx hb d_El_isTrue_39 (by decide) ?_
          exact kret (nI 1) [(e0, .inr (1, [.ref eb, .ref es, .int (nI n)])), (eb, .inl (E.2.1, 1920, .inl f)), (es, .inl (E.2.2.1, 24, .inl sz))] _ _ _ _ d_El_isTrue_40 (⟨b2_t (isT_t (q := i) (by omega) (by rw [← hla i (by omega)]; assumption)), rfl⟩) rfl hP hS
  exact hloop18 (x.length + 1) 0 H locs ls (by omega) (by omega) (fun q hq => absurd hq (Nat.not_lt_zero q)) hP hD hS (lv_sub hl [0, 1, 3, 2] rfl)

set_option maxHeartbeats 4000000 in
set_option maxRecDepth 100000 in
theorem c_El_isTrue_no (l : Launch) (E : En) (e0 eb es n : Nat) (f sz : Nat → Int32) (k : Int32) (hk : hasB k n = false) : CtI l y_El_isTrue b_El_isTrue 4 .boolean (rmd 1) E [.ref e0, .int k] [(e0, .inr (1, [.ref eb, .ref es, .int (nI n)])), (eb, .inl (E.2.1, 1920, .inl f)), (es, .inl (E.2.2.1, 24, .inl sz))] (fun r w => r = b2 false ∧ w = [(e0, .inr (1, [.ref eb, .ref es, .int (nI n)])), (eb, .inl (E.2.1, 1920, .inl f)), (es, .inl (E.2.2.1, 24, .inl sz))]) := by
  refine CtI.of (by decide) (Nat.le_of_ble_eq_true rfl) (fun r w h => by obtain ⟨rfl, _⟩ := h; exact b2_nar _) ?_
  intro p e s m args below meth c A Q H locs ls C hP hD hS hl kret
  have hx := C.1
  have hb := C.2.1
  have hl : lv_has ls 4 [(0, .ref e0), (1, .int k)] := hl
  refine lv_aload_n hx hb d_El_isTrue_0 rfl (lv_at hl 0 rfl) ?_
  refine lv_iload_n hx hb d_El_isTrue_1 rfl (lv_at hl 1 rfl) ?_
  refine cal_I (As := [.int k]) (rest := []) C lk_El_31 (c_El_has l E e0 eb es n k) (by decide) hP hD hS 0 1 rfl rfl [0] rfl (by decide) hl.1 rfl (Nat.le_of_ble_eq_true rfl) d_El_isTrue_2 (fun r1 w1 H locs hp2 hP hD hS => ?_)
  obtain ⟨rfl, rfl⟩ := hp2
  have hP : va_P E.1 clz [(e0, .inr (1, [.ref eb, .ref es, .int (nI n)])), (eb, .inl (E.2.1, 1920, .inl f)), (es, .inl (E.2.2.1, 24, .inl sz))] H := hP
  have hD : va_D A [(e0, .inr (1, [.ref eb, .ref es, .int (nI n)])), (eb, .inl (E.2.1, 1920, .inl f)), (es, .inl (E.2.2.1, 24, .inl sz))] := hD
  refine tope (z := b2 false) (congrArg b2 (hk)) ?_
  refine zb_ne C false rfl d_El_isTrue_5 rfl (fun hc3 => absurd hc3 (by simp_all)) (fun hc3 => ?_)
  refine lv_iconst (v := nI 0) hx hb d_El_isTrue_8 (by decide) ?_
  exact kret (nI 0) [(e0, .inr (1, [.ref eb, .ref es, .int (nI n)])), (eb, .inl (E.2.1, 1920, .inl f)), (es, .inl (E.2.2.1, 24, .inl sz))] _ _ _ _ d_El_isTrue_9 (⟨rfl, rfl⟩) rfl hP hS

set_option maxHeartbeats 4000000 in
set_option maxRecDepth 100000 in
theorem c_El_isNumber (l : Launch) (E : En) (e0 eb es n : Nat) (f sz : Nat → Int32) (j k : Nat) (hj : j < n) (hn : n ≤ 24) (hz : sz j = nI k) (hk : k ≤ 80) : CtI l y_El_isNumber b_El_isNumber 2 .boolean (rmd 1) E [.ref e0, .int (nI j)] [(e0, .inr (1, [.ref eb, .ref es, .int (nI n)])), (eb, .inl (E.2.1, 1920, .inl f)), (es, .inl (E.2.2.1, 24, .inl sz))] (fun r w => r = b2 (decide (k ≤ 4)) ∧ w = [(e0, .inr (1, [.ref eb, .ref es, .int (nI n)])), (eb, .inl (E.2.1, 1920, .inl f)), (es, .inl (E.2.2.1, 24, .inl sz))]) := by
  refine CtI.of (by decide) (Nat.le_of_ble_eq_true rfl) (fun r w h => by obtain ⟨rfl, _⟩ := h; exact b2_nar _) ?_
  intro p e s m args below meth c A Q H locs ls C hP hD hS hl kret
  have hx := C.1
  have hb := C.2.1
  have hl : lv_has ls 2 [(0, .ref e0), (1, .int (nI j))] := hl
  refine lv_aload_n hx hb d_El_isNumber_0 rfl (lv_at hl 0 rfl) ?_
  refine lv_iload_n hx hb d_El_isNumber_1 rfl (lv_at hl 1 rfl) ?_
  refine cal_I (As := [.int (nI j)]) (rest := []) C lk_El_31 (c_El_has l E e0 eb es n (nI j)) (by decide) hP hD hS 0 1 rfl rfl [0] rfl (by decide) hl.1 rfl (Nat.le_of_ble_eq_true rfl) d_El_isNumber_2 (fun r1 w1 H locs hp2 hP hD hS => ?_)
  obtain ⟨rfl, rfl⟩ := hp2
  have hP : va_P E.1 clz [(e0, .inr (1, [.ref eb, .ref es, .int (nI n)])), (eb, .inl (E.2.1, 1920, .inl f)), (es, .inl (E.2.2.1, 24, .inl sz))] H := hP
  have hD : va_D A [(e0, .inr (1, [.ref eb, .ref es, .int (nI n)])), (eb, .inl (E.2.1, 1920, .inl f)), (es, .inl (E.2.2.1, 24, .inl sz))] := hD
  refine tope (z := b2 true) (congrArg b2 ((hasB_nI (by omega) (by omega)).trans (decide_eq_true (by omega)))) ?_
  refine zb_eq C true rfl d_El_isNumber_5 rfl (fun hc3 => absurd hc3 (by simp_all)) (fun hc3 => ?_)
  refine lv_aload_n hx hb d_El_isNumber_8 rfl (lv_at hl 0 rfl) ?_
  refine n_get C fg_El_13 hP 0 rfl rfl d_El_isNumber_9 ?_
  refine lv_iload_n hx hb d_El_isNumber_12 rfl (lv_at hl 1 rfl) ?_
  refine n_iald C hP 2 rfl j rfl (by omega) (by omega) d_El_isNumber_13 ?_
  refine tope (z := nI k) (hz) ?_
  refine lv_iconst (v := nI 4) hx hb d_El_isNumber_14 (by decide) ?_
  refine j_gt C k 4 rfl rfl (by omega) (by omega) d_El_isNumber_15 rfl (fun hc4 => ?_) (fun hc4 => ?_)
  · refine lv_iconst (v := nI 0) hx hb d_El_isNumber_22 (by decide) ?_
    exact kret (nI 0) [(e0, .inr (1, [.ref eb, .ref es, .int (nI n)])), (eb, .inl (E.2.1, 1920, .inl f)), (es, .inl (E.2.2.1, 24, .inl sz))] _ _ _ _ d_El_isNumber_23 (⟨by first | exact b2_t (decide_eq_true (by omega)) | exact b2_f (decide_eq_false (by omega)), rfl⟩) rfl hP hS
  · refine lv_iconst (v := nI 1) hx hb d_El_isNumber_18 (by decide) ?_
    refine lv_goto hx hb d_El_isNumber_19 rfl ?_
    exact kret (nI 1) [(e0, .inr (1, [.ref eb, .ref es, .int (nI n)])), (eb, .inl (E.2.1, 1920, .inl f)), (es, .inl (E.2.2.1, 24, .inl sz))] _ _ _ _ d_El_isNumber_23 (⟨by first | exact b2_t (decide_eq_true (by omega)) | exact b2_f (decide_eq_false (by omega)), rfl⟩) rfl hP hS

set_option maxHeartbeats 4000000 in
set_option maxRecDepth 100000 in
theorem c_El_isNumber_no (l : Launch) (E : En) (e0 eb es n : Nat) (f sz : Nat → Int32) (k : Int32) (hk : hasB k n = false) : CtI l y_El_isNumber b_El_isNumber 2 .boolean (rmd 1) E [.ref e0, .int k] [(e0, .inr (1, [.ref eb, .ref es, .int (nI n)])), (eb, .inl (E.2.1, 1920, .inl f)), (es, .inl (E.2.2.1, 24, .inl sz))] (fun r w => r = b2 false ∧ w = [(e0, .inr (1, [.ref eb, .ref es, .int (nI n)])), (eb, .inl (E.2.1, 1920, .inl f)), (es, .inl (E.2.2.1, 24, .inl sz))]) := by
  refine CtI.of (by decide) (Nat.le_of_ble_eq_true rfl) (fun r w h => by obtain ⟨rfl, _⟩ := h; exact b2_nar _) ?_
  intro p e s m args below meth c A Q H locs ls C hP hD hS hl kret
  have hx := C.1
  have hb := C.2.1
  have hl : lv_has ls 2 [(0, .ref e0), (1, .int k)] := hl
  refine lv_aload_n hx hb d_El_isNumber_0 rfl (lv_at hl 0 rfl) ?_
  refine lv_iload_n hx hb d_El_isNumber_1 rfl (lv_at hl 1 rfl) ?_
  refine cal_I (As := [.int k]) (rest := []) C lk_El_31 (c_El_has l E e0 eb es n k) (by decide) hP hD hS 0 1 rfl rfl [0] rfl (by decide) hl.1 rfl (Nat.le_of_ble_eq_true rfl) d_El_isNumber_2 (fun r1 w1 H locs hp2 hP hD hS => ?_)
  obtain ⟨rfl, rfl⟩ := hp2
  have hP : va_P E.1 clz [(e0, .inr (1, [.ref eb, .ref es, .int (nI n)])), (eb, .inl (E.2.1, 1920, .inl f)), (es, .inl (E.2.2.1, 24, .inl sz))] H := hP
  have hD : va_D A [(e0, .inr (1, [.ref eb, .ref es, .int (nI n)])), (eb, .inl (E.2.1, 1920, .inl f)), (es, .inl (E.2.2.1, 24, .inl sz))] := hD
  refine tope (z := b2 false) (congrArg b2 (hk)) ?_
  refine zb_eq C false rfl d_El_isNumber_5 rfl (fun hc3 => ?_) (fun hc3 => absurd hc3 (by simp_all))
  refine lv_iconst (v := nI 0) hx hb d_El_isNumber_22 (by decide) ?_
  exact kret (nI 0) [(e0, .inr (1, [.ref eb, .ref es, .int (nI n)])), (eb, .inl (E.2.1, 1920, .inl f)), (es, .inl (E.2.2.1, 24, .inl sz))] _ _ _ _ d_El_isNumber_23 (⟨rfl, rfl⟩) rfl hP hS

set_option maxHeartbeats 4000000 in
set_option maxRecDepth 100000 in
theorem c_El_number (l : Launch) (E : En) (e0 eb es n : Nat) (f sz : Nat → Int32) (j : Nat) (x : List Int32) (hj : j < n) (hn : n ≤ 24) (hz : sz j = nI x.length) (hx80 : x.length ≤ 80) (hla : lay f (j * 80) x) (hx4 : x.length ≤ 4) : CtI l y_El_number b_El_number 5 .int (rmd 2) E [.ref e0, .int (nI j)] [(e0, .inr (1, [.ref eb, .ref es, .int (nI n)])), (eb, .inl (E.2.1, 1920, .inl f)), (es, .inl (E.2.2.1, 24, .inl sz))] (fun r w => r = numL x ∧ w = [(e0, .inr (1, [.ref eb, .ref es, .int (nI n)])), (eb, .inl (E.2.1, 1920, .inl f)), (es, .inl (E.2.2.1, 24, .inl sz))]) := by
  refine CtI.of (by decide) (Nat.le_of_ble_eq_true rfl) (fun _ _ _ => rfl) ?_
  intro p e s m args below meth c A Q H locs ls C hP hD hS hl kret
  have hx := C.1
  have hb := C.2.1
  have hl : lv_has ls 5 [(0, .ref e0), (1, .int (nI j))] := hl
  refine lv_aload_n hx hb d_El_number_0 rfl (lv_at hl 0 rfl) ?_
  refine lv_iload_n hx hb d_El_number_1 rfl (lv_at hl 1 rfl) ?_
  refine cal_I (As := [.int (nI j)]) (rest := []) C lk_El_49 (c_El_isNumber l E e0 eb es n f sz j x.length (by omega) (by omega) (hz) (by omega)) (by decide) hP hD hS 0 1 rfl rfl [0, 1, 2] rfl (by decide) hl.1 rfl (Nat.le_of_ble_eq_true rfl) d_El_number_2 (fun r1 w1 H locs hp2 hP hD hS => ?_)
  obtain ⟨rfl, rfl⟩ := hp2
  have hP : va_P E.1 clz [(e0, .inr (1, [.ref eb, .ref es, .int (nI n)])), (eb, .inl (E.2.1, 1920, .inl f)), (es, .inl (E.2.2.1, 24, .inl sz))] H := hP
  have hD : va_D A [(e0, .inr (1, [.ref eb, .ref es, .int (nI n)])), (eb, .inl (E.2.1, 1920, .inl f)), (es, .inl (E.2.2.1, 24, .inl sz))] := hD
  refine tope (z := b2 true) (congrArg b2 (decide_eq_true hx4)) ?_
  refine zb_eq C true rfl d_El_number_5 rfl (fun hc3 => absurd hc3 (by simp_all)) (fun hc3 => ?_)
  refine lv_aload_n hx hb d_El_number_8 rfl (lv_at hl 0 rfl) ?_
  refine n_get C fg_El_13 hP 0 rfl rfl d_El_number_9 ?_
  refine lv_iload_n hx hb d_El_number_12 rfl (lv_at hl 1 rfl) ?_
  refine n_iald C hP 2 rfl j rfl (by omega) (by omega) d_El_number_13 ?_
  refine tope (z := nI x.length) (hz) ?_
  refine z_ne C x.length rfl (by omega) d_El_number_14 rfl (fun hc4 => ?_) (fun hc4 => ?_)
  · refine lv_aload_n hx hb d_El_number_19 rfl (lv_at hl 0 rfl) ?_
    refine lv_iload_n hx hb d_El_number_20 rfl (lv_at hl 1 rfl) ?_
    refine cal_I (As := [.int (nI j)]) (rest := []) C lk_El_21 (c_El_place l E e0 j) (by decide) hP hD hS 0 1 rfl rfl [] rfl (by decide) hl.1 rfl (Nat.le_of_ble_eq_true rfl) d_El_number_21 (fun r5 w1 H locs hp6 hP hD hS => ?_)
    obtain ⟨rfl, rfl⟩ := hp6
    have hP : va_P E.1 clz [(e0, .inr (1, [.ref eb, .ref es, .int (nI n)])), (eb, .inl (E.2.1, 1920, .inl f)), (es, .inl (E.2.2.1, 24, .inl sz))] H := hP
    have hD : va_D A [(e0, .inr (1, [.ref eb, .ref es, .int (nI n)])), (eb, .inl (E.2.1, 1920, .inl f)), (es, .inl (E.2.2.1, 24, .inl sz))] := hD
    refine lv_istore_n (lv' := [(2, .int (nI (j * 80))), (0, .ref e0), (1, .int (nI j))]) hx hb d_El_number_24 rfl hl (by decide) rfl (fun ls hl => ?_)
    refine lv_aload_n hx hb d_El_number_25 rfl (lv_at hl 1 rfl) ?_
    refine n_get C fg_El_9 hP 0 rfl rfl d_El_number_26 ?_
    refine lv_iload_n hx hb d_El_number_29 rfl (lv_at hl 0 rfl) ?_
    refine n_bald C hP 1 rfl (j * 80) rfl (by omega) (by omega) d_El_number_30 ?_
    refine tope (z := x.getD 0 0) (hla 0 (by omega)) ?_
    refine lv_istore_n (lv' := [(3, .int (x.getD 0 0)), (2, .int (nI (j * 80))), (0, .ref e0), (1, .int (nI j))]) hx hb d_El_number_31 rfl hl (by decide) rfl (fun ls hl => ?_)
    refine lv_iconst (v := nI 1) hx hb d_El_number_32 (by decide) ?_
    refine lv_istore (lv' := [(4, .int (nI 1)), (3, .int (x.getD 0 0)), (2, .int (nI (j * 80))), (0, .ref e0), (1, .int (nI j))]) hx hb d_El_number_33 hl (by decide) rfl (fun ls hl => ?_)
    have hloop35 : ∀ (dd : Nat) (i : Nat) (H : Heap) (locs : List Loc) (ls : Array Slot), x.length - i < dd → (i + 1 ≤ x.length) → va_P E.1 clz [(e0, .inr (1, [.ref eb, .ref es, .int (nI n)])), (eb, .inl (E.2.1, 1920, .inl f)), (es, .inl (E.2.2.1, 24, .inl sz))] H → va_D A [(e0, .inr (1, [.ref eb, .ref es, .int (nI n)])), (eb, .inl (E.2.1, 1920, .inl f)), (es, .inl (E.2.2.1, 24, .inl sz))] → va_S A s.heap H locs → lv_has ls 5 [(4, .int (nI (i + 1))), (3, .int (numI x (x.getD 0 0) i)), (2, .int (nI (j * 80))), (1, .int (nI j)), (0, .ref e0)] → W p l e (rmd 2) s m args below meth c H locs 0 0 Q (F0 m 35 ls []) := by
      intro dd
      induction dd with
      | zero => intro i H locs ls hmz; exact absurd hmz (Nat.not_lt_zero _)
      | succ dd ih35 =>
        intro i H locs ls hmz hi hP hD hS hl
        refine lv_iload hx hb d_El_number_35 (lv_at hl 0 rfl) ?_
        refine lv_aload_n hx hb d_El_number_37 rfl (lv_at hl 4 rfl) ?_
        refine n_get C fg_El_13 hP 0 rfl rfl d_El_number_38 ?_
        refine lv_iload_n hx hb d_El_number_41 rfl (lv_at hl 3 rfl) ?_
        refine n_iald C hP 2 rfl j rfl (by omega) (by omega) d_El_number_42 ?_
        refine tope (z := nI x.length) (hz) ?_
        refine j_ge C (i + 1) x.length rfl rfl (by omega) (by omega) d_El_number_43 rfl (fun hc7 => ?_) (fun hc7 => ?_)
        · refine lv_iload_n hx hb d_El_number_71 rfl (lv_at hl 1 rfl) ?_
          exact kret (numI x (x.getD 0 0) i) [(e0, .inr (1, [.ref eb, .ref es, .int (nI n)])), (eb, .inl (E.2.1, 1920, .inl f)), (es, .inl (E.2.2.1, 24, .inl sz))] _ _ _ _ d_El_number_72 (⟨by rw [show i = x.length - 1 by omega]; exact numI_e x (by omega), rfl⟩) rfl hP hS
        · refine lv_iload_n hx hb d_El_number_46 rfl (lv_at hl 1 rfl) ?_
          refine lv_bipush (v := nI 8) hx hb d_El_number_47 (by decide) ?_
          refine lv_ishl hx hb d_El_number_49 ?_
          refine lv_aload_n hx hb d_El_number_50 rfl (lv_at hl 4 rfl) ?_
          refine n_get C fg_El_9 hP 0 rfl rfl d_El_number_51 ?_
          refine lv_iload_n hx hb d_El_number_54 rfl (lv_at hl 2 rfl) ?_
          refine lv_iload hx hb d_El_number_55 (lv_at hl 0 rfl) ?_
          refine lv_iadd hx hb d_El_number_57 ?_
          refine tope (z := nI ((j * 80) + (i + 1))) (nI_add _ _) ?_
          refine n_bald C hP 1 rfl ((j * 80) + (i + 1)) rfl (by omega) (by omega) d_El_number_58 ?_
          refine lv_sipush (v := nI 255) hx hb d_El_number_59 (by decide) ?_
          refine lv_iand hx hb d_El_number_62 ?_
          refine lv_ior hx hb d_El_number_63 ?_
          refine tope (z := numI x (x.getD 0 0) (i + 1)) (by rw [numI_s x _ i (by omega), ← hla (i + 1) (by omega)]; rfl) ?_
          refine lv_istore_n (lv' := [(3, .int (numI x (x.getD 0 0) (i + 1))), (4, .int (nI (i + 1))), (2, .int (nI (j * 80))), (1, .int (nI j)), (0, .ref e0)]) hx hb d_El_number_64 rfl hl (by decide) rfl (fun ls hl => ?_)
          refine lv_iinc (k := 1) (v := nI (i + 1 + 1)) (lv' := [(4, .int (nI (i + 1 + 1))), (3, .int (numI x (x.getD 0 0) (i + 1))), (2, .int (nI (j * 80))), (1, .int (nI j)), (0, .ref e0)]) hx hb d_El_number_65 hl rfl (iincK (i + 1) 1) (by decide) rfl (fun ls hl => ?_)
          refine lv_goto hx hb d_El_number_68 rfl ?_
          exact ih35 (i + 1) H locs ls (by omega) (by omega) hP hD hS (lv_sub hl [0, 1, 2, 3, 4] rfl)
    exact hloop35 (x.length + 1) 0 H locs ls (by omega) (by omega) hP hD hS (lv_sub hl [0, 1, 2, 4, 3] rfl)
  · refine lv_iconst (v := nI 0) hx hb d_El_number_17 (by decide) ?_
    exact kret (nI 0) [(e0, .inr (1, [.ref eb, .ref es, .int (nI n)])), (eb, .inl (E.2.1, 1920, .inl f)), (es, .inl (E.2.2.1, 24, .inl sz))] _ _ _ _ d_El_number_18 (⟨by rw [List.length_eq_zero_iff.mp (by omega : x.length = 0)]; rfl, rfl⟩) rfl hP hS

set_option maxHeartbeats 4000000 in
set_option maxRecDepth 100000 in
theorem c_El_number_long (l : Launch) (E : En) (e0 eb es n : Nat) (f sz : Nat → Int32) (j : Nat) (x : List Int32) (hj : j < n) (hn : n ≤ 24) (hz : sz j = nI x.length) (hx80 : x.length ≤ 80) (hla : lay f (j * 80) x) (hx4 : 4 < x.length) : CtI l y_El_number b_El_number 5 .int (rmd 2) E [.ref e0, .int (nI j)] [(e0, .inr (1, [.ref eb, .ref es, .int (nI n)])), (eb, .inl (E.2.1, 1920, .inl f)), (es, .inl (E.2.2.1, 24, .inl sz))] (fun r w => r = nI 0 ∧ w = [(e0, .inr (1, [.ref eb, .ref es, .int (nI n)])), (eb, .inl (E.2.1, 1920, .inl f)), (es, .inl (E.2.2.1, 24, .inl sz))]) := by
  refine CtI.of (by decide) (Nat.le_of_ble_eq_true rfl) (fun _ _ _ => rfl) ?_
  intro p e s m args below meth c A Q H locs ls C hP hD hS hl kret
  have hx := C.1
  have hb := C.2.1
  have hl : lv_has ls 5 [(0, .ref e0), (1, .int (nI j))] := hl
  refine lv_aload_n hx hb d_El_number_0 rfl (lv_at hl 0 rfl) ?_
  refine lv_iload_n hx hb d_El_number_1 rfl (lv_at hl 1 rfl) ?_
  refine cal_I (As := [.int (nI j)]) (rest := []) C lk_El_49 (c_El_isNumber l E e0 eb es n f sz j x.length (by omega) (by omega) (hz) (by omega)) (by decide) hP hD hS 0 1 rfl rfl [0, 1, 2] rfl (by decide) hl.1 rfl (Nat.le_of_ble_eq_true rfl) d_El_number_2 (fun r1 w1 H locs hp2 hP hD hS => ?_)
  obtain ⟨rfl, rfl⟩ := hp2
  have hP : va_P E.1 clz [(e0, .inr (1, [.ref eb, .ref es, .int (nI n)])), (eb, .inl (E.2.1, 1920, .inl f)), (es, .inl (E.2.2.1, 24, .inl sz))] H := hP
  have hD : va_D A [(e0, .inr (1, [.ref eb, .ref es, .int (nI n)])), (eb, .inl (E.2.1, 1920, .inl f)), (es, .inl (E.2.2.1, 24, .inl sz))] := hD
  refine tope (z := b2 false) (congrArg b2 (decide_eq_false (by omega))) ?_
  refine zb_eq C false rfl d_El_number_5 rfl (fun hc3 => ?_) (fun hc3 => absurd hc3 (by simp_all))
  refine lv_iconst (v := nI 0) hx hb d_El_number_17 (by decide) ?_
  exact kret (nI 0) [(e0, .inr (1, [.ref eb, .ref es, .int (nI n)])), (eb, .inl (E.2.1, 1920, .inl f)), (es, .inl (E.2.2.1, 24, .inl sz))] _ _ _ _ d_El_number_18 (⟨rfl, rfl⟩) rfl hP hS

set_option maxHeartbeats 4000000 in
set_option maxRecDepth 100000 in
theorem c_El_number_no (l : Launch) (E : En) (e0 eb es n : Nat) (f sz : Nat → Int32) (k : Int32) (hk : hasB k n = false) : CtI l y_El_number b_El_number 5 .int (rmd 2) E [.ref e0, .int k] [(e0, .inr (1, [.ref eb, .ref es, .int (nI n)])), (eb, .inl (E.2.1, 1920, .inl f)), (es, .inl (E.2.2.1, 24, .inl sz))] (fun r w => r = nI 0 ∧ w = [(e0, .inr (1, [.ref eb, .ref es, .int (nI n)])), (eb, .inl (E.2.1, 1920, .inl f)), (es, .inl (E.2.2.1, 24, .inl sz))]) := by
  refine CtI.of (by decide) (Nat.le_of_ble_eq_true rfl) (fun _ _ _ => rfl) ?_
  intro p e s m args below meth c A Q H locs ls C hP hD hS hl kret
  have hx := C.1
  have hb := C.2.1
  have hl : lv_has ls 5 [(0, .ref e0), (1, .int k)] := hl
  refine lv_aload_n hx hb d_El_number_0 rfl (lv_at hl 0 rfl) ?_
  refine lv_iload_n hx hb d_El_number_1 rfl (lv_at hl 1 rfl) ?_
  refine cal_I (As := [.int k]) (rest := []) C lk_El_49 (c_El_isNumber_no l E e0 eb es n f sz k (hk)) (by decide) hP hD hS 0 1 rfl rfl [0, 1, 2] rfl (by decide) hl.1 rfl (Nat.le_of_ble_eq_true rfl) d_El_number_2 (fun r1 w1 H locs hp2 hP hD hS => ?_)
  obtain ⟨rfl, rfl⟩ := hp2
  have hP : va_P E.1 clz [(e0, .inr (1, [.ref eb, .ref es, .int (nI n)])), (eb, .inl (E.2.1, 1920, .inl f)), (es, .inl (E.2.2.1, 24, .inl sz))] H := hP
  have hD : va_D A [(e0, .inr (1, [.ref eb, .ref es, .int (nI n)])), (eb, .inl (E.2.1, 1920, .inl f)), (es, .inl (E.2.2.1, 24, .inl sz))] := hD
  refine zb_eq C false rfl d_El_number_5 rfl (fun hc3 => ?_) (fun hc3 => absurd hc3 (by simp_all))
  refine lv_iconst (v := nI 0) hx hb d_El_number_17 (by decide) ?_
  exact kret (nI 0) [(e0, .inr (1, [.ref eb, .ref es, .int (nI n)])), (eb, .inl (E.2.1, 1920, .inl f)), (es, .inl (E.2.2.1, 24, .inl sz))] _ _ _ _ d_El_number_18 (⟨rfl, rfl⟩) rfl hP hS

set_option maxHeartbeats 4000000 in
set_option maxRecDepth 100000 in
theorem c_El_holds (l : Launch) (E : En) (e0 eb es n : Nat) (f sz : Nat → Int32) (j : Nat) (x : List Int32) (hj : j < n) (hn : n ≤ 24) (hz : sz j = nI x.length) (hx80 : x.length ≤ 80) (hla : lay f (j * 80) x) (y : List Int32) (o : Nat) (g0 Mg : Nat) (g : Nat → Int32) (hlb : lay g o y) (hy : o + y.length ≤ Mg) (hM : Mg < 2 ^ 31) : CtI l y_El_holds b_El_holds 7 .boolean (rmd 1) E [.ref e0, .int (nI j), .ref g0, .int (nI o), .int (nI y.length)] [(e0, .inr (1, [.ref eb, .ref es, .int (nI n)])), (eb, .inl (E.2.1, 1920, .inl f)), (es, .inl (E.2.2.1, 24, .inl sz)), (g0, .inl (E.2.1, Mg, .inl g))] (fun r w => r = b2 (decide (x = y)) ∧ w = [(e0, .inr (1, [.ref eb, .ref es, .int (nI n)])), (eb, .inl (E.2.1, 1920, .inl f)), (es, .inl (E.2.2.1, 24, .inl sz)), (g0, .inl (E.2.1, Mg, .inl g))]) := by
  refine CtI.of (by decide) (Nat.le_of_ble_eq_true rfl) (fun r w h => by obtain ⟨rfl, _⟩ := h; exact b2_nar _) ?_
  intro p e s m args below meth c A Q H locs ls C hP hD hS hl kret
  have hx := C.1
  have hb := C.2.1
  have hl : lv_has ls 7 [(0, .ref e0), (1, .int (nI j)), (2, .ref g0), (3, .int (nI o)), (4, .int (nI y.length))] := hl
  refine lv_aload_n hx hb d_El_holds_0 rfl (lv_at hl 0 rfl) ?_
  refine lv_iload_n hx hb d_El_holds_1 rfl (lv_at hl 1 rfl) ?_
  refine cal_I (As := [.int (nI j)]) (rest := []) C lk_El_31 (c_El_has l E e0 eb es n (nI j)) (by decide) hP hD hS 0 1 rfl rfl [0] rfl (by decide) hl.1 rfl (Nat.le_of_ble_eq_true rfl) d_El_holds_2 (fun r1 w1 H locs hp2 hP hD hS => ?_)
  obtain ⟨rfl, rfl⟩ := hp2
  have hP : va_P E.1 clz [(e0, .inr (1, [.ref eb, .ref es, .int (nI n)])), (eb, .inl (E.2.1, 1920, .inl f)), (es, .inl (E.2.2.1, 24, .inl sz)), (g0, .inl (E.2.1, Mg, .inl g))] H := hP
  have hD : va_D A [(e0, .inr (1, [.ref eb, .ref es, .int (nI n)])), (eb, .inl (E.2.1, 1920, .inl f)), (es, .inl (E.2.2.1, 24, .inl sz)), (g0, .inl (E.2.1, Mg, .inl g))] := hD
  refine tope (z := b2 true) (congrArg b2 ((hasB_nI (by omega) (by omega)).trans (decide_eq_true (by omega)))) ?_
  refine zb_eq C true rfl d_El_holds_5 rfl (fun hc3 => absurd hc3 (by simp_all)) (fun hc3 => ?_)
  refine lv_aload_n hx hb d_El_holds_8 rfl (lv_at hl 0 rfl) ?_
  refine n_get C fg_El_13 hP 0 rfl rfl d_El_holds_9 ?_
  refine lv_iload_n hx hb d_El_holds_12 rfl (lv_at hl 1 rfl) ?_
  refine n_iald C hP 2 rfl j rfl (by omega) (by omega) d_El_holds_13 ?_
  refine tope (z := nI x.length) (hz) ?_
  refine lv_iload hx hb d_El_holds_14 (lv_at hl 4 rfl) ?_
  refine j_eq C x.length y.length rfl rfl (by omega) (by omega) d_El_holds_16 rfl (fun hc4 => ?_) (fun hc4 => ?_)
  · refine lv_aload_n hx hb d_El_holds_21 rfl (lv_at hl 0 rfl) ?_
    refine lv_iload_n hx hb d_El_holds_22 rfl (lv_at hl 1 rfl) ?_
    refine cal_I (As := [.int (nI j)]) (rest := []) C lk_El_21 (c_El_place l E e0 j) (by decide) hP hD hS 0 1 rfl rfl [] rfl (by decide) hl.1 rfl (Nat.le_of_ble_eq_true rfl) d_El_holds_23 (fun r5 w1 H locs hp6 hP hD hS => ?_)
    obtain ⟨rfl, rfl⟩ := hp6
    have hP : va_P E.1 clz [(e0, .inr (1, [.ref eb, .ref es, .int (nI n)])), (eb, .inl (E.2.1, 1920, .inl f)), (es, .inl (E.2.2.1, 24, .inl sz)), (g0, .inl (E.2.1, Mg, .inl g))] H := hP
    have hD : va_D A [(e0, .inr (1, [.ref eb, .ref es, .int (nI n)])), (eb, .inl (E.2.1, 1920, .inl f)), (es, .inl (E.2.2.1, 24, .inl sz)), (g0, .inl (E.2.1, Mg, .inl g))] := hD
    refine lv_istore (lv' := [(5, .int (nI (j * 80))), (0, .ref e0), (1, .int (nI j)), (2, .ref g0), (3, .int (nI o)), (4, .int (nI y.length))]) hx hb d_El_holds_26 hl (by decide) rfl (fun ls hl => ?_)
    refine lv_iconst (v := nI 0) hx hb d_El_holds_28 (by decide) ?_
    refine lv_istore (lv' := [(6, .int (nI 0)), (5, .int (nI (j * 80))), (0, .ref e0), (1, .int (nI j)), (2, .ref g0), (3, .int (nI o)), (4, .int (nI y.length))]) hx hb d_El_holds_29 hl (by decide) rfl (fun ls hl => ?_)
    have hloop31 : ∀ (dd : Nat) (i : Nat) (H : Heap) (locs : List Loc) (ls : Array Slot), y.length - i < dd → (i ≤ y.length) → (∀ q, q < i → x.getD q 0 = y.getD q 0) → va_P E.1 clz [(e0, .inr (1, [.ref eb, .ref es, .int (nI n)])), (eb, .inl (E.2.1, 1920, .inl f)), (es, .inl (E.2.2.1, 24, .inl sz)), (g0, .inl (E.2.1, Mg, .inl g))] H → va_D A [(e0, .inr (1, [.ref eb, .ref es, .int (nI n)])), (eb, .inl (E.2.1, 1920, .inl f)), (es, .inl (E.2.2.1, 24, .inl sz)), (g0, .inl (E.2.1, Mg, .inl g))] → va_S A s.heap H locs → lv_has ls 7 [(6, .int (nI i)), (5, .int (nI (j * 80))), (4, .int (nI y.length)), (3, .int (nI o)), (2, .ref g0), (1, .int (nI j)), (0, .ref e0)] → W p l e (rmd 1) s m args below meth c H locs 0 0 Q (F0 m 31 ls []) := by
      intro dd
      induction dd with
      | zero => intro i H locs ls hmz; exact absurd hmz (Nat.not_lt_zero _)
      | succ dd ih31 =>
        intro i H locs ls hmz hi hi2 hP hD hS hl
        refine lv_iload hx hb d_El_holds_31 (lv_at hl 0 rfl) ?_
        refine lv_iload hx hb d_El_holds_33 (lv_at hl 2 rfl) ?_
        refine j_ge C i y.length rfl rfl (by omega) (by omega) d_El_holds_35 rfl (fun hc7 => ?_) (fun hc7 => ?_)
        · refine lv_iconst (v := nI 1) hx hb d_El_holds_65 (by decide) ?_
          exact kret (nI 1) [(e0, .inr (1, [.ref eb, .ref es, .int (nI n)])), (eb, .inl (E.2.1, 1920, .inl f)), (es, .inl (E.2.2.1, 24, .inl sz)), (g0, .inl (E.2.1, Mg, .inl g))] _ _ _ _ d_El_holds_66 (⟨b2_t (decide_eq_true (list_eq_of (by omega) (fun q hq => hi2 q (by omega)))), rfl⟩) rfl hP hS
        · refine lv_aload_n hx hb d_El_holds_38 rfl (lv_at hl 6 rfl) ?_
          refine n_get C fg_El_9 hP 0 rfl rfl d_El_holds_39 ?_
          refine lv_iload hx hb d_El_holds_42 (lv_at hl 1 rfl) ?_
          refine lv_iload hx hb d_El_holds_44 (lv_at hl 0 rfl) ?_
          refine lv_iadd hx hb d_El_holds_46 ?_
          refine tope (z := nI ((j * 80) + i)) (nI_add _ _) ?_
          refine n_bald C hP 1 rfl ((j * 80) + i) rfl (by omega) (by omega) d_El_holds_47 ?_
          refine lv_aload_n hx hb d_El_holds_48 rfl (lv_at hl 4 rfl) ?_
          refine lv_iload_n hx hb d_El_holds_49 rfl (lv_at hl 3 rfl) ?_
          refine lv_iload hx hb d_El_holds_50 (lv_at hl 0 rfl) ?_
          refine lv_iadd hx hb d_El_holds_52 ?_
          refine tope (z := nI (o + i)) (nI_add _ _) ?_
          refine n_bald C hP 3 rfl (o + i) rfl (by omega) (by omega) d_El_holds_53 ?_
          refine lv_icmp_eq hx hb d_El_holds_54 rfl (fun hc8 => ?_) (fun hc8 => ?_)
          · refine lv_iinc (k := 0) (v := nI (i + 1)) (lv' := [(6, .int (nI (i + 1))), (5, .int (nI (j * 80))), (4, .int (nI y.length)), (3, .int (nI o)), (2, .ref g0), (1, .int (nI j)), (0, .ref e0)]) hx hb d_El_holds_59 hl rfl (iincK i 1) (by decide) rfl (fun ls hl => ?_)
            refine lv_goto hx hb d_El_holds_62 rfl ?_
            exact ih31 (i + 1) H locs ls (by omega) (by omega) (fun q hq => by rcases Nat.lt_or_ge q i with h9 | h9; exact hi2 q h9; obtain rfl : q = i := (by omega); rw [← hla q (by omega), ← hlb q (by omega)]; assumption) hP hD hS (lv_sub hl [0, 1, 2, 3, 4, 5, 6] rfl)
          · refine lv_iconst (v := nI 0) hx hb d_El_holds_57 (by decide) ?_
            exact kret (nI 0) [(e0, .inr (1, [.ref eb, .ref es, .int (nI n)])), (eb, .inl (E.2.1, 1920, .inl f)), (es, .inl (E.2.2.1, 24, .inl sz)), (g0, .inl (E.2.1, Mg, .inl g))] _ _ _ _ d_El_holds_58 (⟨b2_f (decide_eq_false (fun h9 => by have h8 := hla i (by omega); have h7 := hlb i (by omega); rw [h9] at h8; exact absurd (h8.trans h7.symm) (by assumption))), rfl⟩) rfl hP hS
    exact hloop31 (y.length + 1) 0 H locs ls (by omega) (by omega) (fun q hq => absurd hq (Nat.not_lt_zero q)) hP hD hS (lv_sub hl [0, 1, 6, 5, 4, 3, 2] rfl)
  · refine lv_iconst (v := nI 0) hx hb d_El_holds_19 (by decide) ?_
    exact kret (nI 0) [(e0, .inr (1, [.ref eb, .ref es, .int (nI n)])), (eb, .inl (E.2.1, 1920, .inl f)), (es, .inl (E.2.2.1, 24, .inl sz)), (g0, .inl (E.2.1, Mg, .inl g))] _ _ _ _ d_El_holds_20 (⟨b2_f (decide_eq_false (fun h9 => by have h8 := congrArg List.length h9; omega)), rfl⟩) rfl hP hS

set_option maxHeartbeats 4000000 in
set_option maxRecDepth 100000 in
theorem c_El_holdsA (l : Launch) (E : En) (e0 eb es n : Nat) (f sz : Nat → Int32) (j : Nat) (x : List Int32) (hj : j < n) (hn : n ≤ 24) (hz : sz j = nI x.length) (hx80 : x.length ≤ 80) (hla : lay f (j * 80) x) (y : List Int32) (o : Nat) (hlb : lay f o y) (hy : o + y.length ≤ 1920) : CtI l y_El_holds b_El_holds 7 .boolean (rmd 1) E [.ref e0, .int (nI j), .ref eb, .int (nI o), .int (nI y.length)] [(e0, .inr (1, [.ref eb, .ref es, .int (nI n)])), (eb, .inl (E.2.1, 1920, .inl f)), (es, .inl (E.2.2.1, 24, .inl sz))] (fun r w => r = b2 (decide (x = y)) ∧ w = [(e0, .inr (1, [.ref eb, .ref es, .int (nI n)])), (eb, .inl (E.2.1, 1920, .inl f)), (es, .inl (E.2.2.1, 24, .inl sz))]) := by
  refine CtI.of (by decide) (Nat.le_of_ble_eq_true rfl) (fun r w h => by obtain ⟨rfl, _⟩ := h; exact b2_nar _) ?_
  intro p e s m args below meth c A Q H locs ls C hP hD hS hl kret
  have hx := C.1
  have hb := C.2.1
  have hl : lv_has ls 7 [(0, .ref e0), (1, .int (nI j)), (2, .ref eb), (3, .int (nI o)), (4, .int (nI y.length))] := hl
  refine lv_aload_n hx hb d_El_holds_0 rfl (lv_at hl 0 rfl) ?_
  refine lv_iload_n hx hb d_El_holds_1 rfl (lv_at hl 1 rfl) ?_
  refine cal_I (As := [.int (nI j)]) (rest := []) C lk_El_31 (c_El_has l E e0 eb es n (nI j)) (by decide) hP hD hS 0 1 rfl rfl [0] rfl (by decide) hl.1 rfl (Nat.le_of_ble_eq_true rfl) d_El_holds_2 (fun r1 w1 H locs hp2 hP hD hS => ?_)
  obtain ⟨rfl, rfl⟩ := hp2
  have hP : va_P E.1 clz [(e0, .inr (1, [.ref eb, .ref es, .int (nI n)])), (eb, .inl (E.2.1, 1920, .inl f)), (es, .inl (E.2.2.1, 24, .inl sz))] H := hP
  have hD : va_D A [(e0, .inr (1, [.ref eb, .ref es, .int (nI n)])), (eb, .inl (E.2.1, 1920, .inl f)), (es, .inl (E.2.2.1, 24, .inl sz))] := hD
  refine tope (z := b2 true) (congrArg b2 ((hasB_nI (by omega) (by omega)).trans (decide_eq_true (by omega)))) ?_
  refine zb_eq C true rfl d_El_holds_5 rfl (fun hc3 => absurd hc3 (by simp_all)) (fun hc3 => ?_)
  refine lv_aload_n hx hb d_El_holds_8 rfl (lv_at hl 0 rfl) ?_
  refine n_get C fg_El_13 hP 0 rfl rfl d_El_holds_9 ?_
  refine lv_iload_n hx hb d_El_holds_12 rfl (lv_at hl 1 rfl) ?_
  refine n_iald C hP 2 rfl j rfl (by omega) (by omega) d_El_holds_13 ?_
  refine tope (z := nI x.length) (hz) ?_
  refine lv_iload hx hb d_El_holds_14 (lv_at hl 4 rfl) ?_
  refine j_eq C x.length y.length rfl rfl (by omega) (by omega) d_El_holds_16 rfl (fun hc4 => ?_) (fun hc4 => ?_)
  · refine lv_aload_n hx hb d_El_holds_21 rfl (lv_at hl 0 rfl) ?_
    refine lv_iload_n hx hb d_El_holds_22 rfl (lv_at hl 1 rfl) ?_
    refine cal_I (As := [.int (nI j)]) (rest := []) C lk_El_21 (c_El_place l E e0 j) (by decide) hP hD hS 0 1 rfl rfl [] rfl (by decide) hl.1 rfl (Nat.le_of_ble_eq_true rfl) d_El_holds_23 (fun r5 w1 H locs hp6 hP hD hS => ?_)
    obtain ⟨rfl, rfl⟩ := hp6
    have hP : va_P E.1 clz [(e0, .inr (1, [.ref eb, .ref es, .int (nI n)])), (eb, .inl (E.2.1, 1920, .inl f)), (es, .inl (E.2.2.1, 24, .inl sz))] H := hP
    have hD : va_D A [(e0, .inr (1, [.ref eb, .ref es, .int (nI n)])), (eb, .inl (E.2.1, 1920, .inl f)), (es, .inl (E.2.2.1, 24, .inl sz))] := hD
    refine lv_istore (lv' := [(5, .int (nI (j * 80))), (0, .ref e0), (1, .int (nI j)), (2, .ref eb), (3, .int (nI o)), (4, .int (nI y.length))]) hx hb d_El_holds_26 hl (by decide) rfl (fun ls hl => ?_)
    refine lv_iconst (v := nI 0) hx hb d_El_holds_28 (by decide) ?_
    refine lv_istore (lv' := [(6, .int (nI 0)), (5, .int (nI (j * 80))), (0, .ref e0), (1, .int (nI j)), (2, .ref eb), (3, .int (nI o)), (4, .int (nI y.length))]) hx hb d_El_holds_29 hl (by decide) rfl (fun ls hl => ?_)
    have hloop31 : ∀ (dd : Nat) (i : Nat) (H : Heap) (locs : List Loc) (ls : Array Slot), y.length - i < dd → (i ≤ y.length) → (∀ q, q < i → x.getD q 0 = y.getD q 0) → va_P E.1 clz [(e0, .inr (1, [.ref eb, .ref es, .int (nI n)])), (eb, .inl (E.2.1, 1920, .inl f)), (es, .inl (E.2.2.1, 24, .inl sz))] H → va_D A [(e0, .inr (1, [.ref eb, .ref es, .int (nI n)])), (eb, .inl (E.2.1, 1920, .inl f)), (es, .inl (E.2.2.1, 24, .inl sz))] → va_S A s.heap H locs → lv_has ls 7 [(6, .int (nI i)), (5, .int (nI (j * 80))), (4, .int (nI y.length)), (3, .int (nI o)), (2, .ref eb), (1, .int (nI j)), (0, .ref e0)] → W p l e (rmd 1) s m args below meth c H locs 0 0 Q (F0 m 31 ls []) := by
      intro dd
      induction dd with
      | zero => intro i H locs ls hmz; exact absurd hmz (Nat.not_lt_zero _)
      | succ dd ih31 =>
        intro i H locs ls hmz hi hi2 hP hD hS hl
        refine lv_iload hx hb d_El_holds_31 (lv_at hl 0 rfl) ?_
        refine lv_iload hx hb d_El_holds_33 (lv_at hl 2 rfl) ?_
        refine j_ge C i y.length rfl rfl (by omega) (by omega) d_El_holds_35 rfl (fun hc7 => ?_) (fun hc7 => ?_)
        · refine lv_iconst (v := nI 1) hx hb d_El_holds_65 (by decide) ?_
          exact kret (nI 1) [(e0, .inr (1, [.ref eb, .ref es, .int (nI n)])), (eb, .inl (E.2.1, 1920, .inl f)), (es, .inl (E.2.2.1, 24, .inl sz))] _ _ _ _ d_El_holds_66 (⟨b2_t (decide_eq_true (list_eq_of (by omega) (fun q hq => hi2 q (by omega)))), rfl⟩) rfl hP hS
        · refine lv_aload_n hx hb d_El_holds_38 rfl (lv_at hl 6 rfl) ?_
          refine n_get C fg_El_9 hP 0 rfl rfl d_El_holds_39 ?_
          refine lv_iload hx hb d_El_holds_42 (lv_at hl 1 rfl) ?_
          refine lv_iload hx hb d_El_holds_44 (lv_at hl 0 rfl) ?_
          refine lv_iadd hx hb d_El_holds_46 ?_
          refine tope (z := nI ((j * 80) + i)) (nI_add _ _) ?_
          refine n_bald C hP 1 rfl ((j * 80) + i) rfl (by omega) (by omega) d_El_holds_47 ?_
          refine lv_aload_n hx hb d_El_holds_48 rfl (lv_at hl 4 rfl) ?_
          refine lv_iload_n hx hb d_El_holds_49 rfl (lv_at hl 3 rfl) ?_
          refine lv_iload hx hb d_El_holds_50 (lv_at hl 0 rfl) ?_
          refine lv_iadd hx hb d_El_holds_52 ?_
          refine tope (z := nI (o + i)) (nI_add _ _) ?_
          refine n_bald C hP 1 rfl (o + i) rfl (by omega) (by omega) d_El_holds_53 ?_
          refine lv_icmp_eq hx hb d_El_holds_54 rfl (fun hc8 => ?_) (fun hc8 => ?_)
          · refine lv_iinc (k := 0) (v := nI (i + 1)) (lv' := [(6, .int (nI (i + 1))), (5, .int (nI (j * 80))), (4, .int (nI y.length)), (3, .int (nI o)), (2, .ref eb), (1, .int (nI j)), (0, .ref e0)]) hx hb d_El_holds_59 hl rfl (iincK i 1) (by decide) rfl (fun ls hl => ?_)
            refine lv_goto hx hb d_El_holds_62 rfl ?_
            exact ih31 (i + 1) H locs ls (by omega) (by omega) (fun q hq => by rcases Nat.lt_or_ge q i with h9 | h9; exact hi2 q h9; obtain rfl : q = i := (by omega); rw [← hla q (by omega), ← hlb q (by omega)]; assumption) hP hD hS (lv_sub hl [0, 1, 2, 3, 4, 5, 6] rfl)
          · refine lv_iconst (v := nI 0) hx hb d_El_holds_57 (by decide) ?_
            exact kret (nI 0) [(e0, .inr (1, [.ref eb, .ref es, .int (nI n)])), (eb, .inl (E.2.1, 1920, .inl f)), (es, .inl (E.2.2.1, 24, .inl sz))] _ _ _ _ d_El_holds_58 (⟨b2_f (decide_eq_false (fun h9 => by have h8 := hla i (by omega); have h7 := hlb i (by omega); rw [h9] at h8; exact absurd (h8.trans h7.symm) (by assumption))), rfl⟩) rfl hP hS
    exact hloop31 (y.length + 1) 0 H locs ls (by omega) (by omega) (fun q hq => absurd hq (Nat.not_lt_zero q)) hP hD hS (lv_sub hl [0, 1, 6, 5, 4, 3, 2] rfl)
  · refine lv_iconst (v := nI 0) hx hb d_El_holds_19 (by decide) ?_
    exact kret (nI 0) [(e0, .inr (1, [.ref eb, .ref es, .int (nI n)])), (eb, .inl (E.2.1, 1920, .inl f)), (es, .inl (E.2.2.1, 24, .inl sz))] _ _ _ _ d_El_holds_20 (⟨b2_f (decide_eq_false (fun h9 => by have h8 := congrArg List.length h9; omega)), rfl⟩) rfl hP hS
