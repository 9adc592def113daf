set_option maxHeartbeats 4000000 in
set_option maxRecDepth 100000 in
theorem c_Mod_isTrue (l : Launch) (E : En) (y0 ya yo ym yl yg yw yh yc yd yb yk yz yr nt no nd : Nat) (fl : Bool) (f sz : Nat → Int32) (j : Nat) (x : Byl) (hj : j < 24) (hz : sz j = nI x.length) (hx80 : x.length ≤ 80) (hla : lay f (j * 80) x) : CtI l y_Mod_isTrue b_Mod_isTrue 3 .boolean (rmd 0) E [.ref y0, .int (nI j)] [(y0, .inr (7, [.ref ya, .int (nI nt), .ref yo, .int (nI no), .ref ym, .ref yl, .ref yg, .ref yw, .ref yh, .ref yc, .ref yd, .ref yb, .ref yk, .ref yz, .int (nI nd), .int (b2 fl), .ref yr])), (yk, .inl (E.2.1, 1920, .inl f)), (yz, .inl (E.2.2.1, 24, .inl sz))] (fun r w => r = b2 (isT x) ∧ w = [(y0, .inr (7, [.ref ya, .int (nI nt), .ref yo, .int (nI no), .ref ym, .ref yl, .ref yg, .ref yw, .ref yh, .ref yc, .ref yd, .ref yb, .ref yk, .ref yz, .int (nI nd), .int (b2 fl), .ref yr])), (yk, .inl (E.2.1, 1920, .inl f)), (yz, .inl (E.2.2.1, 24, .inl sz))]) := by
  refine CtI.of (by decide) (Nat.le_of_ble_eq_true rfl) (fun r w h => by obtain ⟨rfl, _⟩ := h; exact b2_nar _) ?_
  intro p e s m args below meth c A Q H locs ls C hP hD hS hl kret
  have hx := C.1
  have hb := C.2.1
  have hl : lv_has ls 3 [(0, .ref y0), (1, .int (nI j))] := hl
  refine lv_iconst (v := nI 0) hx hb d_Mod_isTrue_0 (by decide) ?_
  refine lv_istore_n (lv' := [(2, .int (nI 0)), (0, .ref y0), (1, .int (nI j))]) hx hb d_Mod_isTrue_1 rfl hl (by decide) rfl (fun ls hl => ?_)
  have hloop2 : ∀ (dd : Nat) (i : Nat) (H : Heap) (locs : List Loc) (ls : Array Slot), x.length - i < dd → (i ≤ x.length) → (∀ q, q < i → x.getD q 0 = 0) → va_P E.1 clz [(y0, .inr (7, [.ref ya, .int (nI nt), .ref yo, .int (nI no), .ref ym, .ref yl, .ref yg, .ref yw, .ref yh, .ref yc, .ref yd, .ref yb, .ref yk, .ref yz, .int (nI nd), .int (b2 fl), .ref yr])), (yk, .inl (E.2.1, 1920, .inl f)), (yz, .inl (E.2.2.1, 24, .inl sz))] H → va_D A [(y0, .inr (7, [.ref ya, .int (nI nt), .ref yo, .int (nI no), .ref ym, .ref yl, .ref yg, .ref yw, .ref yh, .ref yc, .ref yd, .ref yb, .ref yk, .ref yz, .int (nI nd), .int (b2 fl), .ref yr])), (yk, .inl (E.2.1, 1920, .inl f)), (yz, .inl (E.2.2.1, 24, .inl sz))] → va_S A s.heap H locs → lv_has ls 3 [(2, .int (nI i)), (1, .int (nI j)), (0, .ref y0)] → W p l e (rmd 0) s m args below meth c H locs 0 0 Q (F0 m 2 ls []) := by
    intro dd
    induction dd with
    | zero => intro i H locs ls hmz; exact absurd hmz (Nat.not_lt_zero _)
    | succ dd ih2 =>
      intro i H locs ls hmz hi hi2 hP hD hS hl
      refine lv_iload_n hx hb d_Mod_isTrue_2 rfl (lv_at hl 0 rfl) ?_
      refine lv_aload_n hx hb d_Mod_isTrue_3 rfl (lv_at hl 2 rfl) ?_
      refine n_get C fg_Mod_44 hP 0 rfl rfl d_Mod_isTrue_4 ?_
      refine lv_iload_n hx hb d_Mod_isTrue_7 rfl (lv_at hl 1 rfl) ?_
      refine n_iald C hP 2 rfl j rfl (by omega) (by omega) d_Mod_isTrue_8 ?_
      refine tope (z := nI x.length) (hz) ?_
      refine j_ge C i x.length rfl rfl (by omega) (by omega) d_Mod_isTrue_9 rfl (fun hc1 => ?_) (fun hc1 => ?_)
      · refine lv_iconst (v := nI 0) hx hb d_Mod_isTrue_34 (by decide) ?_
        exact kret (nI 0) [(y0, .inr (7, [.ref ya, .int (nI nt), .ref yo, .int (nI no), .ref ym, .ref yl, .ref yg, .ref yw, .ref yh, .ref yc, .ref yd, .ref yb, .ref yk, .ref yz, .int (nI nd), .int (b2 fl), .ref yr])), (yk, .inl (E.2.1, 1920, .inl f)), (yz, .inl (E.2.2.1, 24, .inl sz))] _ _ _ _ d_Mod_isTrue_35 (⟨b2_f (isT_f (fun q hq => hi2 q (by omega))), rfl⟩) rfl hP hS
      · refine lv_aload_n hx hb d_Mod_isTrue_12 rfl (lv_at hl 2 rfl) ?_
        refine n_get C fg_Mod_41 hP 0 rfl rfl d_Mod_isTrue_13 ?_
        refine lv_bipush (v := nI 80) hx hb d_Mod_isTrue_16 (by decide) ?_
        refine lv_iload_n hx hb d_Mod_isTrue_18 rfl (lv_at hl 1 rfl) ?_
        refine lv_imul hx hb d_Mod_isTrue_19 ?_
        refine tope (z := nI (j * 80)) ((pk_mul _ _).trans (congrArg nI (Nat.mul_comm _ _))) ?_
        refine lv_iload_n hx hb d_Mod_isTrue_20 rfl (lv_at hl 0 rfl) ?_
        refine lv_iadd hx hb d_Mod_isTrue_21 ?_
        refine tope (z := nI ((j * 80) + i)) (nI_add _ _) ?_
        refine n_bald C hP 1 rfl ((j * 80) + i) rfl (by omega) (by omega) d_Mod_isTrue_22 ?_
        refine lv_if_eq hx hb d_Mod_isTrue_23 rfl (fun hc2 => ?_) (fun hc2 => ?_)
        · refine lv_iinc (k := 0) (v := nI (i + 1)) (lv' := [(2, .int (nI (i + 1))), (1, .int (nI j)), (0, .ref y0)]) hx hb d_Mod_isTrue_28 hl rfl (iincK i 1) (by decide) rfl (fun ls hl => ?_)
          refine lv_goto hx hb d_Mod_isTrue_31 rfl ?_
          exact ih2 (i + 1) H locs ls (by omega) (by omega) (fun q hq => by rcases Nat.lt_or_ge q i with h9 | h9; exact hi2 q h9; obtain rfl : q = i := (by omega); rw [← hla q (by omega)]; assumption) hP hD hS (lv_sub hl [0, 1, 2] rfl)
        · refine lv_iconst (v := nI 1) hx hb d_Mod_isTrue_26 (by decide) ?_
          exact kret (nI 1) [(y0, .inr (7, [.ref ya, .int (nI nt), .ref yo, .int (nI no), .ref ym, .ref yl, .ref yg, .ref yw, .ref yh, .ref yc, .ref yd, .ref yb, .ref yk, .ref yz, .int (nI nd), .int (b2 fl), .ref yr])), (yk, .inl (E.2.1, 1920, .inl f)), (yz, .inl (E.2.2.1, 24, .inl sz))] _ _ _ _ d_Mod_isTrue_27 (⟨b2_t (isT_t (q := i) (by omega) (by rw [← hla i (by omega)]; assumption)), rfl⟩) rfl hP hS
  exact hloop2 (x.length + 1) 0 H locs ls (by omega) (by omega) (fun q hq => absurd hq (Nat.not_lt_zero q)) hP hD hS (lv_sub hl [0, 2, 1] rfl)

set_option maxHeartbeats 4000000 in
set_option maxRecDepth 100000 in
theorem c_Mod_numberOf (l : Launch) (E : En) (y0 ya yo ym yl yg yw yh yc yd yb yk yz yr nt no nd : Nat) (fl : Bool) (f sz : Nat → Int32) (j : Nat) (x : Byl) (hj : j < 24) (hz : sz j = nI x.length) (hx80 : x.length ≤ 80) (hla : lay f (j * 80) x) (hB : fB f) : CtI l y_Mod_numberOf b_Mod_numberOf 4 .int (rmd 0) E [.ref y0, .int (nI j)] [(y0, .inr (7, [.ref ya, .int (nI nt), .ref yo, .int (nI no), .ref ym, .ref yl, .ref yg, .ref yw, .ref yh, .ref yc, .ref yd, .ref yb, .ref yk, .ref yz, .int (nI nd), .int (b2 fl), .ref yr])), (yk, .inl (E.2.1, 1920, .inl f)), (yz, .inl (E.2.2.1, 24, .inl sz))] (fun r w => r = numL x ∧ w = [(y0, .inr (7, [.ref ya, .int (nI nt), .ref yo, .int (nI no), .ref ym, .ref yl, .ref yg, .ref yw, .ref yh, .ref yc, .ref yd, .ref yb, .ref yk, .ref yz, .int (nI nd), .int (b2 fl), .ref yr])), (yk, .inl (E.2.1, 1920, .inl f)), (yz, .inl (E.2.2.1, 24, .inl sz))]) := by
  refine CtI.of (by decide) (Nat.le_of_ble_eq_true rfl) (fun _ _ _ => rfl) ?_
  intro p e s m args below meth c A Q H locs ls C hP hD hS hl kret
  have hx := C.1
  have hb := C.2.1
  have hl : lv_has ls 4 [(0, .ref y0), (1, .int (nI j))] := hl
  rcases Nat.eq_zero_or_pos x.length with hx0 | hx0
  · refine lv_aload_n hx hb d_Mod_numberOf_0 rfl (lv_at hl 0 rfl) ?_
    refine n_get C fg_Mod_44 hP 0 rfl rfl d_Mod_numberOf_1 ?_
    refine lv_iload_n hx hb d_Mod_numberOf_4 rfl (lv_at hl 1 rfl) ?_
    refine n_iald C hP 2 rfl j rfl (by omega) (by omega) d_Mod_numberOf_5 ?_
    refine tope (z := nI x.length) (hz) ?_
    refine lv_if_le hx hb d_Mod_numberOf_6 rfl (fun hc1 => ?_) (fun hc1 => ?_)
    · refine lv_iconst (v := nI 0) hx hb d_Mod_numberOf_25 (by decide) ?_
      refine tope (z := numM x 0) (by rw [List.length_eq_zero_iff.mp hx0]; rfl) ?_
      refine lv_istore_n (lv' := [(2, .int (numM x 0)), (0, .ref y0), (1, .int (nI j))]) hx hb d_Mod_numberOf_26 rfl hl (by decide) rfl (fun ls hl => ?_)
      refine lv_iconst (v := nI 0) hx hb d_Mod_numberOf_27 (by decide) ?_
      refine lv_istore_n (lv' := [(3, .int (nI 0)), (2, .int (numM x 0)), (0, .ref y0), (1, .int (nI j))]) hx hb d_Mod_numberOf_28 rfl hl (by decide) rfl (fun ls hl => ?_)
      have hloop29 : ∀ (dd : Nat) (i : Nat) (H : Heap) (locs : List Loc) (ls : Array Slot), x.length - i < dd → (i ≤ x.length) → va_P E.1 clz [(y0, .inr (7, [.ref ya, .int (nI nt), .ref yo, .int (nI no), .ref ym, .ref yl, .ref yg, .ref yw, .ref yh, .ref yc, .ref yd, .ref yb, .ref yk, .ref yz, .int (nI nd), .int (b2 fl), .ref yr])), (yk, .inl (E.2.1, 1920, .inl f)), (yz, .inl (E.2.2.1, 24, .inl sz))] H → va_D A [(y0, .inr (7, [.ref ya, .int (nI nt), .ref yo, .int (nI no), .ref ym, .ref yl, .ref yg, .ref yw, .ref yh, .ref yc, .ref yd, .ref yb, .ref yk, .ref yz, .int (nI nd), .int (b2 fl), .ref yr])), (yk, .inl (E.2.1, 1920, .inl f)), (yz, .inl (E.2.2.1, 24, .inl sz))] → va_S A s.heap H locs → lv_has ls 4 [(3, .int (nI i)), (2, .int (numM x i)), (1, .int (nI j)), (0, .ref y0)] → W p l e (rmd 0) s m args below meth c H locs 0 0 Q (F0 m 29 ls []) := by
        intro dd
        induction dd with
        | zero => intro i H locs ls hmz; exact absurd hmz (Nat.not_lt_zero _)
        | succ dd ih29 =>
          intro i H locs ls hmz hi hP hD hS hl
          refine lv_iload_n hx hb d_Mod_numberOf_29 rfl (lv_at hl 0 rfl) ?_
          refine lv_aload_n hx hb d_Mod_numberOf_30 rfl (lv_at hl 3 rfl) ?_
          refine n_get C fg_Mod_44 hP 0 rfl rfl d_Mod_numberOf_31 ?_
          refine lv_iload_n hx hb d_Mod_numberOf_34 rfl (lv_at hl 2 rfl) ?_
          refine n_iald C hP 2 rfl j rfl (by omega) (by omega) d_Mod_numberOf_35 ?_
          refine tope (z := nI x.length) (hz) ?_
          refine j_ge C i x.length rfl rfl (by omega) (by omega) d_Mod_numberOf_36 rfl (fun hc2 => ?_) (fun hc2 => ?_)
          · refine lv_iload_n hx hb d_Mod_numberOf_66 rfl (lv_at hl 1 rfl) ?_
            exact kret (numM x i) [(y0, .inr (7, [.ref ya, .int (nI nt), .ref yo, .int (nI no), .ref ym, .ref yl, .ref yg, .ref yw, .ref yh, .ref yc, .ref yd, .ref yb, .ref yk, .ref yz, .int (nI nd), .int (b2 fl), .ref yr])), (yk, .inl (E.2.1, 1920, .inl f)), (yz, .inl (E.2.2.1, 24, .inl sz))] _ _ _ _ d_Mod_numberOf_67 (⟨by rw [show i = x.length by omega]; exact numM_e (lay_isB hla hB), rfl⟩) rfl hP hS
          · refine lv_iload_n hx hb d_Mod_numberOf_39 rfl (lv_at hl 1 rfl) ?_
            refine lv_bipush (v := nI 8) hx hb d_Mod_numberOf_40 (by decide) ?_
            refine lv_ishl hx hb d_Mod_numberOf_42 ?_
            refine lv_aload_n hx hb d_Mod_numberOf_43 rfl (lv_at hl 3 rfl) ?_
            refine n_get C fg_Mod_41 hP 0 rfl rfl d_Mod_numberOf_44 ?_
            refine lv_bipush (v := nI 80) hx hb d_Mod_numberOf_47 (by decide) ?_
            refine lv_iload_n hx hb d_Mod_numberOf_49 rfl (lv_at hl 2 rfl) ?_
            refine lv_imul hx hb d_Mod_numberOf_50 ?_
            refine tope (z := nI (j * 80)) ((pk_mul _ _).trans (congrArg nI (Nat.mul_comm _ _))) ?_
            refine lv_iload_n hx hb d_Mod_numberOf_51 rfl (lv_at hl 0 rfl) ?_
            refine lv_iadd hx hb d_Mod_numberOf_52 ?_
            refine tope (z := nI ((j * 80) + i)) (nI_add _ _) ?_
            refine n_bald C hP 1 rfl ((j * 80) + i) rfl (by omega) (by omega) d_Mod_numberOf_53 ?_
            refine lv_sipush (v := nI 255) hx hb d_Mod_numberOf_54 (by decide) ?_
            refine lv_iand hx hb d_Mod_numberOf_57 ?_
            refine lv_ior hx hb d_Mod_numberOf_58 ?_
            refine tope (z := numM x (i + 1)) (by rw [numM_s x i (by omega), ← hla i (by omega)]; rfl) ?_
            refine lv_istore_n (lv' := [(2, .int (numM x (i + 1))), (3, .int (nI i)), (1, .int (nI j)), (0, .ref y0)]) hx hb d_Mod_numberOf_59 rfl hl (by decide) rfl (fun ls hl => ?_)
            refine lv_iinc (k := 1) (v := nI (i + 1)) (lv' := [(3, .int (nI (i + 1))), (2, .int (numM x (i + 1))), (1, .int (nI j)), (0, .ref y0)]) hx hb d_Mod_numberOf_60 hl rfl (iincK i 1) (by decide) rfl (fun ls hl => ?_)
            refine lv_goto hx hb d_Mod_numberOf_63 rfl ?_
            exact ih29 (i + 1) H locs ls (by omega) (by omega) hP hD hS (lv_sub hl [0, 1, 2, 3] rfl)
      exact hloop29 (x.length + 1) 0 H locs ls (by omega) (by omega) hP hD hS (lv_sub hl [0, 1, 3, 2] rfl)
    · exact absurd (show nI x.length ≤ 0 by rw [hx0]; decide) hc1
  · refine lv_aload_n hx hb d_Mod_numberOf_0 rfl (lv_at hl 0 rfl) ?_
    refine n_get C fg_Mod_44 hP 0 rfl rfl d_Mod_numberOf_1 ?_
    refine lv_iload_n hx hb d_Mod_numberOf_4 rfl (lv_at hl 1 rfl) ?_
    refine n_iald C hP 2 rfl j rfl (by omega) (by omega) d_Mod_numberOf_5 ?_
    refine tope (z := nI x.length) (hz) ?_
    refine lv_if_le hx hb d_Mod_numberOf_6 rfl (fun hc3 => ?_) (fun hc3 => ?_)
    · exact absurd hc3 (nI_nle hx0 (by omega))
    · refine lv_aload_n hx hb d_Mod_numberOf_9 rfl (lv_at hl 0 rfl) ?_
      refine n_get C fg_Mod_41 hP 0 rfl rfl d_Mod_numberOf_10 ?_
      refine lv_bipush (v := nI 80) hx hb d_Mod_numberOf_13 (by decide) ?_
      refine lv_iload_n hx hb d_Mod_numberOf_15 rfl (lv_at hl 1 rfl) ?_
      refine lv_imul hx hb d_Mod_numberOf_16 ?_
      refine tope (z := nI (j * 80)) ((pk_mul _ _).trans (congrArg nI (Nat.mul_comm _ _))) ?_
      refine n_bald C hP 1 rfl (j * 80) rfl (by omega) (by omega) d_Mod_numberOf_17 ?_
      refine tope (z := x.getD 0 0) (hla 0 hx0) ?_
      refine lv_if_ge hx hb d_Mod_numberOf_18 rfl (fun hc4 => ?_) (fun hc4 => ?_)
      · refine lv_iconst (v := nI 0) hx hb d_Mod_numberOf_25 (by decide) ?_
        refine tope (z := numM x 0) (by cases x with | nil => (simp at hx0) | cons b9 r9 => exact (if_neg (Int32.not_lt.mpr hc4)).symm) ?_
        refine lv_istore_n (lv' := [(2, .int (numM x 0)), (0, .ref y0), (1, .int (nI j))]) hx hb d_Mod_numberOf_26 rfl hl (by decide) rfl (fun ls hl => ?_)
        refine lv_iconst (v := nI 0) hx hb d_Mod_numberOf_27 (by decide) ?_
        refine lv_istore_n (lv' := [(3, .int (nI 0)), (2, .int (numM x 0)), (0, .ref y0), (1, .int (nI j))]) hx hb d_Mod_numberOf_28 rfl hl (by decide) rfl (fun ls hl => ?_)
        have hloop29 : ∀ (dd : Nat) (i : Nat) (H : Heap) (locs : List Loc) (ls : Array Slot), x.length - i < dd → (i ≤ x.length) → va_P E.1 clz [(y0, .inr (7, [.ref ya, .int (nI nt), .ref yo, .int (nI no), .ref ym, .ref yl, .ref yg, .ref yw, .ref yh, .ref yc, .ref yd, .ref yb, .ref yk, .ref yz, .int (nI nd), .int (b2 fl), .ref yr])), (yk, .inl (E.2.1, 1920, .inl f)), (yz, .inl (E.2.2.1, 24, .inl sz))] H → va_D A [(y0, .inr (7, [.ref ya, .int (nI nt), .ref yo, .int (nI no), .ref ym, .ref yl, .ref yg, .ref yw, .ref yh, .ref yc, .ref yd, .ref yb, .ref yk, .ref yz, .int (nI nd), .int (b2 fl), .ref yr])), (yk, .inl (E.2.1, 1920, .inl f)), (yz, .inl (E.2.2.1, 24, .inl sz))] → va_S A s.heap H locs → lv_has ls 4 [(3, .int (nI i)), (2, .int (numM x i)), (1, .int (nI j)), (0, .ref y0)] → W p l e (rmd 0) s m args below meth c H locs 0 0 Q (F0 m 29 ls []) := by
          intro dd
          induction dd with
          | zero => intro i H locs ls hmz; exact absurd hmz (Nat.not_lt_zero _)
          | succ dd ih29 =>
            intro i H locs ls hmz hi hP hD hS hl
            refine lv_iload_n hx hb d_Mod_numberOf_29 rfl (lv_at hl 0 rfl) ?_
            refine lv_aload_n hx hb d_Mod_numberOf_30 rfl (lv_at hl 3 rfl) ?_
            refine n_get C fg_Mod_44 hP 0 rfl rfl d_Mod_numberOf_31 ?_
            refine lv_iload_n hx hb d_Mod_numberOf_34 rfl (lv_at hl 2 rfl) ?_
            refine n_iald C hP 2 rfl j rfl (by omega) (by omega) d_Mod_numberOf_35 ?_
            refine tope (z := nI x.length) (hz) ?_
            refine j_ge C i x.length rfl rfl (by omega) (by omega) d_Mod_numberOf_36 rfl (fun hc5 => ?_) (fun hc5 => ?_)
            · refine lv_iload_n hx hb d_Mod_numberOf_66 rfl (lv_at hl 1 rfl) ?_
              exact kret (numM x i) [(y0, .inr (7, [.ref ya, .int (nI nt), .ref yo, .int (nI no), .ref ym, .ref yl, .ref yg, .ref yw, .ref yh, .ref yc, .ref yd, .ref yb, .ref yk, .ref yz, .int (nI nd), .int (b2 fl), .ref yr])), (yk, .inl (E.2.1, 1920, .inl f)), (yz, .inl (E.2.2.1, 24, .inl sz))] _ _ _ _ d_Mod_numberOf_67 (⟨by rw [show i = x.length by omega]; exact numM_e (lay_isB hla hB), rfl⟩) rfl hP hS
            · refine lv_iload_n hx hb d_Mod_numberOf_39 rfl (lv_at hl 1 rfl) ?_
              refine lv_bipush (v := nI 8) hx hb d_Mod_numberOf_40 (by decide) ?_
              refine lv_ishl hx hb d_Mod_numberOf_42 ?_
              refine lv_aload_n hx hb d_Mod_numberOf_43 rfl (lv_at hl 3 rfl) ?_
              refine n_get C fg_Mod_41 hP 0 rfl rfl d_Mod_numberOf_44 ?_
              refine lv_bipush (v := nI 80) hx hb d_Mod_numberOf_47 (by decide) ?_
              refine lv_iload_n hx hb d_Mod_numberOf_49 rfl (lv_at hl 2 rfl) ?_
              refine lv_imul hx hb d_Mod_numberOf_50 ?_
              refine tope (z := nI (j * 80)) ((pk_mul _ _).trans (congrArg nI (Nat.mul_comm _ _))) ?_
              refine lv_iload_n hx hb d_Mod_numberOf_51 rfl (lv_at hl 0 rfl) ?_
              refine lv_iadd hx hb d_Mod_numberOf_52 ?_
              refine tope (z := nI ((j * 80) + i)) (nI_add _ _) ?_
              refine n_bald C hP 1 rfl ((j * 80) + i) rfl (by omega) (by omega) d_Mod_numberOf_53 ?_
              refine lv_sipush (v := nI 255) hx hb d_Mod_numberOf_54 (by decide) ?_
              refine lv_iand hx hb d_Mod_numberOf_57 ?_
              refine lv_ior hx hb d_Mod_numberOf_58 ?_
              refine tope (z := numM x (i + 1)) (by rw [numM_s x i (by omega), ← hla i (by omega)]; rfl) ?_
              refine lv_istore_n (lv' := [(2, .int (numM x (i + 1))), (3, .int (nI i)), (1, .int (nI j)), (0, .ref y0)]) hx hb d_Mod_numberOf_59 rfl hl (by decide) rfl (fun ls hl => ?_)
              refine lv_iinc (k := 1) (v := nI (i + 1)) (lv' := [(3, .int (nI (i + 1))), (2, .int (numM x (i + 1))), (1, .int (nI j)), (0, .ref y0)]) hx hb d_Mod_numberOf_60 hl rfl (iincK i 1) (by decide) rfl (fun ls hl => ?_)
              refine lv_goto hx hb d_Mod_numberOf_63 rfl ?_
              exact ih29 (i + 1) H locs ls (by omega) (by omega) hP hD hS (lv_sub hl [0, 1, 2, 3] rfl)
        exact hloop29 (x.length + 1) 0 H locs ls (by omega) (by omega) hP hD hS (lv_sub hl [0, 1, 3, 2] rfl)
      · refine lv_iconst (v := (-1)) hx hb d_Mod_numberOf_21 (by decide) ?_
        refine lv_goto hx hb d_Mod_numberOf_22 rfl ?_
        refine tope (z := numM x 0) (by cases x with | nil => (simp at hx0) | cons b9 r9 => exact (if_pos (Int32.not_le.mp hc4)).symm) ?_
        refine lv_istore_n (lv' := [(2, .int (numM x 0)), (0, .ref y0), (1, .int (nI j))]) hx hb d_Mod_numberOf_26 rfl hl (by decide) rfl (fun ls hl => ?_)
        refine lv_iconst (v := nI 0) hx hb d_Mod_numberOf_27 (by decide) ?_
        refine lv_istore_n (lv' := [(3, .int (nI 0)), (2, .int (numM x 0)), (0, .ref y0), (1, .int (nI j))]) hx hb d_Mod_numberOf_28 rfl hl (by decide) rfl (fun ls hl => ?_)
        have hloop29 : ∀ (dd : Nat) (i : Nat) (H : Heap) (locs : List Loc) (ls : Array Slot), x.length - i < dd → (i ≤ x.length) → va_P E.1 clz [(y0, .inr (7, [.ref ya, .int (nI nt), .ref yo, .int (nI no), .ref ym, .ref yl, .ref yg, .ref yw, .ref yh, .ref yc, .ref yd, .ref yb, .ref yk, .ref yz, .int (nI nd), .int (b2 fl), .ref yr])), (yk, .inl (E.2.1, 1920, .inl f)), (yz, .inl (E.2.2.1, 24, .inl sz))] H → va_D A [(y0, .inr (7, [.ref ya, .int (nI nt), .ref yo, .int (nI no), .ref ym, .ref yl, .ref yg, .ref yw, .ref yh, .ref yc, .ref yd, .ref yb, .ref yk, .ref yz, .int (nI nd), .int (b2 fl), .ref yr])), (yk, .inl (E.2.1, 1920, .inl f)), (yz, .inl (E.2.2.1, 24, .inl sz))] → va_S A s.heap H locs → lv_has ls 4 [(3, .int (nI i)), (2, .int (numM x i)), (1, .int (nI j)), (0, .ref y0)] → W p l e (rmd 0) s m args below meth c H locs 0 0 Q (F0 m 29 ls []) := by
          intro dd
          induction dd with
          | zero => intro i H locs ls hmz; exact absurd hmz (Nat.not_lt_zero _)
          | succ dd ih29 =>
            intro i H locs ls hmz hi hP hD hS hl
            refine lv_iload_n hx hb d_Mod_numberOf_29 rfl (lv_at hl 0 rfl) ?_
            refine lv_aload_n hx hb d_Mod_numberOf_30 rfl (lv_at hl 3 rfl) ?_
            refine n_get C fg_Mod_44 hP 0 rfl rfl d_Mod_numberOf_31 ?_
            refine lv_iload_n hx hb d_Mod_numberOf_34 rfl (lv_at hl 2 rfl) ?_
            refine n_iald C hP 2 rfl j rfl (by omega) (by omega) d_Mod_numberOf_35 ?_
            refine tope (z := nI x.length) (hz) ?_
            refine j_ge C i x.length rfl rfl (by omega) (by omega) d_Mod_numberOf_36 rfl (fun hc6 => ?_) (fun hc6 => ?_)
            · refine lv_iload_n hx hb d_Mod_numberOf_66 rfl (lv_at hl 1 rfl) ?_
              exact kret (numM x i) [(y0, .inr (7, [.ref ya, .int (nI nt), .ref yo, .int (nI no), .ref ym, .ref yl, .ref yg, .ref yw, .ref yh, .ref yc, .ref yd, .ref yb, .ref yk, .ref yz, .int (nI nd), .int (b2 fl), .ref yr])), (yk, .inl (E.2.1, 1920, .inl f)), (yz, .inl (E.2.2.1, 24, .inl sz))] _ _ _ _ d_Mod_numberOf_67 (⟨by rw [show i = x.length by omega]; exact numM_e (lay_isB hla hB), rfl⟩) rfl hP hS
            · refine lv_iload_n hx hb d_Mod_numberOf_39 rfl (lv_at hl 1 rfl) ?_
              refine lv_bipush (v := nI 8) hx hb d_Mod_numberOf_40 (by decide) ?_
              refine lv_ishl hx hb d_Mod_numberOf_42 ?_
              refine lv_aload_n hx hb d_Mod_numberOf_43 rfl (lv_at hl 3 rfl) ?_
              refine n_get C fg_Mod_41 hP 0 rfl rfl d_Mod_numberOf_44 ?_
              refine lv_bipush (v := nI 80) hx hb d_Mod_numberOf_47 (by decide) ?_
              refine lv_iload_n hx hb d_Mod_numberOf_49 rfl (lv_at hl 2 rfl) ?_
              refine lv_imul hx hb d_Mod_numberOf_50 ?_
              refine tope (z := nI (j * 80)) ((pk_mul _ _).trans (congrArg nI (Nat.mul_comm _ _))) ?_
              refine lv_iload_n hx hb d_Mod_numberOf_51 rfl (lv_at hl 0 rfl) ?_
              refine lv_iadd hx hb d_Mod_numberOf_52 ?_
              refine tope (z := nI ((j * 80) + i)) (nI_add _ _) ?_
              refine n_bald C hP 1 rfl ((j * 80) + i) rfl (by omega) (by omega) d_Mod_numberOf_53 ?_
              refine lv_sipush (v := nI 255) hx hb d_Mod_numberOf_54 (by decide) ?_
              refine lv_iand hx hb d_Mod_numberOf_57 ?_
              refine lv_ior hx hb d_Mod_numberOf_58 ?_
              refine tope (z := numM x (i + 1)) (by rw [numM_s x i (by omega), ← hla i (by omega)]; rfl) ?_
              refine lv_istore_n (lv' := [(2, .int (numM x (i + 1))), (3, .int (nI i)), (1, .int (nI j)), (0, .ref y0)]) hx hb d_Mod_numberOf_59 rfl hl (by decide) rfl (fun ls hl => ?_)
              refine lv_iinc (k := 1) (v := nI (i + 1)) (lv' := [(3, .int (nI (i + 1))), (2, .int (numM x (i + 1))), (1, .int (nI j)), (0, .ref y0)]) hx hb d_Mod_numberOf_60 hl rfl (iincK i 1) (by decide) rfl (fun ls hl => ?_)
              refine lv_goto hx hb d_Mod_numberOf_63 rfl ?_
              exact ih29 (i + 1) H locs ls (by omega) (by omega) hP hD hS (lv_sub hl [0, 1, 2, 3] rfl)
        exact hloop29 (x.length + 1) 0 H locs ls (by omega) (by omega) hP hD hS (lv_sub hl [0, 1, 3, 2] rfl)

set_option maxHeartbeats 4000000 in
set_option maxRecDepth 100000 in
theorem c_Mod_signed (l : Launch) (E : En) (y0 ya yo ym yl yg yw yh yc yd yb yk yz yr nt no nd : Nat) (fl : Bool) (k5 k6 k7 k8 k9 kb f sz : Nat → Int32) (msg : Byl) (u : Nat) (y : Byl) (hu : u < 24) (hy : sz u = nI y.length ∧ y.length ≤ 80 ∧ lay f (u * 80) y) (j : Nat) (x : Byl) (hj : j < 24) (hz : sz j = nI x.length) (hx80 : x.length ≤ 80) (hla : lay f (j * 80) x) (hB : fB f) (hB5 : fB k5) (hm : lay k5 0 msg) (hm32 : msg.length = 32) : CtI l y_Mod_signed b_Mod_signed 4 .boolean (rmd 3) E [.ref y0, .int (nI u), .int (nI j)] [(y0, .inr (7, [.ref ya, .int (nI nt), .ref yo, .int (nI no), .ref ym, .ref yl, .ref yg, .ref yw, .ref yh, .ref yc, .ref yd, .ref yb, .ref yk, .ref yz, .int (nI nd), .int (b2 fl), .ref yr])), (yg, .inl (E.2.1, 32, .inl k5)), (yw, .inl (E.2.2.1, 64, .inl k6)), (yh, .inl (E.2.2.1, 8, .inl k7)), (yc, .inl (E.2.1, 32, .inl k8)), (yd, .inl (E.2.1, 32, .inl k9)), (yb, .inl (E.2.1, 512, .inl kb)), (yk, .inl (E.2.1, 1920, .inl f)), (yz, .inl (E.2.2.1, 24, .inl sz))] (fun r w => r = b2 (decide (y = sigL msg x)) ∧ ∃ (q6 q7 q8 q9 qb : Nat → Int32), w = [(y0, .inr (7, [.ref ya, .int (nI nt), .ref yo, .int (nI no), .ref ym, .ref yl, .ref yg, .ref yw, .ref yh, .ref yc, .ref yd, .ref yb, .ref yk, .ref yz, .int (nI nd), .int (b2 fl), .ref yr])), (yg, .inl (E.2.1, 32, .inl k5)), (yw, .inl (E.2.2.1, 64, .inl q6)), (yh, .inl (E.2.2.1, 8, .inl q7)), (yc, .inl (E.2.1, 32, .inl q8)), (yd, .inl (E.2.1, 32, .inl q9)), (yb, .inl (E.2.1, 512, .inl qb)), (yk, .inl (E.2.1, 1920, .inl f)), (yz, .inl (E.2.2.1, 24, .inl sz))]) := by
  refine CtI.of (by decide) (Nat.le_of_ble_eq_true rfl) (fun r w h => by obtain ⟨rfl, _⟩ := h; exact b2_nar _) ?_
  intro p e s m args below meth c A Q H locs ls C hP hD hS hl kret
  have hx := C.1
  have hb := C.2.1
  have hl : lv_has ls 4 [(0, .ref y0), (1, .int (nI u)), (2, .int (nI j))] := hl
  refine lv_iconst (v := nI 0) hx hb d_Mod_signed_0 (by decide) ?_
  refine lv_istore_n (lv' := [(3, .int (nI 0)), (0, .ref y0), (1, .int (nI u)), (2, .int (nI j))]) hx hb d_Mod_signed_1 rfl hl (by decide) rfl (fun ls hl => ?_)
  rw [← cpy_zero f kb (j * 80) 0] at hP hD
  have hloop2 : ∀ (dd : Nat) (i : Nat) (H : Heap) (locs : List Loc) (ls : Array Slot), x.length - i < dd → (i ≤ x.length) → va_P E.1 clz [(y0, .inr (7, [.ref ya, .int (nI nt), .ref yo, .int (nI no), .ref ym, .ref yl, .ref yg, .ref yw, .ref yh, .ref yc, .ref yd, .ref yb, .ref yk, .ref yz, .int (nI nd), .int (b2 fl), .ref yr])), (yg, .inl (E.2.1, 32, .inl k5)), (yw, .inl (E.2.2.1, 64, .inl k6)), (yh, .inl (E.2.2.1, 8, .inl k7)), (yc, .inl (E.2.1, 32, .inl k8)), (yd, .inl (E.2.1, 32, .inl k9)), (yb, .inl (E.2.1, 512, .inl (va_cpy f kb (j * 80) 0 i))), (yk, .inl (E.2.1, 1920, .inl f)), (yz, .inl (E.2.2.1, 24, .inl sz))] H → va_D A [(y0, .inr (7, [.ref ya, .int (nI nt), .ref yo, .int (nI no), .ref ym, .ref yl, .ref yg, .ref yw, .ref yh, .ref yc, .ref yd, .ref yb, .ref yk, .ref yz, .int (nI nd), .int (b2 fl), .ref yr])), (yg, .inl (E.2.1, 32, .inl k5)), (yw, .inl (E.2.2.1, 64, .inl k6)), (yh, .inl (E.2.2.1, 8, .inl k7)), (yc, .inl (E.2.1, 32, .inl k8)), (yd, .inl (E.2.1, 32, .inl k9)), (yb, .inl (E.2.1, 512, .inl (va_cpy f kb (j * 80) 0 i))), (yk, .inl (E.2.1, 1920, .inl f)), (yz, .inl (E.2.2.1, 24, .inl sz))] → va_S A s.heap H locs → lv_has ls 4 [(3, .int (nI i)), (2, .int (nI j)), (1, .int (nI u)), (0, .ref y0)] → W p l e (rmd 3) s m args below meth c H locs 0 0 Q (F0 m 2 ls []) := by
    intro dd
    induction dd with
    | zero => intro i H locs ls hmz; exact absurd hmz (Nat.not_lt_zero _)
    | succ dd ih2 =>
      intro i H locs ls hmz hi hP hD hS hl
      refine lv_iload_n hx hb d_Mod_signed_2 rfl (lv_at hl 0 rfl) ?_
      refine lv_aload_n hx hb d_Mod_signed_3 rfl (lv_at hl 3 rfl) ?_
      refine n_get C fg_Mod_44 hP 0 rfl rfl d_Mod_signed_4 ?_
      refine lv_iload_n hx hb d_Mod_signed_7 rfl (lv_at hl 1 rfl) ?_
      refine n_iald C hP 8 rfl j rfl (by omega) (by omega) d_Mod_signed_8 ?_
      refine tope (z := nI x.length) (hz) ?_
      refine j_ge C i x.length rfl rfl (by omega) (by omega) d_Mod_signed_9 rfl (fun hc1 => ?_) (fun hc1 => ?_)
      · rw [show i = x.length by omega] at hP hD hl
        refine lv_iconst (v := nI 0) hx hb d_Mod_signed_35 (by decide) ?_
        refine lv_istore_n (lv' := [(3, .int (nI 0)), (2, .int (nI j)), (1, .int (nI u)), (0, .ref y0)]) hx hb d_Mod_signed_36 rfl hl (by decide) rfl (fun ls hl => ?_)
        rw [← cpy_zero k5 (va_cpy f kb (j * 80) 0 x.length) 0 x.length] at hP hD
        have hloop37 : ∀ (dd : Nat) (i : Nat) (H : Heap) (locs : List Loc) (ls : Array Slot), 32 - i < dd → (i ≤ 32) → va_P E.1 clz [(y0, .inr (7, [.ref ya, .int (nI nt), .ref yo, .int (nI no), .ref ym, .ref yl, .ref yg, .ref yw, .ref yh, .ref yc, .ref yd, .ref yb, .ref yk, .ref yz, .int (nI nd), .int (b2 fl), .ref yr])), (yg, .inl (E.2.1, 32, .inl k5)), (yw, .inl (E.2.2.1, 64, .inl k6)), (yh, .inl (E.2.2.1, 8, .inl k7)), (yc, .inl (E.2.1, 32, .inl k8)), (yd, .inl (E.2.1, 32, .inl k9)), (yb, .inl (E.2.1, 512, .inl (va_cpy k5 (va_cpy f kb (j * 80) 0 x.length) 0 x.length i))), (yk, .inl (E.2.1, 1920, .inl f)), (yz, .inl (E.2.2.1, 24, .inl sz))] H → va_D A [(y0, .inr (7, [.ref ya, .int (nI nt), .ref yo, .int (nI no), .ref ym, .ref yl, .ref yg, .ref yw, .ref yh, .ref yc, .ref yd, .ref yb, .ref yk, .ref yz, .int (nI nd), .int (b2 fl), .ref yr])), (yg, .inl (E.2.1, 32, .inl k5)), (yw, .inl (E.2.2.1, 64, .inl k6)), (yh, .inl (E.2.2.1, 8, .inl k7)), (yc, .inl (E.2.1, 32, .inl k8)), (yd, .inl (E.2.1, 32, .inl k9)), (yb, .inl (E.2.1, 512, .inl (va_cpy k5 (va_cpy f kb (j * 80) 0 x.length) 0 x.length i))), (yk, .inl (E.2.1, 1920, .inl f)), (yz, .inl (E.2.2.1, 24, .inl sz))] → va_S A s.heap H locs → lv_has ls 4 [(3, .int (nI i)), (2, .int (nI j)), (1, .int (nI u)), (0, .ref y0)] → W p l e (rmd 3) s m args below meth c H locs 0 0 Q (F0 m 37 ls []) := by
          intro dd
          induction dd with
          | zero => intro i H locs ls hmz; exact absurd hmz (Nat.not_lt_zero _)
          | succ dd ih37 =>
            intro i H locs ls hmz hi hP hD hS hl
            refine lv_iload_n hx hb d_Mod_signed_37 rfl (lv_at hl 0 rfl) ?_
            refine lv_bipush (v := nI 32) hx hb d_Mod_signed_38 (by decide) ?_
            refine j_ge C i 32 rfl rfl (by omega) (by omega) d_Mod_signed_40 rfl (fun hc2 => ?_) (fun hc2 => ?_)
            · obtain rfl : i = 32 := by omega
              refine lv_aload_n hx hb d_Mod_signed_68 rfl (lv_at hl 3 rfl) ?_
              refine lv_aload_n hx hb d_Mod_signed_69 rfl (lv_at hl 3 rfl) ?_
              refine n_get C fg_Mod_38 hP 0 rfl rfl d_Mod_signed_70 ?_
              refine lv_iconst (v := nI 0) hx hb d_Mod_signed_73 (by decide) ?_
              refine lv_aload_n hx hb d_Mod_signed_74 rfl (lv_at hl 3 rfl) ?_
              refine n_get C fg_Mod_44 hP 0 rfl rfl d_Mod_signed_75 ?_
              refine lv_iload_n hx hb d_Mod_signed_78 rfl (lv_at hl 1 rfl) ?_
              refine n_iald C hP 8 rfl j rfl (by omega) (by omega) d_Mod_signed_79 ?_
              refine tope (z := nI x.length) (hz) ?_
              refine lv_bipush (v := nI 32) hx hb d_Mod_signed_80 (by decide) ?_
              refine lv_iadd hx hb d_Mod_signed_82 ?_
              refine tope (z := nI (x.length + 32)) (nI_add _ _) ?_
              refine lv_aload_n hx hb d_Mod_signed_83 rfl (lv_at hl 3 rfl) ?_
              refine n_get C fg_Mod_35 hP 0 rfl rfl d_Mod_signed_84 ?_
              refine lv_iconst (v := nI 0) hx hb d_Mod_signed_87 (by decide) ?_
              refine cal_V (As := [.ref yb, .int (nI 0), .int (nI (x.length + 32)), .ref yd, .int (nI 0)]) (rest := []) C lk_Mod_74 (c_Mod_hash l E y0 ya yo ym yl yg yw yh yc yd yb yk yz yr nt no nd fl yb 512 0 (x.length + 32) 0 yd 32 k6 k7 k8 (va_cpy k5 (va_cpy f kb (j * 80) 0 x.length) 0 x.length 32) k9 (by omega) (by omega) (by omega) (by omega)) (by decide) hP hD hS 0 7 rfl rfl [0, 2, 3, 4, 6, 5] rfl (by decide) hl.1 rfl (Nat.le_of_ble_eq_true rfl) d_Mod_signed_88 (fun w1 H locs hp6 hP hD hS => ?_)
              obtain ⟨wz3, hz4, rfl⟩ := hp6
              have hP : va_P E.1 clz [(y0, .inr (7, [.ref ya, .int (nI nt), .ref yo, .int (nI no), .ref ym, .ref yl, .ref yg, .ref yw, .ref yh, .ref yc, .ref yd, .ref yb, .ref yk, .ref yz, .int (nI nd), .int (b2 fl), .ref yr])), (yg, .inl (E.2.1, 32, .inl k5)), (yw, .inl (E.2.2.1, 64, .inl wz3)), (yh, .inl (E.2.2.1, 8, .inl hz4)), (yc, .inl (E.2.1, 32, .inl (va_cpy (shaF (fun q => (va_cpy k5 (va_cpy f kb (j * 80) 0 x.length) 0 x.length 32) (0 + q)) (x.length + 32)) k8 0 0 32))), (yd, .inl (E.2.1, 32, .inl (va_cpy (hashF (fun q => (va_cpy k5 (va_cpy f kb (j * 80) 0 x.length) 0 x.length 32) (0 + q)) (x.length + 32)) k9 0 0 32))), (yb, .inl (E.2.1, 512, .inl (va_cpy k5 (va_cpy f kb (j * 80) 0 x.length) 0 x.length 32))), (yk, .inl (E.2.1, 1920, .inl f)), (yz, .inl (E.2.2.1, 24, .inl sz))] H := hP
              have hD : va_D A [(y0, .inr (7, [.ref ya, .int (nI nt), .ref yo, .int (nI no), .ref ym, .ref yl, .ref yg, .ref yw, .ref yh, .ref yc, .ref yd, .ref yb, .ref yk, .ref yz, .int (nI nd), .int (b2 fl), .ref yr])), (yg, .inl (E.2.1, 32, .inl k5)), (yw, .inl (E.2.2.1, 64, .inl wz3)), (yh, .inl (E.2.2.1, 8, .inl hz4)), (yc, .inl (E.2.1, 32, .inl (va_cpy (shaF (fun q => (va_cpy k5 (va_cpy f kb (j * 80) 0 x.length) 0 x.length 32) (0 + q)) (x.length + 32)) k8 0 0 32))), (yd, .inl (E.2.1, 32, .inl (va_cpy (hashF (fun q => (va_cpy k5 (va_cpy f kb (j * 80) 0 x.length) 0 x.length 32) (0 + q)) (x.length + 32)) k9 0 0 32))), (yb, .inl (E.2.1, 512, .inl (va_cpy k5 (va_cpy f kb (j * 80) 0 x.length) 0 x.length 32))), (yk, .inl (E.2.1, 1920, .inl f)), (yz, .inl (E.2.2.1, 24, .inl sz))] := hD
              refine lv_aload_n hx hb d_Mod_signed_91 rfl (lv_at hl 3 rfl) ?_
              refine n_get C fg_Mod_44 hP 0 rfl rfl d_Mod_signed_92 ?_
              refine lv_iload_n hx hb d_Mod_signed_95 rfl (lv_at hl 2 rfl) ?_
              refine n_iald C hP 8 rfl u rfl (by omega) (by omega) d_Mod_signed_96 ?_
              refine tope (z := nI y.length) (hy.1) ?_
              refine lv_bipush (v := nI 8) hx hb d_Mod_signed_97 (by decide) ?_
              refine j_ne C y.length 8 rfl rfl (by omega) (by omega) d_Mod_signed_99 rfl (fun hc7 => ?_) (fun hc7 => ?_)
              · refine lv_iconst (v := nI 0) hx hb d_Mod_signed_127 (by decide) ?_
                exact kret (nI 0) [(y0, .inr (7, [.ref ya, .int (nI nt), .ref yo, .int (nI no), .ref ym, .ref yl, .ref yg, .ref yw, .ref yh, .ref yc, .ref yd, .ref yb, .ref yk, .ref yz, .int (nI nd), .int (b2 fl), .ref yr])), (yg, .inl (E.2.1, 32, .inl k5)), (yw, .inl (E.2.2.1, 64, .inl wz3)), (yh, .inl (E.2.2.1, 8, .inl hz4)), (yc, .inl (E.2.1, 32, .inl (va_cpy (shaF (fun q => (va_cpy k5 (va_cpy f kb (j * 80) 0 x.length) 0 x.length 32) (0 + q)) (x.length + 32)) k8 0 0 32))), (yd, .inl (E.2.1, 32, .inl (va_cpy (hashF (fun q => (va_cpy k5 (va_cpy f kb (j * 80) 0 x.length) 0 x.length 32) (0 + q)) (x.length + 32)) k9 0 0 32))), (yb, .inl (E.2.1, 512, .inl (va_cpy k5 (va_cpy f kb (j * 80) 0 x.length) 0 x.length 32))), (yk, .inl (E.2.1, 1920, .inl f)), (yz, .inl (E.2.2.1, 24, .inl sz))] _ _ _ _ d_Mod_signed_128 (⟨b2_f (decide_eq_false (fun q => hc7 (by rw [q, sigL_len]))), _, _, _, _, _, rfl⟩) rfl hP hS
              · refine lv_aload_n hx hb d_Mod_signed_102 rfl (lv_at hl 3 rfl) ?_
                refine n_get C fg_Mod_41 hP 0 rfl rfl d_Mod_signed_103 ?_
                refine lv_bipush (v := nI 80) hx hb d_Mod_signed_106 (by decide) ?_
                refine lv_iload_n hx hb d_Mod_signed_108 rfl (lv_at hl 2 rfl) ?_
                refine lv_imul hx hb d_Mod_signed_109 ?_
                refine tope (z := nI (u * 80)) ((pk_mul _ _).trans (congrArg nI (Nat.mul_comm _ _))) ?_
                refine lv_aload_n hx hb d_Mod_signed_110 rfl (lv_at hl 3 rfl) ?_
                refine n_get C fg_Mod_35 hP 0 rfl rfl d_Mod_signed_111 ?_
                refine lv_iconst (v := nI 0) hx hb d_Mod_signed_114 (by decide) ?_
                refine lv_bipush (v := nI 8) hx hb d_Mod_signed_115 (by decide) ?_
                refine tope (z := nI y.length) (congrArg nI (by omega)) ?_
                refine cal_S (As := [.ref yk, .int (nI (u * 80)), .ref yd, .int (nI 0), .int (nI y.length)]) (rest := []) C lk_Mod_77 (c_Mod_same l E yk 1920 (u * 80) 0 yd 32 f (va_cpy (hashF (fun q => (va_cpy k5 (va_cpy f kb (j * 80) 0 x.length) 0 x.length 32) (0 + q)) (x.length + 32)) k9 0 0 32) y (sigL msg x) (hy.2.2) (sig_lay hla rfl hm hm32) (by rw [sigL_len]; omega) (by first | omega | (rw [sigL_len] at *; omega)) (by first | omega | (rw [sigL_len] at *; omega)) (by omega) (by omega)) (by decide) hP hD hS [7, 5] rfl (by decide) hl.1 rfl (Nat.le_of_ble_eq_true rfl) d_Mod_signed_117 (fun r8 w1 H locs hp9 hP hD hS => ?_)
                obtain ⟨rfl, rfl⟩ := hp9
                have hP : va_P E.1 clz [(y0, .inr (7, [.ref ya, .int (nI nt), .ref yo, .int (nI no), .ref ym, .ref yl, .ref yg, .ref yw, .ref yh, .ref yc, .ref yd, .ref yb, .ref yk, .ref yz, .int (nI nd), .int (b2 fl), .ref yr])), (yg, .inl (E.2.1, 32, .inl k5)), (yw, .inl (E.2.2.1, 64, .inl wz3)), (yh, .inl (E.2.2.1, 8, .inl hz4)), (yc, .inl (E.2.1, 32, .inl (va_cpy (shaF (fun q => (va_cpy k5 (va_cpy f kb (j * 80) 0 x.length) 0 x.length 32) (0 + q)) (x.length + 32)) k8 0 0 32))), (yd, .inl (E.2.1, 32, .inl (va_cpy (hashF (fun q => (va_cpy k5 (va_cpy f kb (j * 80) 0 x.length) 0 x.length 32) (0 + q)) (x.length + 32)) k9 0 0 32))), (yb, .inl (E.2.1, 512, .inl (va_cpy k5 (va_cpy f kb (j * 80) 0 x.length) 0 x.length 32))), (yk, .inl (E.2.1, 1920, .inl f)), (yz, .inl (E.2.2.1, 24, .inl sz))] H := hP
                have hD : va_D A [(y0, .inr (7, [.ref ya, .int (nI nt), .ref yo, .int (nI no), .ref ym, .ref yl, .ref yg, .ref yw, .ref yh, .ref yc, .ref yd, .ref yb, .ref yk, .ref yz, .int (nI nd), .int (b2 fl), .ref yr])), (yg, .inl (E.2.1, 32, .inl k5)), (yw, .inl (E.2.2.1, 64, .inl wz3)), (yh, .inl (E.2.2.1, 8, .inl hz4)), (yc, .inl (E.2.1, 32, .inl (va_cpy (shaF (fun q => (va_cpy k5 (va_cpy f kb (j * 80) 0 x.length) 0 x.length 32) (0 + q)) (x.length + 32)) k8 0 0 32))), (yd, .inl (E.2.1, 32, .inl (va_cpy (hashF (fun q => (va_cpy k5 (va_cpy f kb (j * 80) 0 x.length) 0 x.length 32) (0 + q)) (x.length + 32)) k9 0 0 32))), (yb, .inl (E.2.1, 512, .inl (va_cpy k5 (va_cpy f kb (j * 80) 0 x.length) 0 x.length 32))), (yk, .inl (E.2.1, 1920, .inl f)), (yz, .inl (E.2.2.1, 24, .inl sz))] := hD
                refine zb_eq C (decide (y = (sigL msg x))) rfl d_Mod_signed_120 rfl (fun hc10 => ?_) (fun hc10 => ?_)
                · refine lv_iconst (v := nI 0) hx hb d_Mod_signed_127 (by decide) ?_
                  exact kret (nI 0) [(y0, .inr (7, [.ref ya, .int (nI nt), .ref yo, .int (nI no), .ref ym, .ref yl, .ref yg, .ref yw, .ref yh, .ref yc, .ref yd, .ref yb, .ref yk, .ref yz, .int (nI nd), .int (b2 fl), .ref yr])), (yg, .inl (E.2.1, 32, .inl k5)), (yw, .inl (E.2.2.1, 64, .inl wz3)), (yh, .inl (E.2.2.1, 8, .inl hz4)), (yc, .inl (E.2.1, 32, .inl (va_cpy (shaF (fun q => (va_cpy k5 (va_cpy f kb (j * 80) 0 x.length) 0 x.length 32) (0 + q)) (x.length + 32)) k8 0 0 32))), (yd, .inl (E.2.1, 32, .inl (va_cpy (hashF (fun q => (va_cpy k5 (va_cpy f kb (j * 80) 0 x.length) 0 x.length 32) (0 + q)) (x.length + 32)) k9 0 0 32))), (yb, .inl (E.2.1, 512, .inl (va_cpy k5 (va_cpy f kb (j * 80) 0 x.length) 0 x.length 32))), (yk, .inl (E.2.1, 1920, .inl f)), (yz, .inl (E.2.2.1, 24, .inl sz))] _ _ _ _ d_Mod_signed_128 (⟨b2_f hc10, _, _, _, _, _, rfl⟩) rfl hP hS
                · refine lv_iconst (v := nI 1) hx hb d_Mod_signed_123 (by decide) ?_
                  refine lv_goto hx hb d_Mod_signed_124 rfl ?_
                  exact kret (nI 1) [(y0, .inr (7, [.ref ya, .int (nI nt), .ref yo, .int (nI no), .ref ym, .ref yl, .ref yg, .ref yw, .ref yh, .ref yc, .ref yd, .ref yb, .ref yk, .ref yz, .int (nI nd), .int (b2 fl), .ref yr])), (yg, .inl (E.2.1, 32, .inl k5)), (yw, .inl (E.2.2.1, 64, .inl wz3)), (yh, .inl (E.2.2.1, 8, .inl hz4)), (yc, .inl (E.2.1, 32, .inl (va_cpy (shaF (fun q => (va_cpy k5 (va_cpy f kb (j * 80) 0 x.length) 0 x.length 32) (0 + q)) (x.length + 32)) k8 0 0 32))), (yd, .inl (E.2.1, 32, .inl (va_cpy (hashF (fun q => (va_cpy k5 (va_cpy f kb (j * 80) 0 x.length) 0 x.length 32) (0 + q)) (x.length + 32)) k9 0 0 32))), (yb, .inl (E.2.1, 512, .inl (va_cpy k5 (va_cpy f kb (j * 80) 0 x.length) 0 x.length 32))), (yk, .inl (E.2.1, 1920, .inl f)), (yz, .inl (E.2.2.1, 24, .inl sz))] _ _ _ _ d_Mod_signed_128 (⟨b2_t hc10, _, _, _, _, _, rfl⟩) rfl hP hS
            · refine lv_aload_n hx hb d_Mod_signed_43 rfl (lv_at hl 3 rfl) ?_
              refine n_get C fg_Mod_38 hP 0 rfl rfl d_Mod_signed_44 ?_
              refine lv_aload_n hx hb d_Mod_signed_47 rfl (lv_at hl 3 rfl) ?_
              refine n_get C fg_Mod_44 hP 0 rfl rfl d_Mod_signed_48 ?_
              refine lv_iload_n hx hb d_Mod_signed_51 rfl (lv_at hl 1 rfl) ?_
              refine n_iald C hP 8 rfl j rfl (by omega) (by omega) d_Mod_signed_52 ?_
              refine tope (z := nI x.length) (hz) ?_
              refine lv_iload_n hx hb d_Mod_signed_53 rfl (lv_at hl 0 rfl) ?_
              refine lv_iadd hx hb d_Mod_signed_54 ?_
              refine tope (z := nI (x.length + i)) (nI_add _ _) ?_
              refine lv_aload_n hx hb d_Mod_signed_55 rfl (lv_at hl 3 rfl) ?_
              refine n_get C fg_Mod_23 hP 0 rfl rfl d_Mod_signed_56 ?_
              refine lv_iload_n hx hb d_Mod_signed_59 rfl (lv_at hl 0 rfl) ?_
              refine n_bald C hP 1 rfl i rfl (by omega) (by omega) d_Mod_signed_60 ?_
              refine n_bast (z := k5 i) C hP hD hS 6 rfl (x.length + i) rfl (hB5 _) (by omega) (by omega) d_Mod_signed_61 (fun H locs hP hD hS => ?_)
              have hP : va_P E.1 clz [(y0, .inr (7, [.ref ya, .int (nI nt), .ref yo, .int (nI no), .ref ym, .ref yl, .ref yg, .ref yw, .ref yh, .ref yc, .ref yd, .ref yb, .ref yk, .ref yz, .int (nI nd), .int (b2 fl), .ref yr])), (yg, .inl (E.2.1, 32, .inl k5)), (yw, .inl (E.2.2.1, 64, .inl k6)), (yh, .inl (E.2.2.1, 8, .inl k7)), (yc, .inl (E.2.1, 32, .inl k8)), (yd, .inl (E.2.1, 32, .inl k9)), (yb, .inl (E.2.1, 512, .inl (upd (va_cpy k5 (va_cpy f kb (j * 80) 0 x.length) 0 x.length i) (x.length + i) (k5 i)))), (yk, .inl (E.2.1, 1920, .inl f)), (yz, .inl (E.2.2.1, 24, .inl sz))] H := hP
              have hD : va_D A [(y0, .inr (7, [.ref ya, .int (nI nt), .ref yo, .int (nI no), .ref ym, .ref yl, .ref yg, .ref yw, .ref yh, .ref yc, .ref yd, .ref yb, .ref yk, .ref yz, .int (nI nd), .int (b2 fl), .ref yr])), (yg, .inl (E.2.1, 32, .inl k5)), (yw, .inl (E.2.2.1, 64, .inl k6)), (yh, .inl (E.2.2.1, 8, .inl k7)), (yc, .inl (E.2.1, 32, .inl k8)), (yd, .inl (E.2.1, 32, .inl k9)), (yb, .inl (E.2.1, 512, .inl (upd (va_cpy k5 (va_cpy f kb (j * 80) 0 x.length) 0 x.length i) (x.length + i) (k5 i)))), (yk, .inl (E.2.1, 1920, .inl f)), (yz, .inl (E.2.2.1, 24, .inl sz))] := hD
              have hcs := cpy_succ k5 (va_cpy f kb (j * 80) 0 x.length) 0 x.length i
              rw [Nat.zero_add] at hcs
              rw [hcs] at hP hD
              have hP : va_P E.1 clz [(y0, .inr (7, [.ref ya, .int (nI nt), .ref yo, .int (nI no), .ref ym, .ref yl, .ref yg, .ref yw, .ref yh, .ref yc, .ref yd, .ref yb, .ref yk, .ref yz, .int (nI nd), .int (b2 fl), .ref yr])), (yg, .inl (E.2.1, 32, .inl k5)), (yw, .inl (E.2.2.1, 64, .inl k6)), (yh, .inl (E.2.2.1, 8, .inl k7)), (yc, .inl (E.2.1, 32, .inl k8)), (yd, .inl (E.2.1, 32, .inl k9)), (yb, .inl (E.2.1, 512, .inl (va_cpy k5 (va_cpy f kb (j * 80) 0 x.length) 0 x.length (i + 1)))), (yk, .inl (E.2.1, 1920, .inl f)), (yz, .inl (E.2.2.1, 24, .inl sz))] H := hP
              have hD : va_D A [(y0, .inr (7, [.ref ya, .int (nI nt), .ref yo, .int (nI no), .ref ym, .ref yl, .ref yg, .ref yw, .ref yh, .ref yc, .ref yd, .ref yb, .ref yk, .ref yz, .int (nI nd), .int (b2 fl), .ref yr])), (yg, .inl (E.2.1, 32, .inl k5)), (yw, .inl (E.2.2.1, 64, .inl k6)), (yh, .inl (E.2.2.1, 8, .inl k7)), (yc, .inl (E.2.1, 32, .inl k8)), (yd, .inl (E.2.1, 32, .inl k9)), (yb, .inl (E.2.1, 512, .inl (va_cpy k5 (va_cpy f kb (j * 80) 0 x.length) 0 x.length (i + 1)))), (yk, .inl (E.2.1, 1920, .inl f)), (yz, .inl (E.2.2.1, 24, .inl sz))] := hD
              refine lv_iinc (k := 0) (v := nI (i + 1)) (lv' := [(3, .int (nI (i + 1))), (2, .int (nI j)), (1, .int (nI u)), (0, .ref y0)]) hx hb d_Mod_signed_62 hl rfl (iincK i 1) (by decide) rfl (fun ls hl => ?_)
              refine lv_goto hx hb d_Mod_signed_65 rfl ?_
              exact ih37 (i + 1) H locs ls (by omega) (by omega) hP hD hS (lv_sub hl [0, 1, 2, 3] rfl)
        exact hloop37 (32 + 1) 0 H locs ls (by omega) (by omega) hP hD hS (lv_sub hl [0, 1, 2, 3] rfl)
      · refine lv_aload_n hx hb d_Mod_signed_12 rfl (lv_at hl 3 rfl) ?_
        refine n_get C fg_Mod_38 hP 0 rfl rfl d_Mod_signed_13 ?_
        refine lv_iload_n hx hb d_Mod_signed_16 rfl (lv_at hl 0 rfl) ?_
        refine lv_aload_n hx hb d_Mod_signed_17 rfl (lv_at hl 3 rfl) ?_
        refine n_get C fg_Mod_41 hP 0 rfl rfl d_Mod_signed_18 ?_
        refine lv_bipush (v := nI 80) hx hb d_Mod_signed_21 (by decide) ?_
        refine lv_iload_n hx hb d_Mod_signed_23 rfl (lv_at hl 1 rfl) ?_
        refine lv_imul hx hb d_Mod_signed_24 ?_
        refine tope (z := nI (j * 80)) ((pk_mul _ _).trans (congrArg nI (Nat.mul_comm _ _))) ?_
        refine lv_iload_n hx hb d_Mod_signed_25 rfl (lv_at hl 0 rfl) ?_
        refine lv_iadd hx hb d_Mod_signed_26 ?_
        refine tope (z := nI ((j * 80) + i)) (nI_add _ _) ?_
        refine n_bald C hP 7 rfl ((j * 80) + i) rfl (by omega) (by omega) d_Mod_signed_27 ?_
        refine n_bast (z := f ((j * 80) + i)) C hP hD hS 6 rfl i rfl (hB _) (by omega) (by omega) d_Mod_signed_28 (fun H locs hP hD hS => ?_)
        have hP : va_P E.1 clz [(y0, .inr (7, [.ref ya, .int (nI nt), .ref yo, .int (nI no), .ref ym, .ref yl, .ref yg, .ref yw, .ref yh, .ref yc, .ref yd, .ref yb, .ref yk, .ref yz, .int (nI nd), .int (b2 fl), .ref yr])), (yg, .inl (E.2.1, 32, .inl k5)), (yw, .inl (E.2.2.1, 64, .inl k6)), (yh, .inl (E.2.2.1, 8, .inl k7)), (yc, .inl (E.2.1, 32, .inl k8)), (yd, .inl (E.2.1, 32, .inl k9)), (yb, .inl (E.2.1, 512, .inl (upd (va_cpy f kb (j * 80) 0 i) i (f ((j * 80) + i))))), (yk, .inl (E.2.1, 1920, .inl f)), (yz, .inl (E.2.2.1, 24, .inl sz))] H := hP
        have hD : va_D A [(y0, .inr (7, [.ref ya, .int (nI nt), .ref yo, .int (nI no), .ref ym, .ref yl, .ref yg, .ref yw, .ref yh, .ref yc, .ref yd, .ref yb, .ref yk, .ref yz, .int (nI nd), .int (b2 fl), .ref yr])), (yg, .inl (E.2.1, 32, .inl k5)), (yw, .inl (E.2.2.1, 64, .inl k6)), (yh, .inl (E.2.2.1, 8, .inl k7)), (yc, .inl (E.2.1, 32, .inl k8)), (yd, .inl (E.2.1, 32, .inl k9)), (yb, .inl (E.2.1, 512, .inl (upd (va_cpy f kb (j * 80) 0 i) i (f ((j * 80) + i))))), (yk, .inl (E.2.1, 1920, .inl f)), (yz, .inl (E.2.2.1, 24, .inl sz))] := hD
        have hcs := cpy_succ f kb (j * 80) 0 i
        rw [Nat.zero_add] at hcs
        rw [hcs] at hP hD
        have hP : va_P E.1 clz [(y0, .inr (7, [.ref ya, .int (nI nt), .ref yo, .int (nI no), .ref ym, .ref yl, .ref yg, .ref yw, .ref yh, .ref yc, .ref yd, .ref yb, .ref yk, .ref yz, .int (nI nd), .int (b2 fl), .ref yr])), (yg, .inl (E.2.1, 32, .inl k5)), (yw, .inl (E.2.2.1, 64, .inl k6)), (yh, .inl (E.2.2.1, 8, .inl k7)), (yc, .inl (E.2.1, 32, .inl k8)), (yd, .inl (E.2.1, 32, .inl k9)), (yb, .inl (E.2.1, 512, .inl (va_cpy f kb (j * 80) 0 (i + 1)))), (yk, .inl (E.2.1, 1920, .inl f)), (yz, .inl (E.2.2.1, 24, .inl sz))] H := hP
        have hD : va_D A [(y0, .inr (7, [.ref ya, .int (nI nt), .ref yo, .int (nI no), .ref ym, .ref yl, .ref yg, .ref yw, .ref yh, .ref yc, .ref yd, .ref yb, .ref yk, .ref yz, .int (nI nd), .int (b2 fl), .ref yr])), (yg, .inl (E.2.1, 32, .inl k5)), (yw, .inl (E.2.2.1, 64, .inl k6)), (yh, .inl (E.2.2.1, 8, .inl k7)), (yc, .inl (E.2.1, 32, .inl k8)), (yd, .inl (E.2.1, 32, .inl k9)), (yb, .inl (E.2.1, 512, .inl (va_cpy f kb (j * 80) 0 (i + 1)))), (yk, .inl (E.2.1, 1920, .inl f)), (yz, .inl (E.2.2.1, 24, .inl sz))] := hD
        refine lv_iinc (k := 0) (v := nI (i + 1)) (lv' := [(3, .int (nI (i + 1))), (2, .int (nI j)), (1, .int (nI u)), (0, .ref y0)]) hx hb d_Mod_signed_29 hl rfl (iincK i 1) (by decide) rfl (fun ls hl => ?_)
        refine lv_goto hx hb d_Mod_signed_32 rfl ?_
        exact ih2 (i + 1) H locs ls (by omega) (by omega) hP hD hS (lv_sub hl [0, 1, 2, 3] rfl)
  exact hloop2 (x.length + 1) 0 H locs ls (by omega) (by omega) hP hD hS (lv_sub hl [0, 3, 2, 1] rfl)

def stepM (E : En) (y0 ya yo ym yl yg yw yh yc yd yb yk yz yr nt no : Nat) (fl : Bool) (k5 : Nat → Int32) (R : Option Stk) (r : Int32) (w : va_W) : Prop := ∃ (n : Nat) (f sz k6 k7 k8 k9 kb : Nat → Int32), w = [(y0, .inr (7, [.ref ya, .int (nI nt), .ref yo, .int (nI no), .ref ym, .ref yl, .ref yg, .ref yw, .ref yh, .ref yc, .ref yd, .ref yb, .ref yk, .ref yz, .int (nI n), .int (b2 fl), .ref yr])), (yg, .inl (E.2.1, 32, .inl k5)), (yw, .inl (E.2.2.1, 64, .inl k6)), (yh, .inl (E.2.2.1, 8, .inl k7)), (yc, .inl (E.2.1, 32, .inl k8)), (yd, .inl (E.2.1, 32, .inl k9)), (yb, .inl (E.2.1, 512, .inl kb)), (yk, .inl (E.2.1, 1920, .inl f)), (yz, .inl (E.2.2.1, 24, .inl sz))] ∧ fB f ∧ ((∃ S1 : Stk, R = some S1 ∧ r = b2 true ∧ n = S1.length ∧ rep f sz S1 ∧ S1.length ≤ 24) ∨ (R = none ∧ r = b2 false))
theorem stepM_nar {E : En} {y0 ya yo ym yl yg yw yh yc yd yb yk yz yr nt no : Nat} {fl : Bool} {k5 : Nat → Int32} {R : Option Stk} (r : Int32) (w : va_W) (h : stepM E y0 ya yo ym yl yg yw yh yc yd yb yk yz yr nt no fl k5 R r w) : narrow .boolean (.int r) = .int r := by
  obtain ⟨n, f, sz, k6, k7, k8, k9, kb, -, -, ⟨S1, -, rfl, -⟩ | ⟨-, rfl⟩⟩ := h
  · exact b2_nar _
  · exact b2_nar _

set_option maxHeartbeats 4000000 in
set_option maxRecDepth 100000 in
theorem c_act_80 (l : Launch) (E : En) (y0 ya yo ym yl yg yw yh yc yd yb yk yz yr nt no : Nat) (fl : Bool) (k5 k6 k7 k8 k9 kb f sz : Nat → Int32) (S : Stk) (msg : Byl) (hrep : rep f sz S) (hB : fB f) (hB5 : fB k5) (hlen : S.length ≤ 24) (hm : lay k5 0 msg) (hm32 : msg.length = 32) (ht : Int32) : CtI l y_Mod_act b_Mod_act 11 .boolean (rmd 4) E [.ref y0, .int (nI 80), .int ht] [(y0, .inr (7, [.ref ya, .int (nI nt), .ref yo, .int (nI no), .ref ym, .ref yl, .ref yg, .ref yw, .ref yh, .ref yc, .ref yd, .ref yb, .ref yk, .ref yz, .int (nI S.length), .int (b2 fl), .ref yr])), (yg, .inl (E.2.1, 32, .inl k5)), (yw, .inl (E.2.2.1, 64, .inl k6)), (yh, .inl (E.2.2.1, 8, .inl k7)), (yc, .inl (E.2.1, 32, .inl k8)), (yd, .inl (E.2.1, 32, .inl k9)), (yb, .inl (E.2.1, 512, .inl kb)), (yk, .inl (E.2.1, 1920, .inl f)), (yz, .inl (E.2.2.1, 24, .inl sz))] (stepM E y0 ya yo ym yl yg yw yh yc yd yb yk yz yr nt no fl k5 (actS 80 ht msg S)) := by
  refine CtI.of (by decide) (Nat.le_of_ble_eq_true rfl) (stepM_nar) ?_
  intro p e s m args below meth c A Q H locs ls C hP hD hS hl kret
  have hx := C.1
  have hb := C.2.1
  have hl : lv_has ls 11 [(0, .ref y0), (1, .int (nI 80)), (2, .int ht)] := hl
  rcases S with _ | ⟨x, S⟩
  · have hP : va_P E.1 clz [(y0, .inr (7, [.ref ya, .int (nI nt), .ref yo, .int (nI no), .ref ym, .ref yl, .ref yg, .ref yw, .ref yh, .ref yc, .ref yd, .ref yb, .ref yk, .ref yz, .int (nI 0), .int (b2 fl), .ref yr])), (yg, .inl (E.2.1, 32, .inl k5)), (yw, .inl (E.2.2.1, 64, .inl k6)), (yh, .inl (E.2.2.1, 8, .inl k7)), (yc, .inl (E.2.1, 32, .inl k8)), (yd, .inl (E.2.1, 32, .inl k9)), (yb, .inl (E.2.1, 512, .inl kb)), (yk, .inl (E.2.1, 1920, .inl f)), (yz, .inl (E.2.2.1, 24, .inl sz))] H := hP
    have hD : va_D A [(y0, .inr (7, [.ref ya, .int (nI nt), .ref yo, .int (nI no), .ref ym, .ref yl, .ref yg, .ref yw, .ref yh, .ref yc, .ref yd, .ref yb, .ref yk, .ref yz, .int (nI 0), .int (b2 fl), .ref yr])), (yg, .inl (E.2.1, 32, .inl k5)), (yw, .inl (E.2.2.1, 64, .inl k6)), (yh, .inl (E.2.2.1, 8, .inl k7)), (yc, .inl (E.2.1, 32, .inl k8)), (yd, .inl (E.2.1, 32, .inl k9)), (yb, .inl (E.2.1, 512, .inl kb)), (yk, .inl (E.2.1, 1920, .inl f)), (yz, .inl (E.2.2.1, 24, .inl sz))] := hD
    refine lv_aload_n hx hb d_Mod_act_0 rfl (lv_at hl 0 rfl) ?_
    refine n_get C fg_Mod_66 hP 0 rfl rfl d_Mod_act_1 ?_
    refine lv_iconst (v := nI 2) hx hb d_Mod_act_4 (by decide) ?_
    refine lv_isub hx hb d_Mod_act_5 ?_
    refine tope (z := (-2)) (by decide) ?_
    refine lv_istore_n (lv' := [(3, .int (-2)), (0, .ref y0), (1, .int (nI 80)), (2, .int ht)]) hx hb d_Mod_act_6 rfl hl (by decide) rfl (fun ls hl => ?_)
    refine lv_aload_n hx hb d_Mod_act_7 rfl (lv_at hl 1 rfl) ?_
    refine n_get C fg_Mod_66 hP 0 rfl rfl d_Mod_act_8 ?_
    refine lv_iconst (v := nI 1) hx hb d_Mod_act_11 (by decide) ?_
    refine lv_isub hx hb d_Mod_act_12 ?_
    refine tope (z := (-1)) (by decide) ?_
    refine lv_istore (lv' := [(4, .int (-1)), (3, .int (-2)), (0, .ref y0), (1, .int (nI 80)), (2, .int ht)]) hx hb d_Mod_act_13 hl (by decide) rfl (fun ls hl => ?_)
    refine lv_iload_n hx hb d_Mod_act_15 rfl (lv_at hl 3 rfl) ?_
    refine lv_bipush (v := nI 82) hx hb d_Mod_act_16 (by decide) ?_
    refine j_eq C 80 82 rfl rfl (by decide) (by decide) d_Mod_act_18 rfl (fun hc1 => absurd hc1 (by decide)) (fun hc1 => ?_)
    refine lv_iload_n hx hb d_Mod_act_21 rfl (lv_at hl 3 rfl) ?_
    refine lv_bipush (v := nI 83) hx hb d_Mod_act_22 (by decide) ?_
    refine j_eq C 80 83 rfl rfl (by decide) (by decide) d_Mod_act_24 rfl (fun hc2 => absurd hc2 (by decide)) (fun hc2 => ?_)
    refine lv_iload_n hx hb d_Mod_act_27 rfl (lv_at hl 3 rfl) ?_
    refine lv_bipush (v := nI 86) hx hb d_Mod_act_28 (by decide) ?_
    refine j_eq C 80 86 rfl rfl (by decide) (by decide) d_Mod_act_30 rfl (fun hc3 => absurd hc3 (by decide)) (fun hc3 => ?_)
    refine lv_iload_n hx hb d_Mod_act_33 rfl (lv_at hl 3 rfl) ?_
    refine lv_bipush (v := nI 89) hx hb d_Mod_act_34 (by decide) ?_
    refine j_lt C 80 89 rfl rfl (by decide) (by decide) d_Mod_act_36 rfl (fun hc4 => ?_) (fun hc4 => absurd hc4 (by decide))
    refine lv_iload_n hx hb d_Mod_act_45 rfl (lv_at hl 3 rfl) ?_
    refine lv_bipush (v := nI 95) hx hb d_Mod_act_46 (by decide) ?_
    refine j_ne C 80 95 rfl rfl (by decide) (by decide) d_Mod_act_48 rfl (fun hc5 => ?_) (fun hc5 => absurd hc5 (by decide))
    refine lv_iconst (v := nI 0) hx hb d_Mod_act_55 (by decide) ?_
    refine lv_istore (lv' := [(5, .int (nI 0)), (4, .int (-1)), (3, .int (-2)), (0, .ref y0), (1, .int (nI 80)), (2, .int ht)]) hx hb d_Mod_act_56 hl (by decide) rfl (fun ls hl => ?_)
    refine lv_aload_n hx hb d_Mod_act_58 rfl (lv_at hl 3 rfl) ?_
    refine n_get C fg_Mod_66 hP 0 rfl rfl d_Mod_act_59 ?_
    refine lv_iload hx hb d_Mod_act_62 (lv_at hl 0 rfl) ?_
    refine z_eq C 0 rfl (by omega) d_Mod_act_64 rfl (fun hc6 => ?_) (fun hc6 => absurd hc6 (by omega))
    refine lv_iload_n hx hb d_Mod_act_71 rfl (lv_at hl 4 rfl) ?_
    refine lv_bipush (v := nI 102) hx hb d_Mod_act_72 (by decide) ?_
    refine j_ne C 80 102 rfl rfl (by decide) (by decide) d_Mod_act_74 rfl (fun hc7 => ?_) (fun hc7 => absurd hc7 (by decide))
    refine lv_iconst (v := nI 1) hx hb d_Mod_act_81 (by decide) ?_
    refine j_ge C 0 1 rfl rfl (by decide) (by decide) d_Mod_act_82 rfl (fun hc8 => absurd hc8 (by decide)) (fun hc8 => ?_)
    refine lv_iconst (v := nI 0) hx hb d_Mod_act_85 (by decide) ?_
    exact kret (nI 0) [(y0, .inr (7, [.ref ya, .int (nI nt), .ref yo, .int (nI no), .ref ym, .ref yl, .ref yg, .ref yw, .ref yh, .ref yc, .ref yd, .ref yb, .ref yk, .ref yz, .int (nI 0), .int (b2 fl), .ref yr])), (yg, .inl (E.2.1, 32, .inl k5)), (yw, .inl (E.2.2.1, 64, .inl k6)), (yh, .inl (E.2.2.1, 8, .inl k7)), (yc, .inl (E.2.1, 32, .inl k8)), (yd, .inl (E.2.1, 32, .inl k9)), (yb, .inl (E.2.1, 512, .inl kb)), (yk, .inl (E.2.1, 1920, .inl f)), (yz, .inl (E.2.2.1, 24, .inl sz))] _ _ _ _ d_Mod_act_86 (⟨_, _, _, _, _, _, _, _, rfl, hB, Or.inr ⟨rfl, rfl⟩⟩) rfl hP hS
  · have hx1 : sz S.length = nI x.length ∧ x.length ≤ 80 ∧ lay f (S.length * 80) x := rep_top hrep
    have hr0 : rep f sz S := rep_tail hrep
    have hlen : S.length + 1 ≤ 24 := hlen
    have hP : va_P E.1 clz [(y0, .inr (7, [.ref ya, .int (nI nt), .ref yo, .int (nI no), .ref ym, .ref yl, .ref yg, .ref yw, .ref yh, .ref yc, .ref yd, .ref yb, .ref yk, .ref yz, .int (nI (S.length + 1)), .int (b2 fl), .ref yr])), (yg, .inl (E.2.1, 32, .inl k5)), (yw, .inl (E.2.2.1, 64, .inl k6)), (yh, .inl (E.2.2.1, 8, .inl k7)), (yc, .inl (E.2.1, 32, .inl k8)), (yd, .inl (E.2.1, 32, .inl k9)), (yb, .inl (E.2.1, 512, .inl kb)), (yk, .inl (E.2.1, 1920, .inl f)), (yz, .inl (E.2.2.1, 24, .inl sz))] H := hP
    have hD : va_D A [(y0, .inr (7, [.ref ya, .int (nI nt), .ref yo, .int (nI no), .ref ym, .ref yl, .ref yg, .ref yw, .ref yh, .ref yc, .ref yd, .ref yb, .ref yk, .ref yz, .int (nI (S.length + 1)), .int (b2 fl), .ref yr])), (yg, .inl (E.2.1, 32, .inl k5)), (yw, .inl (E.2.2.1, 64, .inl k6)), (yh, .inl (E.2.2.1, 8, .inl k7)), (yc, .inl (E.2.1, 32, .inl k8)), (yd, .inl (E.2.1, 32, .inl k9)), (yb, .inl (E.2.1, 512, .inl kb)), (yk, .inl (E.2.1, 1920, .inl f)), (yz, .inl (E.2.2.1, 24, .inl sz))] := hD
    rcases Nat.lt_or_ge (S.length + 1) 24 with h24 | h24
    · refine lv_aload_n hx hb d_Mod_act_0 rfl (lv_at hl 0 rfl) ?_
      refine n_get C fg_Mod_66 hP 0 rfl rfl d_Mod_act_1 ?_
      refine lv_iconst (v := nI 2) hx hb d_Mod_act_4 (by decide) ?_
      refine lv_isub hx hb d_Mod_act_5 ?_
      refine lv_istore_n (lv' := [(3, .int ((nI (S.length + 1)) - (nI 2))), (0, .ref y0), (1, .int (nI 80)), (2, .int ht)]) hx hb d_Mod_act_6 rfl hl (by decide) rfl (fun ls hl => ?_)
      refine lv_aload_n hx hb d_Mod_act_7 rfl (lv_at hl 1 rfl) ?_
      refine n_get C fg_Mod_66 hP 0 rfl rfl d_Mod_act_8 ?_
      refine lv_iconst (v := nI 1) hx hb d_Mod_act_11 (by decide) ?_
      refine lv_isub hx hb d_Mod_act_12 ?_
      refine tope (z := nI S.length) ((pk_sub (by omega)).trans (congrArg nI (by omega))) ?_
      refine lv_istore (lv' := [(4, .int (nI S.length)), (3, .int ((nI (S.length + 1)) - (nI 2))), (0, .ref y0), (1, .int (nI 80)), (2, .int ht)]) hx hb d_Mod_act_13 hl (by decide) rfl (fun ls hl => ?_)
      refine lv_iload_n hx hb d_Mod_act_15 rfl (lv_at hl 3 rfl) ?_
      refine lv_bipush (v := nI 82) hx hb d_Mod_act_16 (by decide) ?_
      refine j_eq C 80 82 rfl rfl (by decide) (by decide) d_Mod_act_18 rfl (fun hc9 => absurd hc9 (by decide)) (fun hc9 => ?_)
      refine lv_iload_n hx hb d_Mod_act_21 rfl (lv_at hl 3 rfl) ?_
      refine lv_bipush (v := nI 83) hx hb d_Mod_act_22 (by decide) ?_
      refine j_eq C 80 83 rfl rfl (by decide) (by decide) d_Mod_act_24 rfl (fun hc10 => absurd hc10 (by decide)) (fun hc10 => ?_)
      refine lv_iload_n hx hb d_Mod_act_27 rfl (lv_at hl 3 rfl) ?_
      refine lv_bipush (v := nI 86) hx hb d_Mod_act_28 (by decide) ?_
      refine j_eq C 80 86 rfl rfl (by decide) (by decide) d_Mod_act_30 rfl (fun hc11 => absurd hc11 (by decide)) (fun hc11 => ?_)
      refine lv_iload_n hx hb d_Mod_act_33 rfl (lv_at hl 3 rfl) ?_
      refine lv_bipush (v := nI 89) hx hb d_Mod_act_34 (by decide) ?_
      refine j_lt C 80 89 rfl rfl (by decide) (by decide) d_Mod_act_36 rfl (fun hc12 => ?_) (fun hc12 => absurd hc12 (by decide))
      refine lv_iload_n hx hb d_Mod_act_45 rfl (lv_at hl 3 rfl) ?_
      refine lv_bipush (v := nI 95) hx hb d_Mod_act_46 (by decide) ?_
      refine j_ne C 80 95 rfl rfl (by decide) (by decide) d_Mod_act_48 rfl (fun hc13 => ?_) (fun hc13 => absurd hc13 (by decide))
      refine lv_iconst (v := nI 0) hx hb d_Mod_act_55 (by decide) ?_
      refine lv_istore (lv' := [(5, .int (nI 0)), (4, .int (nI S.length)), (3, .int ((nI (S.length + 1)) - (nI 2))), (0, .ref y0), (1, .int (nI 80)), (2, .int ht)]) hx hb d_Mod_act_56 hl (by decide) rfl (fun ls hl => ?_)
      refine lv_aload_n hx hb d_Mod_act_58 rfl (lv_at hl 3 rfl) ?_
      refine n_get C fg_Mod_66 hP 0 rfl rfl d_Mod_act_59 ?_
      refine lv_iload hx hb d_Mod_act_62 (lv_at hl 0 rfl) ?_
      refine z_eq C 0 rfl (by omega) d_Mod_act_64 rfl (fun hc14 => ?_) (fun hc14 => absurd hc14 (by omega))
      refine lv_iload_n hx hb d_Mod_act_71 rfl (lv_at hl 4 rfl) ?_
      refine lv_bipush (v := nI 102) hx hb d_Mod_act_72 (by decide) ?_
      refine j_ne C 80 102 rfl rfl (by decide) (by decide) d_Mod_act_74 rfl (fun hc15 => ?_) (fun hc15 => absurd hc15 (by decide))
      refine lv_iconst (v := nI 1) hx hb d_Mod_act_81 (by decide) ?_
      refine j_ge C (S.length + 1) 1 rfl rfl (by omega) (by omega) d_Mod_act_82 rfl (fun hc16 => ?_) (fun hc16 => absurd hc16 (by omega))
      refine lv_iload_n hx hb d_Mod_act_87 rfl (lv_at hl 4 rfl) ?_
      refine lv_bipush (v := nI 88) hx hb d_Mod_act_88 (by decide) ?_
      refine j_lt C 80 88 rfl rfl (by decide) (by decide) d_Mod_act_90 rfl (fun hc17 => ?_) (fun hc17 => absurd hc17 (by decide))
      refine lv_iload_n hx hb d_Mod_act_99 rfl (lv_at hl 4 rfl) ?_
      refine lv_bipush (v := nI 96) hx hb d_Mod_act_100 (by decide) ?_
      refine j_ne C 80 96 rfl rfl (by decide) (by decide) d_Mod_act_102 rfl (fun hc18 => ?_) (fun hc18 => absurd hc18 (by decide))
      refine lv_iconst (v := nI 0) hx hb d_Mod_act_109 (by decide) ?_
      refine lv_istore (lv' := [(6, .int (nI 0)), (5, .int (nI 0)), (4, .int (nI S.length)), (3, .int ((nI (S.length + 1)) - (nI 2))), (0, .ref y0), (1, .int (nI 80)), (2, .int ht)]) hx hb d_Mod_act_110 hl (by decide) rfl (fun ls hl => ?_)
      refine lv_iload hx hb d_Mod_act_112 (lv_at hl 0 rfl) ?_
      refine z_eq C 0 rfl (by omega) d_Mod_act_114 rfl (fun hc19 => ?_) (fun hc19 => absurd hc19 (by omega))
      refine lv_iload hx hb d_Mod_act_145 (lv_at hl 1 rfl) ?_
      refine z_eq C 0 rfl (by omega) d_Mod_act_147 rfl (fun hc20 => ?_) (fun hc20 => absurd hc20 (by omega))
      refine lv_iconst (v := nI 0) hx hb d_Mod_act_163 (by decide) ?_
      refine lv_istore (lv' := [(7, .int (nI 0)), (6, .int (nI 0)), (5, .int (nI 0)), (4, .int (nI S.length)), (3, .int ((nI (S.length + 1)) - (nI 2))), (0, .ref y0), (1, .int (nI 80)), (2, .int ht)]) hx hb d_Mod_act_164 hl (by decide) rfl (fun ls hl => ?_)
      refine lv_iload hx hb d_Mod_act_166 (lv_at hl 1 rfl) ?_
      refine z_eq C 0 rfl (by omega) d_Mod_act_168 rfl (fun hc21 => ?_) (fun hc21 => absurd hc21 (by omega))
      refine lv_iconst (v := nI 0) hx hb d_Mod_act_180 (by decide) ?_
      refine lv_istore (lv' := [(8, .int (nI 0)), (7, .int (nI 0)), (6, .int (nI 0)), (5, .int (nI 0)), (4, .int (nI S.length)), (3, .int ((nI (S.length + 1)) - (nI 2))), (0, .ref y0), (1, .int (nI 80)), (2, .int ht)]) hx hb d_Mod_act_181 hl (by decide) rfl (fun ls hl => ?_)
      refine lv_iload_n hx hb d_Mod_act_183 rfl (lv_at hl 7 rfl) ?_
      refine lv_tableIn hx hb d_Mod_act_184 (by decide) (by decide) rfl rfl ?_
      refine lv_aload_n hx hb d_Mod_act_292 rfl (lv_at hl 6 rfl) ?_
      refine lv_aload_n hx hb d_Mod_act_293 rfl (lv_at hl 6 rfl) ?_
      refine n_get C fg_Mod_41 hP 0 rfl rfl d_Mod_act_294 ?_
      refine lv_bipush (v := nI 80) hx hb d_Mod_act_297 (by decide) ?_
      refine lv_iload hx hb d_Mod_act_299 (lv_at hl 4 rfl) ?_
      refine lv_imul hx hb d_Mod_act_301 ?_
      refine tope (z := nI (S.length * 80)) ((pk_mul _ _).trans (congrArg nI (Nat.mul_comm _ _))) ?_
      refine lv_aload_n hx hb d_Mod_act_302 rfl (lv_at hl 6 rfl) ?_
      refine n_get C fg_Mod_44 hP 0 rfl rfl d_Mod_act_303 ?_
      refine lv_iload hx hb d_Mod_act_306 (lv_at hl 4 rfl) ?_
      refine n_iald C hP 8 rfl S.length rfl (by omega) (by omega) d_Mod_act_308 ?_
      refine tope (z := nI x.length) (hx1.1) ?_
      refine cal_I (As := [.ref yk, .int (nI (S.length * 80)), .int (nI x.length)]) (rest := []) C lk_Mod_70 (c_Mod_pushA l E y0 ya yo ym yl yg yw yh yc yd yb yk yz yr nt no (S.length + 1) fl (S.length * 80) x.length f sz (by omega) (by omega) (by omega) (fun q hq => hB _)) (by decide) hP hD hS 0 7 rfl rfl [0, 7, 8] rfl (by decide) hl.1 rfl (Nat.le_of_ble_eq_true rfl) d_Mod_act_309 (fun r22 w1 H locs hp23 hP hD hS => ?_)
      obtain ⟨rfl, rfl⟩ := hp23
      have hP : va_P E.1 clz [(y0, .inr (7, [.ref ya, .int (nI nt), .ref yo, .int (nI no), .ref ym, .ref yl, .ref yg, .ref yw, .ref yh, .ref yc, .ref yd, .ref yb, .ref yk, .ref yz, .int (nI (S.length + 1 + 1)), .int (b2 fl), .ref yr])), (yg, .inl (E.2.1, 32, .inl k5)), (yw, .inl (E.2.2.1, 64, .inl k6)), (yh, .inl (E.2.2.1, 8, .inl k7)), (yc, .inl (E.2.1, 32, .inl k8)), (yd, .inl (E.2.1, 32, .inl k9)), (yb, .inl (E.2.1, 512, .inl kb)), (yk, .inl (E.2.1, 1920, .inl (va_cpy f f (S.length * 80) ((S.length + 1) * 80) x.length))), (yz, .inl (E.2.2.1, 24, .inl (upd sz (S.length + 1) (nI x.length))))] H := hP
      have hD : va_D A [(y0, .inr (7, [.ref ya, .int (nI nt), .ref yo, .int (nI no), .ref ym, .ref yl, .ref yg, .ref yw, .ref yh, .ref yc, .ref yd, .ref yb, .ref yk, .ref yz, .int (nI (S.length + 1 + 1)), .int (b2 fl), .ref yr])), (yg, .inl (E.2.1, 32, .inl k5)), (yw, .inl (E.2.2.1, 64, .inl k6)), (yh, .inl (E.2.2.1, 8, .inl k7)), (yc, .inl (E.2.1, 32, .inl k8)), (yd, .inl (E.2.1, 32, .inl k9)), (yb, .inl (E.2.1, 512, .inl kb)), (yk, .inl (E.2.1, 1920, .inl (va_cpy f f (S.length * 80) ((S.length + 1) * 80) x.length))), (yz, .inl (E.2.2.1, 24, .inl (upd sz (S.length + 1) (nI x.length))))] := hD
      exact kret (b2 true) [(y0, .inr (7, [.ref ya, .int (nI nt), .ref yo, .int (nI no), .ref ym, .ref yl, .ref yg, .ref yw, .ref yh, .ref yc, .ref yd, .ref yb, .ref yk, .ref yz, .int (nI (S.length + 1 + 1)), .int (b2 fl), .ref yr])), (yg, .inl (E.2.1, 32, .inl k5)), (yw, .inl (E.2.2.1, 64, .inl k6)), (yh, .inl (E.2.2.1, 8, .inl k7)), (yc, .inl (E.2.1, 32, .inl k8)), (yd, .inl (E.2.1, 32, .inl k9)), (yb, .inl (E.2.1, 512, .inl kb)), (yk, .inl (E.2.1, 1920, .inl (va_cpy f f (S.length * 80) ((S.length + 1) * 80) x.length))), (yz, .inl (E.2.2.1, 24, .inl (upd sz (S.length + 1) (nI x.length))))] _ _ _ _ d_Mod_act_312 (⟨_, _, _, _, _, _, _, _, rfl, fB_cpy hB hB, Or.inl ⟨(x :: x :: S), by show pushE _ _ = _; unfold pushE; rw [if_pos (by first | (simp only [List.length_cons]; omega) | omega)], rfl, by first | rfl | (simp only [List.length_cons]; omega) | (simp only [List.length_cons]), rep_cpy hrep rfl rfl hx1.2.1 hx1.2.2, by first | (simp only [List.length_cons]; omega) | (simp only [List.length_cons]) | omega⟩⟩) rfl hP hS
    · refine lv_aload_n hx hb d_Mod_act_0 rfl (lv_at hl 0 rfl) ?_
      refine n_get C fg_Mod_66 hP 0 rfl rfl d_Mod_act_1 ?_
      refine lv_iconst (v := nI 2) hx hb d_Mod_act_4 (by decide) ?_
      refine lv_isub hx hb d_Mod_act_5 ?_
      refine lv_istore_n (lv' := [(3, .int ((nI (S.length + 1)) - (nI 2))), (0, .ref y0), (1, .int (nI 80)), (2, .int ht)]) hx hb d_Mod_act_6 rfl hl (by decide) rfl (fun ls hl => ?_)
      refine lv_aload_n hx hb d_Mod_act_7 rfl (lv_at hl 1 rfl) ?_
      refine n_get C fg_Mod_66 hP 0 rfl rfl d_Mod_act_8 ?_
      refine lv_iconst (v := nI 1) hx hb d_Mod_act_11 (by decide) ?_
      refine lv_isub hx hb d_Mod_act_12 ?_
      refine tope (z := nI S.length) ((pk_sub (by omega)).trans (congrArg nI (by omega))) ?_
      refine lv_istore (lv' := [(4, .int (nI S.length)), (3, .int ((nI (S.length + 1)) - (nI 2))), (0, .ref y0), (1, .int (nI 80)), (2, .int ht)]) hx hb d_Mod_act_13 hl (by decide) rfl (fun ls hl => ?_)
      refine lv_iload_n hx hb d_Mod_act_15 rfl (lv_at hl 3 rfl) ?_
      refine lv_bipush (v := nI 82) hx hb d_Mod_act_16 (by decide) ?_
      refine j_eq C 80 82 rfl rfl (by decide) (by decide) d_Mod_act_18 rfl (fun hc24 => absurd hc24 (by decide)) (fun hc24 => ?_)
      refine lv_iload_n hx hb d_Mod_act_21 rfl (lv_at hl 3 rfl) ?_
      refine lv_bipush (v := nI 83) hx hb d_Mod_act_22 (by decide) ?_
      refine j_eq C 80 83 rfl rfl (by decide) (by decide) d_Mod_act_24 rfl (fun hc25 => absurd hc25 (by decide)) (fun hc25 => ?_)
      refine lv_iload_n hx hb d_Mod_act_27 rfl (lv_at hl 3 rfl) ?_
      refine lv_bipush (v := nI 86) hx hb d_Mod_act_28 (by decide) ?_
      refine j_eq C 80 86 rfl rfl (by decide) (by decide) d_Mod_act_30 rfl (fun hc26 => absurd hc26 (by decide)) (fun hc26 => ?_)
      refine lv_iload_n hx hb d_Mod_act_33 rfl (lv_at hl 3 rfl) ?_
      refine lv_bipush (v := nI 89) hx hb d_Mod_act_34 (by decide) ?_
      refine j_lt C 80 89 rfl rfl (by decide) (by decide) d_Mod_act_36 rfl (fun hc27 => ?_) (fun hc27 => absurd hc27 (by decide))
      refine lv_iload_n hx hb d_Mod_act_45 rfl (lv_at hl 3 rfl) ?_
      refine lv_bipush (v := nI 95) hx hb d_Mod_act_46 (by decide) ?_
      refine j_ne C 80 95 rfl rfl (by decide) (by decide) d_Mod_act_48 rfl (fun hc28 => ?_) (fun hc28 => absurd hc28 (by decide))
      refine lv_iconst (v := nI 0) hx hb d_Mod_act_55 (by decide) ?_
      refine lv_istore (lv' := [(5, .int (nI 0)), (4, .int (nI S.length)), (3, .int ((nI (S.length + 1)) - (nI 2))), (0, .ref y0), (1, .int (nI 80)), (2, .int ht)]) hx hb d_Mod_act_56 hl (by decide) rfl (fun ls hl => ?_)
      refine lv_aload_n hx hb d_Mod_act_58 rfl (lv_at hl 3 rfl) ?_
      refine n_get C fg_Mod_66 hP 0 rfl rfl d_Mod_act_59 ?_
      refine lv_iload hx hb d_Mod_act_62 (lv_at hl 0 rfl) ?_
      refine z_eq C 0 rfl (by omega) d_Mod_act_64 rfl (fun hc29 => ?_) (fun hc29 => absurd hc29 (by omega))
      refine lv_iload_n hx hb d_Mod_act_71 rfl (lv_at hl 4 rfl) ?_
      refine lv_bipush (v := nI 102) hx hb d_Mod_act_72 (by decide) ?_
      refine j_ne C 80 102 rfl rfl (by decide) (by decide) d_Mod_act_74 rfl (fun hc30 => ?_) (fun hc30 => absurd hc30 (by decide))
      refine lv_iconst (v := nI 1) hx hb d_Mod_act_81 (by decide) ?_
      refine j_ge C (S.length + 1) 1 rfl rfl (by omega) (by omega) d_Mod_act_82 rfl (fun hc31 => ?_) (fun hc31 => absurd hc31 (by omega))
      refine lv_iload_n hx hb d_Mod_act_87 rfl (lv_at hl 4 rfl) ?_
      refine lv_bipush (v := nI 88) hx hb d_Mod_act_88 (by decide) ?_
      refine j_lt C 80 88 rfl rfl (by decide) (by decide) d_Mod_act_90 rfl (fun hc32 => ?_) (fun hc32 => absurd hc32 (by decide))
      refine lv_iload_n hx hb d_Mod_act_99 rfl (lv_at hl 4 rfl) ?_
      refine lv_bipush (v := nI 96) hx hb d_Mod_act_100 (by decide) ?_
      refine j_ne C 80 96 rfl rfl (by decide) (by decide) d_Mod_act_102 rfl (fun hc33 => ?_) (fun hc33 => absurd hc33 (by decide))
      refine lv_iconst (v := nI 0) hx hb d_Mod_act_109 (by decide) ?_
      refine lv_istore (lv' := [(6, .int (nI 0)), (5, .int (nI 0)), (4, .int (nI S.length)), (3, .int ((nI (S.length + 1)) - (nI 2))), (0, .ref y0), (1, .int (nI 80)), (2, .int ht)]) hx hb d_Mod_act_110 hl (by decide) rfl (fun ls hl => ?_)
      refine lv_iload hx hb d_Mod_act_112 (lv_at hl 0 rfl) ?_
      refine z_eq C 0 rfl (by omega) d_Mod_act_114 rfl (fun hc34 => ?_) (fun hc34 => absurd hc34 (by omega))
      refine lv_iload hx hb d_Mod_act_145 (lv_at hl 1 rfl) ?_
      refine z_eq C 0 rfl (by omega) d_Mod_act_147 rfl (fun hc35 => ?_) (fun hc35 => absurd hc35 (by omega))
      refine lv_iconst (v := nI 0) hx hb d_Mod_act_163 (by decide) ?_
      refine lv_istore (lv' := [(7, .int (nI 0)), (6, .int (nI 0)), (5, .int (nI 0)), (4, .int (nI S.length)), (3, .int ((nI (S.length + 1)) - (nI 2))), (0, .ref y0), (1, .int (nI 80)), (2, .int ht)]) hx hb d_Mod_act_164 hl (by decide) rfl (fun ls hl => ?_)
      refine lv_iload hx hb d_Mod_act_166 (lv_at hl 1 rfl) ?_
      refine z_eq C 0 rfl (by omega) d_Mod_act_168 rfl (fun hc36 => ?_) (fun hc36 => absurd hc36 (by omega))
      refine lv_iconst (v := nI 0) hx hb d_Mod_act_180 (by decide) ?_
      refine lv_istore (lv' := [(8, .int (nI 0)), (7, .int (nI 0)), (6, .int (nI 0)), (5, .int (nI 0)), (4, .int (nI S.length)), (3, .int ((nI (S.length + 1)) - (nI 2))), (0, .ref y0), (1, .int (nI 80)), (2, .int ht)]) hx hb d_Mod_act_181 hl (by decide) rfl (fun ls hl => ?_)
      refine lv_iload_n hx hb d_Mod_act_183 rfl (lv_at hl 7 rfl) ?_
      refine lv_tableIn hx hb d_Mod_act_184 (by decide) (by decide) rfl rfl ?_
      refine lv_aload_n hx hb d_Mod_act_292 rfl (lv_at hl 6 rfl) ?_
      refine lv_aload_n hx hb d_Mod_act_293 rfl (lv_at hl 6 rfl) ?_
      refine n_get C fg_Mod_41 hP 0 rfl rfl d_Mod_act_294 ?_
      refine lv_bipush (v := nI 80) hx hb d_Mod_act_297 (by decide) ?_
      refine lv_iload hx hb d_Mod_act_299 (lv_at hl 4 rfl) ?_
      refine lv_imul hx hb d_Mod_act_301 ?_
      refine tope (z := nI (S.length * 80)) ((pk_mul _ _).trans (congrArg nI (Nat.mul_comm _ _))) ?_
      refine lv_aload_n hx hb d_Mod_act_302 rfl (lv_at hl 6 rfl) ?_
      refine n_get C fg_Mod_44 hP 0 rfl rfl d_Mod_act_303 ?_
      refine lv_iload hx hb d_Mod_act_306 (lv_at hl 4 rfl) ?_
      refine n_iald C hP 8 rfl S.length rfl (by omega) (by omega) d_Mod_act_308 ?_
      refine tope (z := nI x.length) (hx1.1) ?_
      refine cal_I (As := [.ref yk, .int (nI (S.length * 80)), .int (nI x.length)]) (rest := []) C lk_Mod_70 (c_Mod_pushA_full l E y0 ya yo ym yl yg yw yh yc yd yb yk yz yr nt no (S.length + 1) fl (S.length * 80) x.length f sz (by omega)) (by decide) hP hD hS 0 7 rfl rfl [0, 7, 8] rfl (by decide) hl.1 rfl (Nat.le_of_ble_eq_true rfl) d_Mod_act_309 (fun r37 w1 H locs hp38 hP hD hS => ?_)
      obtain ⟨rfl, rfl⟩ := hp38
      have hP : va_P E.1 clz [(y0, .inr (7, [.ref ya, .int (nI nt), .ref yo, .int (nI no), .ref ym, .ref yl, .ref yg, .ref yw, .ref yh, .ref yc, .ref yd, .ref yb, .ref yk, .ref yz, .int (nI (S.length + 1)), .int (b2 fl), .ref yr])), (yg, .inl (E.2.1, 32, .inl k5)), (yw, .inl (E.2.2.1, 64, .inl k6)), (yh, .inl (E.2.2.1, 8, .inl k7)), (yc, .inl (E.2.1, 32, .inl k8)), (yd, .inl (E.2.1, 32, .inl k9)), (yb, .inl (E.2.1, 512, .inl kb)), (yk, .inl (E.2.1, 1920, .inl f)), (yz, .inl (E.2.2.1, 24, .inl sz))] H := hP
      have hD : va_D A [(y0, .inr (7, [.ref ya, .int (nI nt), .ref yo, .int (nI no), .ref ym, .ref yl, .ref yg, .ref yw, .ref yh, .ref yc, .ref yd, .ref yb, .ref yk, .ref yz, .int (nI (S.length + 1)), .int (b2 fl), .ref yr])), (yg, .inl (E.2.1, 32, .inl k5)), (yw, .inl (E.2.2.1, 64, .inl k6)), (yh, .inl (E.2.2.1, 8, .inl k7)), (yc, .inl (E.2.1, 32, .inl k8)), (yd, .inl (E.2.1, 32, .inl k9)), (yb, .inl (E.2.1, 512, .inl kb)), (yk, .inl (E.2.1, 1920, .inl f)), (yz, .inl (E.2.2.1, 24, .inl sz))] := hD
      exact kret (b2 false) [(y0, .inr (7, [.ref ya, .int (nI nt), .ref yo, .int (nI no), .ref ym, .ref yl, .ref yg, .ref yw, .ref yh, .ref yc, .ref yd, .ref yb, .ref yk, .ref yz, .int (nI (S.length + 1)), .int (b2 fl), .ref yr])), (yg, .inl (E.2.1, 32, .inl k5)), (yw, .inl (E.2.2.1, 64, .inl k6)), (yh, .inl (E.2.2.1, 8, .inl k7)), (yc, .inl (E.2.1, 32, .inl k8)), (yd, .inl (E.2.1, 32, .inl k9)), (yb, .inl (E.2.1, 512, .inl kb)), (yk, .inl (E.2.1, 1920, .inl f)), (yz, .inl (E.2.2.1, 24, .inl sz))] _ _ _ _ d_Mod_act_312 (⟨_, _, _, _, _, _, _, _, rfl, hB, Or.inr ⟨by show pushE _ _ = _; unfold pushE; rw [if_neg (by first | (simp only [List.length_cons]; omega) | omega)], rfl⟩⟩) rfl hP hS

set_option maxHeartbeats 4000000 in
set_option maxRecDepth 100000 in
theorem c_act_81 (l : Launch) (E : En) (y0 ya yo ym yl yg yw yh yc yd yb yk yz yr nt no : Nat) (fl : Bool) (k5 k6 k7 k8 k9 kb f sz : Nat → Int32) (S : Stk) (msg : Byl) (hrep : rep f sz S) (hB : fB f) (hB5 : fB k5) (hlen : S.length ≤ 24) (hm : lay k5 0 msg) (hm32 : msg.length = 32) (ht : Int32) : CtI l y_Mod_act b_Mod_act 11 .boolean (rmd 4) E [.ref y0, .int (nI 81), .int ht] [(y0, .inr (7, [.ref ya, .int (nI nt), .ref yo, .int (nI no), .ref ym, .ref yl, .ref yg, .ref yw, .ref yh, .ref yc, .ref yd, .ref yb, .ref yk, .ref yz, .int (nI S.length), .int (b2 fl), .ref yr])), (yg, .inl (E.2.1, 32, .inl k5)), (yw, .inl (E.2.2.1, 64, .inl k6)), (yh, .inl (E.2.2.1, 8, .inl k7)), (yc, .inl (E.2.1, 32, .inl k8)), (yd, .inl (E.2.1, 32, .inl k9)), (yb, .inl (E.2.1, 512, .inl kb)), (yk, .inl (E.2.1, 1920, .inl f)), (yz, .inl (E.2.2.1, 24, .inl sz))] (stepM E y0 ya yo ym yl yg yw yh yc yd yb yk yz yr nt no fl k5 (actS 81 ht msg S)) := by
  refine CtI.of (by decide) (Nat.le_of_ble_eq_true rfl) (stepM_nar) ?_
  intro p e s m args below meth c A Q H locs ls C hP hD hS hl kret
  have hx := C.1
  have hb := C.2.1
  have hl : lv_has ls 11 [(0, .ref y0), (1, .int (nI 81)), (2, .int ht)] := hl
  rcases S with _ | ⟨x, S⟩
  · have hP : va_P E.1 clz [(y0, .inr (7, [.ref ya, .int (nI nt), .ref yo, .int (nI no), .ref ym, .ref yl, .ref yg, .ref yw, .ref yh, .ref yc, .ref yd, .ref yb, .ref yk, .ref yz, .int (nI 0), .int (b2 fl), .ref yr])), (yg, .inl (E.2.1, 32, .inl k5)), (yw, .inl (E.2.2.1, 64, .inl k6)), (yh, .inl (E.2.2.1, 8, .inl k7)), (yc, .inl (E.2.1, 32, .inl k8)), (yd, .inl (E.2.1, 32, .inl k9)), (yb, .inl (E.2.1, 512, .inl kb)), (yk, .inl (E.2.1, 1920, .inl f)), (yz, .inl (E.2.2.1, 24, .inl sz))] H := hP
    have hD : va_D A [(y0, .inr (7, [.ref ya, .int (nI nt), .ref yo, .int (nI no), .ref ym, .ref yl, .ref yg, .ref yw, .ref yh, .ref yc, .ref yd, .ref yb, .ref yk, .ref yz, .int (nI 0), .int (b2 fl), .ref yr])), (yg, .inl (E.2.1, 32, .inl k5)), (yw, .inl (E.2.2.1, 64, .inl k6)), (yh, .inl (E.2.2.1, 8, .inl k7)), (yc, .inl (E.2.1, 32, .inl k8)), (yd, .inl (E.2.1, 32, .inl k9)), (yb, .inl (E.2.1, 512, .inl kb)), (yk, .inl (E.2.1, 1920, .inl f)), (yz, .inl (E.2.2.1, 24, .inl sz))] := hD
    refine lv_aload_n hx hb d_Mod_act_0 rfl (lv_at hl 0 rfl) ?_
    refine n_get C fg_Mod_66 hP 0 rfl rfl d_Mod_act_1 ?_
    refine lv_iconst (v := nI 2) hx hb d_Mod_act_4 (by decide) ?_
    refine lv_isub hx hb d_Mod_act_5 ?_
    refine tope (z := (-2)) (by decide) ?_
    refine lv_istore_n (lv' := [(3, .int (-2)), (0, .ref y0), (1, .int (nI 81)), (2, .int ht)]) hx hb d_Mod_act_6 rfl hl (by decide) rfl (fun ls hl => ?_)
    refine lv_aload_n hx hb d_Mod_act_7 rfl (lv_at hl 1 rfl) ?_
    refine n_get C fg_Mod_66 hP 0 rfl rfl d_Mod_act_8 ?_
    refine lv_iconst (v := nI 1) hx hb d_Mod_act_11 (by decide) ?_
    refine lv_isub hx hb d_Mod_act_12 ?_
    refine tope (z := (-1)) (by decide) ?_
    refine lv_istore (lv' := [(4, .int (-1)), (3, .int (-2)), (0, .ref y0), (1, .int (nI 81)), (2, .int ht)]) hx hb d_Mod_act_13 hl (by decide) rfl (fun ls hl => ?_)
    refine lv_iload_n hx hb d_Mod_act_15 rfl (lv_at hl 3 rfl) ?_
    refine lv_bipush (v := nI 82) hx hb d_Mod_act_16 (by decide) ?_
    refine j_eq C 81 82 rfl rfl (by decide) (by decide) d_Mod_act_18 rfl (fun hc1 => absurd hc1 (by decide)) (fun hc1 => ?_)
    refine lv_iload_n hx hb d_Mod_act_21 rfl (lv_at hl 3 rfl) ?_
    refine lv_bipush (v := nI 83) hx hb d_Mod_act_22 (by decide) ?_
    refine j_eq C 81 83 rfl rfl (by decide) (by decide) d_Mod_act_24 rfl (fun hc2 => absurd hc2 (by decide)) (fun hc2 => ?_)
    refine lv_iload_n hx hb d_Mod_act_27 rfl (lv_at hl 3 rfl) ?_
    refine lv_bipush (v := nI 86) hx hb d_Mod_act_28 (by decide) ?_
    refine j_eq C 81 86 rfl rfl (by decide) (by decide) d_Mod_act_30 rfl (fun hc3 => absurd hc3 (by decide)) (fun hc3 => ?_)
    refine lv_iload_n hx hb d_Mod_act_33 rfl (lv_at hl 3 rfl) ?_
    refine lv_bipush (v := nI 89) hx hb d_Mod_act_34 (by decide) ?_
    refine j_lt C 81 89 rfl rfl (by decide) (by decide) d_Mod_act_36 rfl (fun hc4 => ?_) (fun hc4 => absurd hc4 (by decide))
    refine lv_iload_n hx hb d_Mod_act_45 rfl (lv_at hl 3 rfl) ?_
    refine lv_bipush (v := nI 95) hx hb d_Mod_act_46 (by decide) ?_
    refine j_ne C 81 95 rfl rfl (by decide) (by decide) d_Mod_act_48 rfl (fun hc5 => ?_) (fun hc5 => absurd hc5 (by decide))
    refine lv_iconst (v := nI 0) hx hb d_Mod_act_55 (by decide) ?_
    refine lv_istore (lv' := [(5, .int (nI 0)), (4, .int (-1)), (3, .int (-2)), (0, .ref y0), (1, .int (nI 81)), (2, .int ht)]) hx hb d_Mod_act_56 hl (by decide) rfl (fun ls hl => ?_)
    refine lv_aload_n hx hb d_Mod_act_58 rfl (lv_at hl 3 rfl) ?_
    refine n_get C fg_Mod_66 hP 0 rfl rfl d_Mod_act_59 ?_
    refine lv_iload hx hb d_Mod_act_62 (lv_at hl 0 rfl) ?_
    refine z_eq C 0 rfl (by omega) d_Mod_act_64 rfl (fun hc6 => ?_) (fun hc6 => absurd hc6 (by omega))
    refine lv_iload_n hx hb d_Mod_act_71 rfl (lv_at hl 4 rfl) ?_
    refine lv_bipush (v := nI 102) hx hb d_Mod_act_72 (by decide) ?_
    refine j_ne C 81 102 rfl rfl (by decide) (by decide) d_Mod_act_74 rfl (fun hc7 => ?_) (fun hc7 => absurd hc7 (by decide))
    refine lv_iconst (v := nI 1) hx hb d_Mod_act_81 (by decide) ?_
    refine j_ge C 0 1 rfl rfl (by decide) (by decide) d_Mod_act_82 rfl (fun hc8 => absurd hc8 (by decide)) (fun hc8 => ?_)
    refine lv_iconst (v := nI 0) hx hb d_Mod_act_85 (by decide) ?_
    exact kret (nI 0) [(y0, .inr (7, [.ref ya, .int (nI nt), .ref yo, .int (nI no), .ref ym, .ref yl, .ref yg, .ref yw, .ref yh, .ref yc, .ref yd, .ref yb, .ref yk, .ref yz, .int (nI 0), .int (b2 fl), .ref yr])), (yg, .inl (E.2.1, 32, .inl k5)), (yw, .inl (E.2.2.1, 64, .inl k6)), (yh, .inl (E.2.2.1, 8, .inl k7)), (yc, .inl (E.2.1, 32, .inl k8)), (yd, .inl (E.2.1, 32, .inl k9)), (yb, .inl (E.2.1, 512, .inl kb)), (yk, .inl (E.2.1, 1920, .inl f)), (yz, .inl (E.2.2.1, 24, .inl sz))] _ _ _ _ d_Mod_act_86 (⟨_, _, _, _, _, _, _, _, rfl, hB, Or.inr ⟨rfl, rfl⟩⟩) rfl hP hS
  · have hx1 : sz S.length = nI x.length ∧ x.length ≤ 80 ∧ lay f (S.length * 80) x := rep_top hrep
    have hr0 : rep f sz S := rep_tail hrep
    have hlen : S.length + 1 ≤ 24 := hlen
    have hP : va_P E.1 clz [(y0, .inr (7, [.ref ya, .int (nI nt), .ref yo, .int (nI no), .ref ym, .ref yl, .ref yg, .ref yw, .ref yh, .ref yc, .ref yd, .ref yb, .ref yk, .ref yz, .int (nI (S.length + 1)), .int (b2 fl), .ref yr])), (yg, .inl (E.2.1, 32, .inl k5)), (yw, .inl (E.2.2.1, 64, .inl k6)), (yh, .inl (E.2.2.1, 8, .inl k7)), (yc, .inl (E.2.1, 32, .inl k8)), (yd, .inl (E.2.1, 32, .inl k9)), (yb, .inl (E.2.1, 512, .inl kb)), (yk, .inl (E.2.1, 1920, .inl f)), (yz, .inl (E.2.2.1, 24, .inl sz))] H := hP
    have hD : va_D A [(y0, .inr (7, [.ref ya, .int (nI nt), .ref yo, .int (nI no), .ref ym, .ref yl, .ref yg, .ref yw, .ref yh, .ref yc, .ref yd, .ref yb, .ref yk, .ref yz, .int (nI (S.length + 1)), .int (b2 fl), .ref yr])), (yg, .inl (E.2.1, 32, .inl k5)), (yw, .inl (E.2.2.1, 64, .inl k6)), (yh, .inl (E.2.2.1, 8, .inl k7)), (yc, .inl (E.2.1, 32, .inl k8)), (yd, .inl (E.2.1, 32, .inl k9)), (yb, .inl (E.2.1, 512, .inl kb)), (yk, .inl (E.2.1, 1920, .inl f)), (yz, .inl (E.2.2.1, 24, .inl sz))] := hD
    refine lv_aload_n hx hb d_Mod_act_0 rfl (lv_at hl 0 rfl) ?_
    refine n_get C fg_Mod_66 hP 0 rfl rfl d_Mod_act_1 ?_
    refine lv_iconst (v := nI 2) hx hb d_Mod_act_4 (by decide) ?_
    refine lv_isub hx hb d_Mod_act_5 ?_
    refine lv_istore_n (lv' := [(3, .int ((nI (S.length + 1)) - (nI 2))), (0, .ref y0), (1, .int (nI 81)), (2, .int ht)]) hx hb d_Mod_act_6 rfl hl (by decide) rfl (fun ls hl => ?_)
    refine lv_aload_n hx hb d_Mod_act_7 rfl (lv_at hl 1 rfl) ?_
    refine n_get C fg_Mod_66 hP 0 rfl rfl d_Mod_act_8 ?_
    refine lv_iconst (v := nI 1) hx hb d_Mod_act_11 (by decide) ?_
    refine lv_isub hx hb d_Mod_act_12 ?_
    refine tope (z := nI S.length) ((pk_sub (by omega)).trans (congrArg nI (by omega))) ?_
    refine lv_istore (lv' := [(4, .int (nI S.length)), (3, .int ((nI (S.length + 1)) - (nI 2))), (0, .ref y0), (1, .int (nI 81)), (2, .int ht)]) hx hb d_Mod_act_13 hl (by decide) rfl (fun ls hl => ?_)
    refine lv_iload_n hx hb d_Mod_act_15 rfl (lv_at hl 3 rfl) ?_
    refine lv_bipush (v := nI 82) hx hb d_Mod_act_16 (by decide) ?_
    refine j_eq C 81 82 rfl rfl (by decide) (by decide) d_Mod_act_18 rfl (fun hc9 => absurd hc9 (by decide)) (fun hc9 => ?_)
    refine lv_iload_n hx hb d_Mod_act_21 rfl (lv_at hl 3 rfl) ?_
    refine lv_bipush (v := nI 83) hx hb d_Mod_act_22 (by decide) ?_
    refine j_eq C 81 83 rfl rfl (by decide) (by decide) d_Mod_act_24 rfl (fun hc10 => absurd hc10 (by decide)) (fun hc10 => ?_)
    refine lv_iload_n hx hb d_Mod_act_27 rfl (lv_at hl 3 rfl) ?_
    refine lv_bipush (v := nI 86) hx hb d_Mod_act_28 (by decide) ?_
    refine j_eq C 81 86 rfl rfl (by decide) (by decide) d_Mod_act_30 rfl (fun hc11 => absurd hc11 (by decide)) (fun hc11 => ?_)
    refine lv_iload_n hx hb d_Mod_act_33 rfl (lv_at hl 3 rfl) ?_
    refine lv_bipush (v := nI 89) hx hb d_Mod_act_34 (by decide) ?_
    refine j_lt C 81 89 rfl rfl (by decide) (by decide) d_Mod_act_36 rfl (fun hc12 => ?_) (fun hc12 => absurd hc12 (by decide))
    refine lv_iload_n hx hb d_Mod_act_45 rfl (lv_at hl 3 rfl) ?_
    refine lv_bipush (v := nI 95) hx hb d_Mod_act_46 (by decide) ?_
    refine j_ne C 81 95 rfl rfl (by decide) (by decide) d_Mod_act_48 rfl (fun hc13 => ?_) (fun hc13 => absurd hc13 (by decide))
    refine lv_iconst (v := nI 0) hx hb d_Mod_act_55 (by decide) ?_
    refine lv_istore (lv' := [(5, .int (nI 0)), (4, .int (nI S.length)), (3, .int ((nI (S.length + 1)) - (nI 2))), (0, .ref y0), (1, .int (nI 81)), (2, .int ht)]) hx hb d_Mod_act_56 hl (by decide) rfl (fun ls hl => ?_)
    refine lv_aload_n hx hb d_Mod_act_58 rfl (lv_at hl 3 rfl) ?_
    refine n_get C fg_Mod_66 hP 0 rfl rfl d_Mod_act_59 ?_
    refine lv_iload hx hb d_Mod_act_62 (lv_at hl 0 rfl) ?_
    refine z_eq C 0 rfl (by omega) d_Mod_act_64 rfl (fun hc14 => ?_) (fun hc14 => absurd hc14 (by omega))
    refine lv_iload_n hx hb d_Mod_act_71 rfl (lv_at hl 4 rfl) ?_
    refine lv_bipush (v := nI 102) hx hb d_Mod_act_72 (by decide) ?_
    refine j_ne C 81 102 rfl rfl (by decide) (by decide) d_Mod_act_74 rfl (fun hc15 => ?_) (fun hc15 => absurd hc15 (by decide))
    refine lv_iconst (v := nI 1) hx hb d_Mod_act_81 (by decide) ?_
    refine j_ge C (S.length + 1) 1 rfl rfl (by omega) (by omega) d_Mod_act_82 rfl (fun hc16 => ?_) (fun hc16 => absurd hc16 (by omega))
    refine lv_iload_n hx hb d_Mod_act_87 rfl (lv_at hl 4 rfl) ?_
    refine lv_bipush (v := nI 88) hx hb d_Mod_act_88 (by decide) ?_
    refine j_lt C 81 88 rfl rfl (by decide) (by decide) d_Mod_act_90 rfl (fun hc17 => ?_) (fun hc17 => absurd hc17 (by decide))
    refine lv_iload_n hx hb d_Mod_act_99 rfl (lv_at hl 4 rfl) ?_
    refine lv_bipush (v := nI 96) hx hb d_Mod_act_100 (by decide) ?_
    refine j_ne C 81 96 rfl rfl (by decide) (by decide) d_Mod_act_102 rfl (fun hc18 => ?_) (fun hc18 => absurd hc18 (by decide))
    refine lv_iconst (v := nI 0) hx hb d_Mod_act_109 (by decide) ?_
    refine lv_istore (lv' := [(6, .int (nI 0)), (5, .int (nI 0)), (4, .int (nI S.length)), (3, .int ((nI (S.length + 1)) - (nI 2))), (0, .ref y0), (1, .int (nI 81)), (2, .int ht)]) hx hb d_Mod_act_110 hl (by decide) rfl (fun ls hl => ?_)
    refine lv_iload hx hb d_Mod_act_112 (lv_at hl 0 rfl) ?_
    refine z_eq C 0 rfl (by omega) d_Mod_act_114 rfl (fun hc19 => ?_) (fun hc19 => absurd hc19 (by omega))
    refine lv_iload hx hb d_Mod_act_145 (lv_at hl 1 rfl) ?_
    refine z_eq C 0 rfl (by omega) d_Mod_act_147 rfl (fun hc20 => ?_) (fun hc20 => absurd hc20 (by omega))
    refine lv_iconst (v := nI 0) hx hb d_Mod_act_163 (by decide) ?_
    refine lv_istore (lv' := [(7, .int (nI 0)), (6, .int (nI 0)), (5, .int (nI 0)), (4, .int (nI S.length)), (3, .int ((nI (S.length + 1)) - (nI 2))), (0, .ref y0), (1, .int (nI 81)), (2, .int ht)]) hx hb d_Mod_act_164 hl (by decide) rfl (fun ls hl => ?_)
    refine lv_iload hx hb d_Mod_act_166 (lv_at hl 1 rfl) ?_
    refine z_eq C 0 rfl (by omega) d_Mod_act_168 rfl (fun hc21 => ?_) (fun hc21 => absurd hc21 (by omega))
    refine lv_iconst (v := nI 0) hx hb d_Mod_act_180 (by decide) ?_
    refine lv_istore (lv' := [(8, .int (nI 0)), (7, .int (nI 0)), (6, .int (nI 0)), (5, .int (nI 0)), (4, .int (nI S.length)), (3, .int ((nI (S.length + 1)) - (nI 2))), (0, .ref y0), (1, .int (nI 81)), (2, .int ht)]) hx hb d_Mod_act_181 hl (by decide) rfl (fun ls hl => ?_)
    refine lv_iload_n hx hb d_Mod_act_183 rfl (lv_at hl 7 rfl) ?_
    refine lv_tableIn hx hb d_Mod_act_184 (by decide) (by decide) rfl rfl ?_
    refine lv_aload_n hx hb d_Mod_act_313 rfl (lv_at hl 6 rfl) ?_
    refine lv_dup hx hb d_Mod_act_314 rfl ?_
    refine n_get C fg_Mod_66 hP 0 rfl rfl d_Mod_act_315 ?_
    refine lv_iconst (v := nI 1) hx hb d_Mod_act_318 (by decide) ?_
    refine lv_isub hx hb d_Mod_act_319 ?_
    refine tope (z := nI S.length) ((pk_sub (by omega)).trans (congrArg nI (by omega))) ?_
    refine n_put (v := .int (nI S.length)) C fp_Mod_66 hP hD hS 0 rfl (rfl) rfl (Nat.le_of_ble_eq_true rfl) d_Mod_act_320 (fun H locs hP hD hS => ?_)
    have hP : va_P E.1 clz [(y0, .inr (7, [.ref ya, .int (nI nt), .ref yo, .int (nI no), .ref ym, .ref yl, .ref yg, .ref yw, .ref yh, .ref yc, .ref yd, .ref yb, .ref yk, .ref yz, .int (nI S.length), .int (b2 fl), .ref yr])), (yg, .inl (E.2.1, 32, .inl k5)), (yw, .inl (E.2.2.1, 64, .inl k6)), (yh, .inl (E.2.2.1, 8, .inl k7)), (yc, .inl (E.2.1, 32, .inl k8)), (yd, .inl (E.2.1, 32, .inl k9)), (yb, .inl (E.2.1, 512, .inl kb)), (yk, .inl (E.2.1, 1920, .inl f)), (yz, .inl (E.2.2.1, 24, .inl sz))] H := hP
    have hD : va_D A [(y0, .inr (7, [.ref ya, .int (nI nt), .ref yo, .int (nI no), .ref ym, .ref yl, .ref yg, .ref yw, .ref yh, .ref yc, .ref yd, .ref yb, .ref yk, .ref yz, .int (nI S.length), .int (b2 fl), .ref yr])), (yg, .inl (E.2.1, 32, .inl k5)), (yw, .inl (E.2.2.1, 64, .inl k6)), (yh, .inl (E.2.2.1, 8, .inl k7)), (yc, .inl (E.2.1, 32, .inl k8)), (yd, .inl (E.2.1, 32, .inl k9)), (yb, .inl (E.2.1, 512, .inl kb)), (yk, .inl (E.2.1, 1920, .inl f)), (yz, .inl (E.2.2.1, 24, .inl sz))] := hD
    refine lv_iconst (v := nI 1) hx hb d_Mod_act_323 (by decide) ?_
    exact kret (nI 1) [(y0, .inr (7, [.ref ya, .int (nI nt), .ref yo, .int (nI no), .ref ym, .ref yl, .ref yg, .ref yw, .ref yh, .ref yc, .ref yd, .ref yb, .ref yk, .ref yz, .int (nI S.length), .int (b2 fl), .ref yr])), (yg, .inl (E.2.1, 32, .inl k5)), (yw, .inl (E.2.2.1, 64, .inl k6)), (yh, .inl (E.2.2.1, 8, .inl k7)), (yc, .inl (E.2.1, 32, .inl k8)), (yd, .inl (E.2.1, 32, .inl k9)), (yb, .inl (E.2.1, 512, .inl kb)), (yk, .inl (E.2.1, 1920, .inl f)), (yz, .inl (E.2.2.1, 24, .inl sz))] _ _ _ _ d_Mod_act_324 (⟨_, _, _, _, _, _, _, _, rfl, hB, Or.inl ⟨S, rfl, rfl, by first | rfl | (simp only [List.length_cons]; omega) | (simp only [List.length_cons]), hr0, by first | (simp only [List.length_cons]; omega) | (simp only [List.length_cons]) | omega⟩⟩) rfl hP hS

set_option maxHeartbeats 4000000 in
set_option maxRecDepth 100000 in
theorem c_act_83 (l : Launch) (E : En) (y0 ya yo ym yl yg yw yh yc yd yb yk yz yr nt no : Nat) (fl : Bool) (k5 k6 k7 k8 k9 kb f sz : Nat → Int32) (S : Stk) (msg : Byl) (hrep : rep f sz S) (hB : fB f) (hB5 : fB k5) (hlen : S.length ≤ 24) (hm : lay k5 0 msg) (hm32 : msg.length = 32) (ht : Int32) : CtI l y_Mod_act b_Mod_act 11 .boolean (rmd 4) E [.ref y0, .int (nI 83), .int ht] [(y0, .inr (7, [.ref ya, .int (nI nt), .ref yo, .int (nI no), .ref ym, .ref yl, .ref yg, .ref yw, .ref yh, .ref yc, .ref yd, .ref yb, .ref yk, .ref yz, .int (nI S.length), .int (b2 fl), .ref yr])), (yg, .inl (E.2.1, 32, .inl k5)), (yw, .inl (E.2.2.1, 64, .inl k6)), (yh, .inl (E.2.2.1, 8, .inl k7)), (yc, .inl (E.2.1, 32, .inl k8)), (yd, .inl (E.2.1, 32, .inl k9)), (yb, .inl (E.2.1, 512, .inl kb)), (yk, .inl (E.2.1, 1920, .inl f)), (yz, .inl (E.2.2.1, 24, .inl sz))] (stepM E y0 ya yo ym yl yg yw yh yc yd yb yk yz yr nt no fl k5 (actS 83 ht msg S)) := by
  refine CtI.of (by decide) (Nat.le_of_ble_eq_true rfl) (stepM_nar) ?_
  intro p e s m args below meth c A Q H locs ls C hP hD hS hl kret
  have hx := C.1
  have hb := C.2.1
  have hl : lv_has ls 11 [(0, .ref y0), (1, .int (nI 83)), (2, .int ht)] := hl
  rcases S with _ | ⟨x, _ | ⟨y, S⟩⟩
  · have hP : va_P E.1 clz [(y0, .inr (7, [.ref ya, .int (nI nt), .ref yo, .int (nI no), .ref ym, .ref yl, .ref yg, .ref yw, .ref yh, .ref yc, .ref yd, .ref yb, .ref yk, .ref yz, .int (nI 0), .int (b2 fl), .ref yr])), (yg, .inl (E.2.1, 32, .inl k5)), (yw, .inl (E.2.2.1, 64, .inl k6)), (yh, .inl (E.2.2.1, 8, .inl k7)), (yc, .inl (E.2.1, 32, .inl k8)), (yd, .inl (E.2.1, 32, .inl k9)), (yb, .inl (E.2.1, 512, .inl kb)), (yk, .inl (E.2.1, 1920, .inl f)), (yz, .inl (E.2.2.1, 24, .inl sz))] H := hP
    have hD : va_D A [(y0, .inr (7, [.ref ya, .int (nI nt), .ref yo, .int (nI no), .ref ym, .ref yl, .ref yg, .ref yw, .ref yh, .ref yc, .ref yd, .ref yb, .ref yk, .ref yz, .int (nI 0), .int (b2 fl), .ref yr])), (yg, .inl (E.2.1, 32, .inl k5)), (yw, .inl (E.2.2.1, 64, .inl k6)), (yh, .inl (E.2.2.1, 8, .inl k7)), (yc, .inl (E.2.1, 32, .inl k8)), (yd, .inl (E.2.1, 32, .inl k9)), (yb, .inl (E.2.1, 512, .inl kb)), (yk, .inl (E.2.1, 1920, .inl f)), (yz, .inl (E.2.2.1, 24, .inl sz))] := hD
    refine lv_aload_n hx hb d_Mod_act_0 rfl (lv_at hl 0 rfl) ?_
    refine n_get C fg_Mod_66 hP 0 rfl rfl d_Mod_act_1 ?_
    refine lv_iconst (v := nI 2) hx hb d_Mod_act_4 (by decide) ?_
    refine lv_isub hx hb d_Mod_act_5 ?_
    refine tope (z := (-2)) (by decide) ?_
    refine lv_istore_n (lv' := [(3, .int (-2)), (0, .ref y0), (1, .int (nI 83)), (2, .int ht)]) hx hb d_Mod_act_6 rfl hl (by decide) rfl (fun ls hl => ?_)
    refine lv_aload_n hx hb d_Mod_act_7 rfl (lv_at hl 1 rfl) ?_
    refine n_get C fg_Mod_66 hP 0 rfl rfl d_Mod_act_8 ?_
    refine lv_iconst (v := nI 1) hx hb d_Mod_act_11 (by decide) ?_
    refine lv_isub hx hb d_Mod_act_12 ?_
    refine tope (z := (-1)) (by decide) ?_
    refine lv_istore (lv' := [(4, .int (-1)), (3, .int (-2)), (0, .ref y0), (1, .int (nI 83)), (2, .int ht)]) hx hb d_Mod_act_13 hl (by decide) rfl (fun ls hl => ?_)
    refine lv_iload_n hx hb d_Mod_act_15 rfl (lv_at hl 3 rfl) ?_
    refine lv_bipush (v := nI 82) hx hb d_Mod_act_16 (by decide) ?_
    refine j_eq C 83 82 rfl rfl (by decide) (by decide) d_Mod_act_18 rfl (fun hc1 => absurd hc1 (by decide)) (fun hc1 => ?_)
    refine lv_iload_n hx hb d_Mod_act_21 rfl (lv_at hl 3 rfl) ?_
    refine lv_bipush (v := nI 83) hx hb d_Mod_act_22 (by decide) ?_
    refine j_eq C 83 83 rfl rfl (by decide) (by decide) d_Mod_act_24 rfl (fun hc2 => ?_) (fun hc2 => absurd hc2 (by decide))
    refine lv_iconst (v := nI 1) hx hb d_Mod_act_51 (by decide) ?_
    refine lv_goto hx hb d_Mod_act_52 rfl ?_
    refine lv_istore (lv' := [(5, .int (nI 1)), (4, .int (-1)), (3, .int (-2)), (0, .ref y0), (1, .int (nI 83)), (2, .int ht)]) hx hb d_Mod_act_56 hl (by decide) rfl (fun ls hl => ?_)
    refine lv_aload_n hx hb d_Mod_act_58 rfl (lv_at hl 3 rfl) ?_
    refine n_get C fg_Mod_66 hP 0 rfl rfl d_Mod_act_59 ?_
    refine lv_iload hx hb d_Mod_act_62 (lv_at hl 0 rfl) ?_
    refine z_eq C 1 rfl (by omega) d_Mod_act_64 rfl (fun hc3 => absurd hc3 (by omega)) (fun hc3 => ?_)
    refine lv_iconst (v := nI 2) hx hb d_Mod_act_67 (by decide) ?_
    refine lv_goto hx hb d_Mod_act_68 rfl ?_
    refine j_ge C 0 2 rfl rfl (by decide) (by decide) d_Mod_act_82 rfl (fun hc4 => absurd hc4 (by decide)) (fun hc4 => ?_)
    refine lv_iconst (v := nI 0) hx hb d_Mod_act_85 (by decide) ?_
    exact kret (nI 0) [(y0, .inr (7, [.ref ya, .int (nI nt), .ref yo, .int (nI no), .ref ym, .ref yl, .ref yg, .ref yw, .ref yh, .ref yc, .ref yd, .ref yb, .ref yk, .ref yz, .int (nI 0), .int (b2 fl), .ref yr])), (yg, .inl (E.2.1, 32, .inl k5)), (yw, .inl (E.2.2.1, 64, .inl k6)), (yh, .inl (E.2.2.1, 8, .inl k7)), (yc, .inl (E.2.1, 32, .inl k8)), (yd, .inl (E.2.1, 32, .inl k9)), (yb, .inl (E.2.1, 512, .inl kb)), (yk, .inl (E.2.1, 1920, .inl f)), (yz, .inl (E.2.2.1, 24, .inl sz))] _ _ _ _ d_Mod_act_86 (⟨_, _, _, _, _, _, _, _, rfl, hB, Or.inr ⟨rfl, rfl⟩⟩) rfl hP hS
  · have hP : va_P E.1 clz [(y0, .inr (7, [.ref ya, .int (nI nt), .ref yo, .int (nI no), .ref ym, .ref yl, .ref yg, .ref yw, .ref yh, .ref yc, .ref yd, .ref yb, .ref yk, .ref yz, .int (nI 1), .int (b2 fl), .ref yr])), (yg, .inl (E.2.1, 32, .inl k5)), (yw, .inl (E.2.2.1, 64, .inl k6)), (yh, .inl (E.2.2.1, 8, .inl k7)), (yc, .inl (E.2.1, 32, .inl k8)), (yd, .inl (E.2.1, 32, .inl k9)), (yb, .inl (E.2.1, 512, .inl kb)), (yk, .inl (E.2.1, 1920, .inl f)), (yz, .inl (E.2.2.1, 24, .inl sz))] H := hP
    have hD : va_D A [(y0, .inr (7, [.ref ya, .int (nI nt), .ref yo, .int (nI no), .ref ym, .ref yl, .ref yg, .ref yw, .ref yh, .ref yc, .ref yd, .ref yb, .ref yk, .ref yz, .int (nI 1), .int (b2 fl), .ref yr])), (yg, .inl (E.2.1, 32, .inl k5)), (yw, .inl (E.2.2.1, 64, .inl k6)), (yh, .inl (E.2.2.1, 8, .inl k7)), (yc, .inl (E.2.1, 32, .inl k8)), (yd, .inl (E.2.1, 32, .inl k9)), (yb, .inl (E.2.1, 512, .inl kb)), (yk, .inl (E.2.1, 1920, .inl f)), (yz, .inl (E.2.2.1, 24, .inl sz))] := hD
    refine lv_aload_n hx hb d_Mod_act_0 rfl (lv_at hl 0 rfl) ?_
    refine n_get C fg_Mod_66 hP 0 rfl rfl d_Mod_act_1 ?_
    refine lv_iconst (v := nI 2) hx hb d_Mod_act_4 (by decide) ?_
    refine lv_isub hx hb d_Mod_act_5 ?_
    refine tope (z := (-1)) (by decide) ?_
    refine lv_istore_n (lv' := [(3, .int (-1)), (0, .ref y0), (1, .int (nI 83)), (2, .int ht)]) hx hb d_Mod_act_6 rfl hl (by decide) rfl (fun ls hl => ?_)
    refine lv_aload_n hx hb d_Mod_act_7 rfl (lv_at hl 1 rfl) ?_
    refine n_get C fg_Mod_66 hP 0 rfl rfl d_Mod_act_8 ?_
    refine lv_iconst (v := nI 1) hx hb d_Mod_act_11 (by decide) ?_
    refine lv_isub hx hb d_Mod_act_12 ?_
    refine tope (z := nI 0) (pk_sub (by omega)) ?_
    refine lv_istore (lv' := [(4, .int (nI 0)), (3, .int (-1)), (0, .ref y0), (1, .int (nI 83)), (2, .int ht)]) hx hb d_Mod_act_13 hl (by decide) rfl (fun ls hl => ?_)
    refine lv_iload_n hx hb d_Mod_act_15 rfl (lv_at hl 3 rfl) ?_
    refine lv_bipush (v := nI 82) hx hb d_Mod_act_16 (by decide) ?_
    refine j_eq C 83 82 rfl rfl (by decide) (by decide) d_Mod_act_18 rfl (fun hc5 => absurd hc5 (by decide)) (fun hc5 => ?_)
    refine lv_iload_n hx hb d_Mod_act_21 rfl (lv_at hl 3 rfl) ?_
    refine lv_bipush (v := nI 83) hx hb d_Mod_act_22 (by decide) ?_
    refine j_eq C 83 83 rfl rfl (by decide) (by decide) d_Mod_act_24 rfl (fun hc6 => ?_) (fun hc6 => absurd hc6 (by decide))
    refine lv_iconst (v := nI 1) hx hb d_Mod_act_51 (by decide) ?_
    refine lv_goto hx hb d_Mod_act_52 rfl ?_
    refine lv_istore (lv' := [(5, .int (nI 1)), (4, .int (nI 0)), (3, .int (-1)), (0, .ref y0), (1, .int (nI 83)), (2, .int ht)]) hx hb d_Mod_act_56 hl (by decide) rfl (fun ls hl => ?_)
    refine lv_aload_n hx hb d_Mod_act_58 rfl (lv_at hl 3 rfl) ?_
    refine n_get C fg_Mod_66 hP 0 rfl rfl d_Mod_act_59 ?_
    refine lv_iload hx hb d_Mod_act_62 (lv_at hl 0 rfl) ?_
    refine z_eq C 1 rfl (by omega) d_Mod_act_64 rfl (fun hc7 => absurd hc7 (by omega)) (fun hc7 => ?_)
    refine lv_iconst (v := nI 2) hx hb d_Mod_act_67 (by decide) ?_
    refine lv_goto hx hb d_Mod_act_68 rfl ?_
    refine j_ge C 1 2 rfl rfl (by decide) (by decide) d_Mod_act_82 rfl (fun hc8 => absurd hc8 (by decide)) (fun hc8 => ?_)
    refine lv_iconst (v := nI 0) hx hb d_Mod_act_85 (by decide) ?_
    exact kret (nI 0) [(y0, .inr (7, [.ref ya, .int (nI nt), .ref yo, .int (nI no), .ref ym, .ref yl, .ref yg, .ref yw, .ref yh, .ref yc, .ref yd, .ref yb, .ref yk, .ref yz, .int (nI 1), .int (b2 fl), .ref yr])), (yg, .inl (E.2.1, 32, .inl k5)), (yw, .inl (E.2.2.1, 64, .inl k6)), (yh, .inl (E.2.2.1, 8, .inl k7)), (yc, .inl (E.2.1, 32, .inl k8)), (yd, .inl (E.2.1, 32, .inl k9)), (yb, .inl (E.2.1, 512, .inl kb)), (yk, .inl (E.2.1, 1920, .inl f)), (yz, .inl (E.2.2.1, 24, .inl sz))] _ _ _ _ d_Mod_act_86 (⟨_, _, _, _, _, _, _, _, rfl, hB, Or.inr ⟨rfl, rfl⟩⟩) rfl hP hS
  · have hx1 : sz (S.length + 1) = nI x.length ∧ x.length ≤ 80 ∧ lay f ((S.length + 1) * 80) x := rep_top hrep
    have hy1 : sz S.length = nI y.length ∧ y.length ≤ 80 ∧ lay f (S.length * 80) y := rep_top (rep_tail hrep)
    have hr0 : rep f sz S := rep_tail (rep_tail hrep)
    have hlen : S.length + 2 ≤ 24 := hlen
    have hP : va_P E.1 clz [(y0, .inr (7, [.ref ya, .int (nI nt), .ref yo, .int (nI no), .ref ym, .ref yl, .ref yg, .ref yw, .ref yh, .ref yc, .ref yd, .ref yb, .ref yk, .ref yz, .int (nI (S.length + 2)), .int (b2 fl), .ref yr])), (yg, .inl (E.2.1, 32, .inl k5)), (yw, .inl (E.2.2.1, 64, .inl k6)), (yh, .inl (E.2.2.1, 8, .inl k7)), (yc, .inl (E.2.1, 32, .inl k8)), (yd, .inl (E.2.1, 32, .inl k9)), (yb, .inl (E.2.1, 512, .inl kb)), (yk, .inl (E.2.1, 1920, .inl f)), (yz, .inl (E.2.2.1, 24, .inl sz))] H := hP
    have hD : va_D A [(y0, .inr (7, [.ref ya, .int (nI nt), .ref yo, .int (nI no), .ref ym, .ref yl, .ref yg, .ref yw, .ref yh, .ref yc, .ref yd, .ref yb, .ref yk, .ref yz, .int (nI (S.length + 2)), .int (b2 fl), .ref yr])), (yg, .inl (E.2.1, 32, .inl k5)), (yw, .inl (E.2.2.1, 64, .inl k6)), (yh, .inl (E.2.2.1, 8, .inl k7)), (yc, .inl (E.2.1, 32, .inl k8)), (yd, .inl (E.2.1, 32, .inl k9)), (yb, .inl (E.2.1, 512, .inl kb)), (yk, .inl (E.2.1, 1920, .inl f)), (yz, .inl (E.2.2.1, 24, .inl sz))] := hD
    rcases Nat.lt_or_ge (S.length + 2) 24 with h24 | h24
    · refine lv_aload_n hx hb d_Mod_act_0 rfl (lv_at hl 0 rfl) ?_
      refine n_get C fg_Mod_66 hP 0 rfl rfl d_Mod_act_1 ?_
      refine lv_iconst (v := nI 2) hx hb d_Mod_act_4 (by decide) ?_
      refine lv_isub hx hb d_Mod_act_5 ?_
      refine tope (z := nI S.length) ((pk_sub (by omega)).trans (congrArg nI (by omega))) ?_
      refine lv_istore_n (lv' := [(3, .int (nI S.length)), (0, .ref y0), (1, .int (nI 83)), (2, .int ht)]) hx hb d_Mod_act_6 rfl hl (by decide) rfl (fun ls hl => ?_)
      refine lv_aload_n hx hb d_Mod_act_7 rfl (lv_at hl 1 rfl) ?_
      refine n_get C fg_Mod_66 hP 0 rfl rfl d_Mod_act_8 ?_
      refine lv_iconst (v := nI 1) hx hb d_Mod_act_11 (by decide) ?_
      refine lv_isub hx hb d_Mod_act_12 ?_
      refine tope (z := nI (S.length + 1)) ((pk_sub (by omega)).trans (congrArg nI (by omega))) ?_
      refine lv_istore (lv' := [(4, .int (nI (S.length + 1))), (3, .int (nI S.length)), (0, .ref y0), (1, .int (nI 83)), (2, .int ht)]) hx hb d_Mod_act_13 hl (by decide) rfl (fun ls hl => ?_)
      refine lv_iload_n hx hb d_Mod_act_15 rfl (lv_at hl 3 rfl) ?_
      refine lv_bipush (v := nI 82) hx hb d_Mod_act_16 (by decide) ?_
      refine j_eq C 83 82 rfl rfl (by decide) (by decide) d_Mod_act_18 rfl (fun hc9 => absurd hc9 (by decide)) (fun hc9 => ?_)
      refine lv_iload_n hx hb d_Mod_act_21 rfl (lv_at hl 3 rfl) ?_
      refine lv_bipush (v := nI 83) hx hb d_Mod_act_22 (by decide) ?_
      refine j_eq C 83 83 rfl rfl (by decide) (by decide) d_Mod_act_24 rfl (fun hc10 => ?_) (fun hc10 => absurd hc10 (by decide))
      refine lv_iconst (v := nI 1) hx hb d_Mod_act_51 (by decide) ?_
      refine lv_goto hx hb d_Mod_act_52 rfl ?_
      refine lv_istore (lv' := [(5, .int (nI 1)), (4, .int (nI (S.length + 1))), (3, .int (nI S.length)), (0, .ref y0), (1, .int (nI 83)), (2, .int ht)]) hx hb d_Mod_act_56 hl (by decide) rfl (fun ls hl => ?_)
      refine lv_aload_n hx hb d_Mod_act_58 rfl (lv_at hl 3 rfl) ?_
      refine n_get C fg_Mod_66 hP 0 rfl rfl d_Mod_act_59 ?_
      refine lv_iload hx hb d_Mod_act_62 (lv_at hl 0 rfl) ?_
      refine z_eq C 1 rfl (by omega) d_Mod_act_64 rfl (fun hc11 => absurd hc11 (by omega)) (fun hc11 => ?_)
      refine lv_iconst (v := nI 2) hx hb d_Mod_act_67 (by decide) ?_
      refine lv_goto hx hb d_Mod_act_68 rfl ?_
      refine j_ge C (S.length + 2) 2 rfl rfl (by omega) (by omega) d_Mod_act_82 rfl (fun hc12 => ?_) (fun hc12 => absurd hc12 (by omega))
      refine lv_iload_n hx hb d_Mod_act_87 rfl (lv_at hl 4 rfl) ?_
      refine lv_bipush (v := nI 88) hx hb d_Mod_act_88 (by decide) ?_
      refine j_lt C 83 88 rfl rfl (by decide) (by decide) d_Mod_act_90 rfl (fun hc13 => ?_) (fun hc13 => absurd hc13 (by decide))
      refine lv_iload_n hx hb d_Mod_act_99 rfl (lv_at hl 4 rfl) ?_
      refine lv_bipush (v := nI 96) hx hb d_Mod_act_100 (by decide) ?_
      refine j_ne C 83 96 rfl rfl (by decide) (by decide) d_Mod_act_102 rfl (fun hc14 => ?_) (fun hc14 => absurd hc14 (by decide))
      refine lv_iconst (v := nI 0) hx hb d_Mod_act_109 (by decide) ?_
      refine lv_istore (lv' := [(6, .int (nI 0)), (5, .int (nI 1)), (4, .int (nI (S.length + 1))), (3, .int (nI S.length)), (0, .ref y0), (1, .int (nI 83)), (2, .int ht)]) hx hb d_Mod_act_110 hl (by decide) rfl (fun ls hl => ?_)
      refine lv_iload hx hb d_Mod_act_112 (lv_at hl 0 rfl) ?_
      refine z_eq C 0 rfl (by omega) d_Mod_act_114 rfl (fun hc15 => ?_) (fun hc15 => absurd hc15 (by omega))
      refine lv_iload hx hb d_Mod_act_145 (lv_at hl 1 rfl) ?_
      refine z_eq C 1 rfl (by omega) d_Mod_act_147 rfl (fun hc16 => absurd hc16 (by omega)) (fun hc16 => ?_)
      refine lv_iload hx hb d_Mod_act_150 (lv_at hl 0 rfl) ?_
      refine z_eq C 0 rfl (by omega) d_Mod_act_152 rfl (fun hc17 => ?_) (fun hc17 => absurd hc17 (by omega))
      refine lv_iconst (v := nI 0) hx hb d_Mod_act_163 (by decide) ?_
      refine lv_istore (lv' := [(7, .int (nI 0)), (6, .int (nI 0)), (5, .int (nI 1)), (4, .int (nI (S.length + 1))), (3, .int (nI S.length)), (0, .ref y0), (1, .int (nI 83)), (2, .int ht)]) hx hb d_Mod_act_164 hl (by decide) rfl (fun ls hl => ?_)
      refine lv_iload hx hb d_Mod_act_166 (lv_at hl 1 rfl) ?_
      refine z_eq C 0 rfl (by omega) d_Mod_act_168 rfl (fun hc18 => ?_) (fun hc18 => absurd hc18 (by omega))
      refine lv_iconst (v := nI 0) hx hb d_Mod_act_180 (by decide) ?_
      refine lv_istore (lv' := [(8, .int (nI 0)), (7, .int (nI 0)), (6, .int (nI 0)), (5, .int (nI 1)), (4, .int (nI (S.length + 1))), (3, .int (nI S.length)), (0, .ref y0), (1, .int (nI 83)), (2, .int ht)]) hx hb d_Mod_act_181 hl (by decide) rfl (fun ls hl => ?_)
      refine lv_iload_n hx hb d_Mod_act_183 rfl (lv_at hl 7 rfl) ?_
      refine lv_tableIn hx hb d_Mod_act_184 (by decide) (by decide) rfl rfl ?_
      refine lv_aload_n hx hb d_Mod_act_427 rfl (lv_at hl 6 rfl) ?_
      refine lv_aload_n hx hb d_Mod_act_428 rfl (lv_at hl 6 rfl) ?_
      refine n_get C fg_Mod_41 hP 0 rfl rfl d_Mod_act_429 ?_
      refine lv_bipush (v := nI 80) hx hb d_Mod_act_432 (by decide) ?_
      refine lv_iload_n hx hb d_Mod_act_434 rfl (lv_at hl 5 rfl) ?_
      refine lv_imul hx hb d_Mod_act_435 ?_
      refine tope (z := nI (S.length * 80)) ((pk_mul _ _).trans (congrArg nI (Nat.mul_comm _ _))) ?_
      refine lv_aload_n hx hb d_Mod_act_436 rfl (lv_at hl 6 rfl) ?_
      refine n_get C fg_Mod_44 hP 0 rfl rfl d_Mod_act_437 ?_
      refine lv_iload_n hx hb d_Mod_act_440 rfl (lv_at hl 5 rfl) ?_
      refine n_iald C hP 8 rfl S.length rfl (by omega) (by omega) d_Mod_act_441 ?_
      refine tope (z := nI y.length) (hy1.1) ?_
      refine cal_I (As := [.ref yk, .int (nI (S.length * 80)), .int (nI y.length)]) (rest := []) C lk_Mod_70 (c_Mod_pushA l E y0 ya yo ym yl yg yw yh yc yd yb yk yz yr nt no (S.length + 2) fl (S.length * 80) y.length f sz (by omega) (by omega) (by omega) (fun q hq => hB _)) (by decide) hP hD hS 0 7 rfl rfl [0, 7, 8] rfl (by decide) hl.1 rfl (Nat.le_of_ble_eq_true rfl) d_Mod_act_442 (fun r19 w1 H locs hp20 hP hD hS => ?_)
      obtain ⟨rfl, rfl⟩ := hp20
      have hP : va_P E.1 clz [(y0, .inr (7, [.ref ya, .int (nI nt), .ref yo, .int (nI no), .ref ym, .ref yl, .ref yg, .ref yw, .ref yh, .ref yc, .ref yd, .ref yb, .ref yk, .ref yz, .int (nI (S.length + 2 + 1)), .int (b2 fl), .ref yr])), (yg, .inl (E.2.1, 32, .inl k5)), (yw, .inl (E.2.2.1, 64, .inl k6)), (yh, .inl (E.2.2.1, 8, .inl k7)), (yc, .inl (E.2.1, 32, .inl k8)), (yd, .inl (E.2.1, 32, .inl k9)), (yb, .inl (E.2.1, 512, .inl kb)), (yk, .inl (E.2.1, 1920, .inl (va_cpy f f (S.length * 80) ((S.length + 2) * 80) y.length))), (yz, .inl (E.2.2.1, 24, .inl (upd sz (S.length + 2) (nI y.length))))] H := hP
      have hD : va_D A [(y0, .inr (7, [.ref ya, .int (nI nt), .ref yo, .int (nI no), .ref ym, .ref yl, .ref yg, .ref yw, .ref yh, .ref yc, .ref yd, .ref yb, .ref yk, .ref yz, .int (nI (S.length + 2 + 1)), .int (b2 fl), .ref yr])), (yg, .inl (E.2.1, 32, .inl k5)), (yw, .inl (E.2.2.1, 64, .inl k6)), (yh, .inl (E.2.2.1, 8, .inl k7)), (yc, .inl (E.2.1, 32, .inl k8)), (yd, .inl (E.2.1, 32, .inl k9)), (yb, .inl (E.2.1, 512, .inl kb)), (yk, .inl (E.2.1, 1920, .inl (va_cpy f f (S.length * 80) ((S.length + 2) * 80) y.length))), (yz, .inl (E.2.2.1, 24, .inl (upd sz (S.length + 2) (nI y.length))))] := hD
      exact kret (b2 true) [(y0, .inr (7, [.ref ya, .int (nI nt), .ref yo, .int (nI no), .ref ym, .ref yl, .ref yg, .ref yw, .ref yh, .ref yc, .ref yd, .ref yb, .ref yk, .ref yz, .int (nI (S.length + 2 + 1)), .int (b2 fl), .ref yr])), (yg, .inl (E.2.1, 32, .inl k5)), (yw, .inl (E.2.2.1, 64, .inl k6)), (yh, .inl (E.2.2.1, 8, .inl k7)), (yc, .inl (E.2.1, 32, .inl k8)), (yd, .inl (E.2.1, 32, .inl k9)), (yb, .inl (E.2.1, 512, .inl kb)), (yk, .inl (E.2.1, 1920, .inl (va_cpy f f (S.length * 80) ((S.length + 2) * 80) y.length))), (yz, .inl (E.2.2.1, 24, .inl (upd sz (S.length + 2) (nI y.length))))] _ _ _ _ d_Mod_act_445 (⟨_, _, _, _, _, _, _, _, rfl, fB_cpy hB hB, Or.inl ⟨(y :: x :: y :: S), by show pushE _ _ = _; unfold pushE; rw [if_pos (by first | (simp only [List.length_cons]; omega) | omega)], rfl, by first | rfl | (simp only [List.length_cons]; omega) | (simp only [List.length_cons]), rep_cpy hrep rfl rfl hy1.2.1 hy1.2.2, by first | (simp only [List.length_cons]; omega) | (simp only [List.length_cons]) | omega⟩⟩) rfl hP hS
    · refine lv_aload_n hx hb d_Mod_act_0 rfl (lv_at hl 0 rfl) ?_
      refine n_get C fg_Mod_66 hP 0 rfl rfl d_Mod_act_1 ?_
      refine lv_iconst (v := nI 2) hx hb d_Mod_act_4 (by decide) ?_
      refine lv_isub hx hb d_Mod_act_5 ?_
      refine tope (z := nI S.length) ((pk_sub (by omega)).trans (congrArg nI (by omega))) ?_
      refine lv_istore_n (lv' := [(3, .int (nI S.length)), (0, .ref y0), (1, .int (nI 83)), (2, .int ht)]) hx hb d_Mod_act_6 rfl hl (by decide) rfl (fun ls hl => ?_)
      refine lv_aload_n hx hb d_Mod_act_7 rfl (lv_at hl 1 rfl) ?_
      refine n_get C fg_Mod_66 hP 0 rfl rfl d_Mod_act_8 ?_
      refine lv_iconst (v := nI 1) hx hb d_Mod_act_11 (by decide) ?_
      refine lv_isub hx hb d_Mod_act_12 ?_
      refine tope (z := nI (S.length + 1)) ((pk_sub (by omega)).trans (congrArg nI (by omega))) ?_
      refine lv_istore (lv' := [(4, .int (nI (S.length + 1))), (3, .int (nI S.length)), (0, .ref y0), (1, .int (nI 83)), (2, .int ht)]) hx hb d_Mod_act_13 hl (by decide) rfl (fun ls hl => ?_)
      refine lv_iload_n hx hb d_Mod_act_15 rfl (lv_at hl 3 rfl) ?_
      refine lv_bipush (v := nI 82) hx hb d_Mod_act_16 (by decide) ?_
      refine j_eq C 83 82 rfl rfl (by decide) (by decide) d_Mod_act_18 rfl (fun hc21 => absurd hc21 (by decide)) (fun hc21 => ?_)
      refine lv_iload_n hx hb d_Mod_act_21 rfl (lv_at hl 3 rfl) ?_
      refine lv_bipush (v := nI 83) hx hb d_Mod_act_22 (by decide) ?_
      refine j_eq C 83 83 rfl rfl (by decide) (by decide) d_Mod_act_24 rfl (fun hc22 => ?_) (fun hc22 => absurd hc22 (by decide))
      refine lv_iconst (v := nI 1) hx hb d_Mod_act_51 (by decide) ?_
      refine lv_goto hx hb d_Mod_act_52 rfl ?_
      refine lv_istore (lv' := [(5, .int (nI 1)), (4, .int (nI (S.length + 1))), (3, .int (nI S.length)), (0, .ref y0), (1, .int (nI 83)), (2, .int ht)]) hx hb d_Mod_act_56 hl (by decide) rfl (fun ls hl => ?_)
      refine lv_aload_n hx hb d_Mod_act_58 rfl (lv_at hl 3 rfl) ?_
      refine n_get C fg_Mod_66 hP 0 rfl rfl d_Mod_act_59 ?_
      refine lv_iload hx hb d_Mod_act_62 (lv_at hl 0 rfl) ?_
      refine z_eq C 1 rfl (by omega) d_Mod_act_64 rfl (fun hc23 => absurd hc23 (by omega)) (fun hc23 => ?_)
      refine lv_iconst (v := nI 2) hx hb d_Mod_act_67 (by decide) ?_
      refine lv_goto hx hb d_Mod_act_68 rfl ?_
      refine j_ge C (S.length + 2) 2 rfl rfl (by omega) (by omega) d_Mod_act_82 rfl (fun hc24 => ?_) (fun hc24 => absurd hc24 (by omega))
      refine lv_iload_n hx hb d_Mod_act_87 rfl (lv_at hl 4 rfl) ?_
      refine lv_bipush (v := nI 88) hx hb d_Mod_act_88 (by decide) ?_
      refine j_lt C 83 88 rfl rfl (by decide) (by decide) d_Mod_act_90 rfl (fun hc25 => ?_) (fun hc25 => absurd hc25 (by decide))
      refine lv_iload_n hx hb d_Mod_act_99 rfl (lv_at hl 4 rfl) ?_
      refine lv_bipush (v := nI 96) hx hb d_Mod_act_100 (by decide) ?_
      refine j_ne C 83 96 rfl rfl (by decide) (by decide) d_Mod_act_102 rfl (fun hc26 => ?_) (fun hc26 => absurd hc26 (by decide))
      refine lv_iconst (v := nI 0) hx hb d_Mod_act_109 (by decide) ?_
      refine lv_istore (lv' := [(6, .int (nI 0)), (5, .int (nI 1)), (4, .int (nI (S.length + 1))), (3, .int (nI S.length)), (0, .ref y0), (1, .int (nI 83)), (2, .int ht)]) hx hb d_Mod_act_110 hl (by decide) rfl (fun ls hl => ?_)
      refine lv_iload hx hb d_Mod_act_112 (lv_at hl 0 rfl) ?_
      refine z_eq C 0 rfl (by omega) d_Mod_act_114 rfl (fun hc27 => ?_) (fun hc27 => absurd hc27 (by omega))
      refine lv_iload hx hb d_Mod_act_145 (lv_at hl 1 rfl) ?_
      refine z_eq C 1 rfl (by omega) d_Mod_act_147 rfl (fun hc28 => absurd hc28 (by omega)) (fun hc28 => ?_)
      refine lv_iload hx hb d_Mod_act_150 (lv_at hl 0 rfl) ?_
      refine z_eq C 0 rfl (by omega) d_Mod_act_152 rfl (fun hc29 => ?_) (fun hc29 => absurd hc29 (by omega))
      refine lv_iconst (v := nI 0) hx hb d_Mod_act_163 (by decide) ?_
      refine lv_istore (lv' := [(7, .int (nI 0)), (6, .int (nI 0)), (5, .int (nI 1)), (4, .int (nI (S.length + 1))), (3, .int (nI S.length)), (0, .ref y0), (1, .int (nI 83)), (2, .int ht)]) hx hb d_Mod_act_164 hl (by decide) rfl (fun ls hl => ?_)
      refine lv_iload hx hb d_Mod_act_166 (lv_at hl 1 rfl) ?_
      refine z_eq C 0 rfl (by omega) d_Mod_act_168 rfl (fun hc30 => ?_) (fun hc30 => absurd hc30 (by omega))
      refine lv_iconst (v := nI 0) hx hb d_Mod_act_180 (by decide) ?_
      refine lv_istore (lv' := [(8, .int (nI 0)), (7, .int (nI 0)), (6, .int (nI 0)), (5, .int (nI 1)), (4, .int (nI (S.length + 1))), (3, .int (nI S.length)), (0, .ref y0), (1, .int (nI 83)), (2, .int ht)]) hx hb d_Mod_act_181 hl (by decide) rfl (fun ls hl => ?_)
      refine lv_iload_n hx hb d_Mod_act_183 rfl (lv_at hl 7 rfl) ?_
      refine lv_tableIn hx hb d_Mod_act_184 (by decide) (by decide) rfl rfl ?_
      refine lv_aload_n hx hb d_Mod_act_427 rfl (lv_at hl 6 rfl) ?_
      refine lv_aload_n hx hb d_Mod_act_428 rfl (lv_at hl 6 rfl) ?_
      refine n_get C fg_Mod_41 hP 0 rfl rfl d_Mod_act_429 ?_
      refine lv_bipush (v := nI 80) hx hb d_Mod_act_432 (by decide) ?_
      refine lv_iload_n hx hb d_Mod_act_434 rfl (lv_at hl 5 rfl) ?_
      refine lv_imul hx hb d_Mod_act_435 ?_
      refine tope (z := nI (S.length * 80)) ((pk_mul _ _).trans (congrArg nI (Nat.mul_comm _ _))) ?_
      refine lv_aload_n hx hb d_Mod_act_436 rfl (lv_at hl 6 rfl) ?_
      refine n_get C fg_Mod_44 hP 0 rfl rfl d_Mod_act_437 ?_
      refine lv_iload_n hx hb d_Mod_act_440 rfl (lv_at hl 5 rfl) ?_
      refine n_iald C hP 8 rfl S.length rfl (by omega) (by omega) d_Mod_act_441 ?_
      refine tope (z := nI y.length) (hy1.1) ?_
      refine cal_I (As := [.ref yk, .int (nI (S.length * 80)), .int (nI y.length)]) (rest := []) C lk_Mod_70 (c_Mod_pushA_full l E y0 ya yo ym yl yg yw yh yc yd yb yk yz yr nt no (S.length + 2) fl (S.length * 80) y.length f sz (by omega)) (by decide) hP hD hS 0 7 rfl rfl [0, 7, 8] rfl (by decide) hl.1 rfl (Nat.le_of_ble_eq_true rfl) d_Mod_act_442 (fun r31 w1 H locs hp32 hP hD hS => ?_)
      obtain ⟨rfl, rfl⟩ := hp32
      have hP : va_P E.1 clz [(y0, .inr (7, [.ref ya, .int (nI nt), .ref yo, .int (nI no), .ref ym, .ref yl, .ref yg, .ref yw, .ref yh, .ref yc, .ref yd, .ref yb, .ref yk, .ref yz, .int (nI (S.length + 2)), .int (b2 fl), .ref yr])), (yg, .inl (E.2.1, 32, .inl k5)), (yw, .inl (E.2.2.1, 64, .inl k6)), (yh, .inl (E.2.2.1, 8, .inl k7)), (yc, .inl (E.2.1, 32, .inl k8)), (yd, .inl (E.2.1, 32, .inl k9)), (yb, .inl (E.2.1, 512, .inl kb)), (yk, .inl (E.2.1, 1920, .inl f)), (yz, .inl (E.2.2.1, 24, .inl sz))] H := hP
      have hD : va_D A [(y0, .inr (7, [.ref ya, .int (nI nt), .ref yo, .int (nI no), .ref ym, .ref yl, .ref yg, .ref yw, .ref yh, .ref yc, .ref yd, .ref yb, .ref yk, .ref yz, .int (nI (S.length + 2)), .int (b2 fl), .ref yr])), (yg, .inl (E.2.1, 32, .inl k5)), (yw, .inl (E.2.2.1, 64, .inl k6)), (yh, .inl (E.2.2.1, 8, .inl k7)), (yc, .inl (E.2.1, 32, .inl k8)), (yd, .inl (E.2.1, 32, .inl k9)), (yb, .inl (E.2.1, 512, .inl kb)), (yk, .inl (E.2.1, 1920, .inl f)), (yz, .inl (E.2.2.1, 24, .inl sz))] := hD
      exact kret (b2 false) [(y0, .inr (7, [.ref ya, .int (nI nt), .ref yo, .int (nI no), .ref ym, .ref yl, .ref yg, .ref yw, .ref yh, .ref yc, .ref yd, .ref yb, .ref yk, .ref yz, .int (nI (S.length + 2)), .int (b2 fl), .ref yr])), (yg, .inl (E.2.1, 32, .inl k5)), (yw, .inl (E.2.2.1, 64, .inl k6)), (yh, .inl (E.2.2.1, 8, .inl k7)), (yc, .inl (E.2.1, 32, .inl k8)), (yd, .inl (E.2.1, 32, .inl k9)), (yb, .inl (E.2.1, 512, .inl kb)), (yk, .inl (E.2.1, 1920, .inl f)), (yz, .inl (E.2.2.1, 24, .inl sz))] _ _ _ _ d_Mod_act_445 (⟨_, _, _, _, _, _, _, _, rfl, hB, Or.inr ⟨by show pushE _ _ = _; unfold pushE; rw [if_neg (by first | (simp only [List.length_cons]; omega) | omega)], rfl⟩⟩) rfl hP hS

set_option maxHeartbeats 4000000 in
set_option maxRecDepth 100000 in
theorem c_act_85 (l : Launch) (E : En) (y0 ya yo ym yl yg yw yh yc yd yb yk yz yr nt no : Nat) (fl : Bool) (k5 k6 k7 k8 k9 kb f sz : Nat → Int32) (S : Stk) (msg : Byl) (hrep : rep f sz S) (hB : fB f) (hB5 : fB k5) (hlen : S.length ≤ 24) (hm : lay k5 0 msg) (hm32 : msg.length = 32) (ht : Int32) : CtI l y_Mod_act b_Mod_act 11 .boolean (rmd 4) E [.ref y0, .int (nI 85), .int ht] [(y0, .inr (7, [.ref ya, .int (nI nt), .ref yo, .int (nI no), .ref ym, .ref yl, .ref yg, .ref yw, .ref yh, .ref yc, .ref yd, .ref yb, .ref yk, .ref yz, .int (nI S.length), .int (b2 fl), .ref yr])), (yg, .inl (E.2.1, 32, .inl k5)), (yw, .inl (E.2.2.1, 64, .inl k6)), (yh, .inl (E.2.2.1, 8, .inl k7)), (yc, .inl (E.2.1, 32, .inl k8)), (yd, .inl (E.2.1, 32, .inl k9)), (yb, .inl (E.2.1, 512, .inl kb)), (yk, .inl (E.2.1, 1920, .inl f)), (yz, .inl (E.2.2.1, 24, .inl sz))] (stepM E y0 ya yo ym yl yg yw yh yc yd yb yk yz yr nt no fl k5 (actS 85 ht msg S)) := by
  refine CtI.of (by decide) (Nat.le_of_ble_eq_true rfl) (stepM_nar) ?_
  intro p e s m args below meth c A Q H locs ls C hP hD hS hl kret
  have hx := C.1
  have hb := C.2.1
  have hl : lv_has ls 11 [(0, .ref y0), (1, .int (nI 85)), (2, .int ht)] := hl
  rcases S with _ | ⟨x, S⟩
  · have hP : va_P E.1 clz [(y0, .inr (7, [.ref ya, .int (nI nt), .ref yo, .int (nI no), .ref ym, .ref yl, .ref yg, .ref yw, .ref yh, .ref yc, .ref yd, .ref yb, .ref yk, .ref yz, .int (nI 0), .int (b2 fl), .ref yr])), (yg, .inl (E.2.1, 32, .inl k5)), (yw, .inl (E.2.2.1, 64, .inl k6)), (yh, .inl (E.2.2.1, 8, .inl k7)), (yc, .inl (E.2.1, 32, .inl k8)), (yd, .inl (E.2.1, 32, .inl k9)), (yb, .inl (E.2.1, 512, .inl kb)), (yk, .inl (E.2.1, 1920, .inl f)), (yz, .inl (E.2.2.1, 24, .inl sz))] H := hP
    have hD : va_D A [(y0, .inr (7, [.ref ya, .int (nI nt), .ref yo, .int (nI no), .ref ym, .ref yl, .ref yg, .ref yw, .ref yh, .ref yc, .ref yd, .ref yb, .ref yk, .ref yz, .int (nI 0), .int (b2 fl), .ref yr])), (yg, .inl (E.2.1, 32, .inl k5)), (yw, .inl (E.2.2.1, 64, .inl k6)), (yh, .inl (E.2.2.1, 8, .inl k7)), (yc, .inl (E.2.1, 32, .inl k8)), (yd, .inl (E.2.1, 32, .inl k9)), (yb, .inl (E.2.1, 512, .inl kb)), (yk, .inl (E.2.1, 1920, .inl f)), (yz, .inl (E.2.2.1, 24, .inl sz))] := hD
    refine lv_aload_n hx hb d_Mod_act_0 rfl (lv_at hl 0 rfl) ?_
    refine n_get C fg_Mod_66 hP 0 rfl rfl d_Mod_act_1 ?_
    refine lv_iconst (v := nI 2) hx hb d_Mod_act_4 (by decide) ?_
    refine lv_isub hx hb d_Mod_act_5 ?_
    refine tope (z := (-2)) (by decide) ?_
    refine lv_istore_n (lv' := [(3, .int (-2)), (0, .ref y0), (1, .int (nI 85)), (2, .int ht)]) hx hb d_Mod_act_6 rfl hl (by decide) rfl (fun ls hl => ?_)
    refine lv_aload_n hx hb d_Mod_act_7 rfl (lv_at hl 1 rfl) ?_
    refine n_get C fg_Mod_66 hP 0 rfl rfl d_Mod_act_8 ?_
    refine lv_iconst (v := nI 1) hx hb d_Mod_act_11 (by decide) ?_
    refine lv_isub hx hb d_Mod_act_12 ?_
    refine tope (z := (-1)) (by decide) ?_
    refine lv_istore (lv' := [(4, .int (-1)), (3, .int (-2)), (0, .ref y0), (1, .int (nI 85)), (2, .int ht)]) hx hb d_Mod_act_13 hl (by decide) rfl (fun ls hl => ?_)
    refine lv_iload_n hx hb d_Mod_act_15 rfl (lv_at hl 3 rfl) ?_
    refine lv_bipush (v := nI 82) hx hb d_Mod_act_16 (by decide) ?_
    refine j_eq C 85 82 rfl rfl (by decide) (by decide) d_Mod_act_18 rfl (fun hc1 => absurd hc1 (by decide)) (fun hc1 => ?_)
    refine lv_iload_n hx hb d_Mod_act_21 rfl (lv_at hl 3 rfl) ?_
    refine lv_bipush (v := nI 83) hx hb d_Mod_act_22 (by decide) ?_
    refine j_eq C 85 83 rfl rfl (by decide) (by decide) d_Mod_act_24 rfl (fun hc2 => absurd hc2 (by decide)) (fun hc2 => ?_)
    refine lv_iload_n hx hb d_Mod_act_27 rfl (lv_at hl 3 rfl) ?_
    refine lv_bipush (v := nI 86) hx hb d_Mod_act_28 (by decide) ?_
    refine j_eq C 85 86 rfl rfl (by decide) (by decide) d_Mod_act_30 rfl (fun hc3 => absurd hc3 (by decide)) (fun hc3 => ?_)
    refine lv_iload_n hx hb d_Mod_act_33 rfl (lv_at hl 3 rfl) ?_
    refine lv_bipush (v := nI 89) hx hb d_Mod_act_34 (by decide) ?_
    refine j_lt C 85 89 rfl rfl (by decide) (by decide) d_Mod_act_36 rfl (fun hc4 => ?_) (fun hc4 => absurd hc4 (by decide))
    refine lv_iload_n hx hb d_Mod_act_45 rfl (lv_at hl 3 rfl) ?_
    refine lv_bipush (v := nI 95) hx hb d_Mod_act_46 (by decide) ?_
    refine j_ne C 85 95 rfl rfl (by decide) (by decide) d_Mod_act_48 rfl (fun hc5 => ?_) (fun hc5 => absurd hc5 (by decide))
    refine lv_iconst (v := nI 0) hx hb d_Mod_act_55 (by decide) ?_
    refine lv_istore (lv' := [(5, .int (nI 0)), (4, .int (-1)), (3, .int (-2)), (0, .ref y0), (1, .int (nI 85)), (2, .int ht)]) hx hb d_Mod_act_56 hl (by decide) rfl (fun ls hl => ?_)
    refine lv_aload_n hx hb d_Mod_act_58 rfl (lv_at hl 3 rfl) ?_
    refine n_get C fg_Mod_66 hP 0 rfl rfl d_Mod_act_59 ?_
    refine lv_iload hx hb d_Mod_act_62 (lv_at hl 0 rfl) ?_
    refine z_eq C 0 rfl (by omega) d_Mod_act_64 rfl (fun hc6 => ?_) (fun hc6 => absurd hc6 (by omega))
    refine lv_iload_n hx hb d_Mod_act_71 rfl (lv_at hl 4 rfl) ?_
    refine lv_bipush (v := nI 102) hx hb d_Mod_act_72 (by decide) ?_
    refine j_ne C 85 102 rfl rfl (by decide) (by decide) d_Mod_act_74 rfl (fun hc7 => ?_) (fun hc7 => absurd hc7 (by decide))
    refine lv_iconst (v := nI 1) hx hb d_Mod_act_81 (by decide) ?_
    refine j_ge C 0 1 rfl rfl (by decide) (by decide) d_Mod_act_82 rfl (fun hc8 => absurd hc8 (by decide)) (fun hc8 => ?_)
    refine lv_iconst (v := nI 0) hx hb d_Mod_act_85 (by decide) ?_
    exact kret (nI 0) [(y0, .inr (7, [.ref ya, .int (nI nt), .ref yo, .int (nI no), .ref ym, .ref yl, .ref yg, .ref yw, .ref yh, .ref yc, .ref yd, .ref yb, .ref yk, .ref yz, .int (nI 0), .int (b2 fl), .ref yr])), (yg, .inl (E.2.1, 32, .inl k5)), (yw, .inl (E.2.2.1, 64, .inl k6)), (yh, .inl (E.2.2.1, 8, .inl k7)), (yc, .inl (E.2.1, 32, .inl k8)), (yd, .inl (E.2.1, 32, .inl k9)), (yb, .inl (E.2.1, 512, .inl kb)), (yk, .inl (E.2.1, 1920, .inl f)), (yz, .inl (E.2.2.1, 24, .inl sz))] _ _ _ _ d_Mod_act_86 (⟨_, _, _, _, _, _, _, _, rfl, hB, Or.inr ⟨rfl, rfl⟩⟩) rfl hP hS
  · have hx1 : sz S.length = nI x.length ∧ x.length ≤ 80 ∧ lay f (S.length * 80) x := rep_top hrep
    have hr0 : rep f sz S := rep_tail hrep
    have hlen : S.length + 1 ≤ 24 := hlen
    have hP : va_P E.1 clz [(y0, .inr (7, [.ref ya, .int (nI nt), .ref yo, .int (nI no), .ref ym, .ref yl, .ref yg, .ref yw, .ref yh, .ref yc, .ref yd, .ref yb, .ref yk, .ref yz, .int (nI (S.length + 1)), .int (b2 fl), .ref yr])), (yg, .inl (E.2.1, 32, .inl k5)), (yw, .inl (E.2.2.1, 64, .inl k6)), (yh, .inl (E.2.2.1, 8, .inl k7)), (yc, .inl (E.2.1, 32, .inl k8)), (yd, .inl (E.2.1, 32, .inl k9)), (yb, .inl (E.2.1, 512, .inl kb)), (yk, .inl (E.2.1, 1920, .inl f)), (yz, .inl (E.2.2.1, 24, .inl sz))] H := hP
    have hD : va_D A [(y0, .inr (7, [.ref ya, .int (nI nt), .ref yo, .int (nI no), .ref ym, .ref yl, .ref yg, .ref yw, .ref yh, .ref yc, .ref yd, .ref yb, .ref yk, .ref yz, .int (nI (S.length + 1)), .int (b2 fl), .ref yr])), (yg, .inl (E.2.1, 32, .inl k5)), (yw, .inl (E.2.2.1, 64, .inl k6)), (yh, .inl (E.2.2.1, 8, .inl k7)), (yc, .inl (E.2.1, 32, .inl k8)), (yd, .inl (E.2.1, 32, .inl k9)), (yb, .inl (E.2.1, 512, .inl kb)), (yk, .inl (E.2.1, 1920, .inl f)), (yz, .inl (E.2.2.1, 24, .inl sz))] := hD
    rcases Nat.lt_or_ge (S.length + 1) 24 with h24 | h24
    · refine lv_aload_n hx hb d_Mod_act_0 rfl (lv_at hl 0 rfl) ?_
      refine n_get C fg_Mod_66 hP 0 rfl rfl d_Mod_act_1 ?_
      refine lv_iconst (v := nI 2) hx hb d_Mod_act_4 (by decide) ?_
      refine lv_isub hx hb d_Mod_act_5 ?_
      refine lv_istore_n (lv' := [(3, .int ((nI (S.length + 1)) - (nI 2))), (0, .ref y0), (1, .int (nI 85)), (2, .int ht)]) hx hb d_Mod_act_6 rfl hl (by decide) rfl (fun ls hl => ?_)
      refine lv_aload_n hx hb d_Mod_act_7 rfl (lv_at hl 1 rfl) ?_
      refine n_get C fg_Mod_66 hP 0 rfl rfl d_Mod_act_8 ?_
      refine lv_iconst (v := nI 1) hx hb d_Mod_act_11 (by decide) ?_
      refine lv_isub hx hb d_Mod_act_12 ?_
      refine tope (z := nI S.length) ((pk_sub (by omega)).trans (congrArg nI (by omega))) ?_
      refine lv_istore (lv' := [(4, .int (nI S.length)), (3, .int ((nI (S.length + 1)) - (nI 2))), (0, .ref y0), (1, .int (nI 85)), (2, .int ht)]) hx hb d_Mod_act_13 hl (by decide) rfl (fun ls hl => ?_)
      refine lv_iload_n hx hb d_Mod_act_15 rfl (lv_at hl 3 rfl) ?_
      refine lv_bipush (v := nI 82) hx hb d_Mod_act_16 (by decide) ?_
      refine j_eq C 85 82 rfl rfl (by decide) (by decide) d_Mod_act_18 rfl (fun hc9 => absurd hc9 (by decide)) (fun hc9 => ?_)
      refine lv_iload_n hx hb d_Mod_act_21 rfl (lv_at hl 3 rfl) ?_
      refine lv_bipush (v := nI 83) hx hb d_Mod_act_22 (by decide) ?_
      refine j_eq C 85 83 rfl rfl (by decide) (by decide) d_Mod_act_24 rfl (fun hc10 => absurd hc10 (by decide)) (fun hc10 => ?_)
      refine lv_iload_n hx hb d_Mod_act_27 rfl (lv_at hl 3 rfl) ?_
      refine lv_bipush (v := nI 86) hx hb d_Mod_act_28 (by decide) ?_
      refine j_eq C 85 86 rfl rfl (by decide) (by decide) d_Mod_act_30 rfl (fun hc11 => absurd hc11 (by decide)) (fun hc11 => ?_)
      refine lv_iload_n hx hb d_Mod_act_33 rfl (lv_at hl 3 rfl) ?_
      refine lv_bipush (v := nI 89) hx hb d_Mod_act_34 (by decide) ?_
      refine j_lt C 85 89 rfl rfl (by decide) (by decide) d_Mod_act_36 rfl (fun hc12 => ?_) (fun hc12 => absurd hc12 (by decide))
      refine lv_iload_n hx hb d_Mod_act_45 rfl (lv_at hl 3 rfl) ?_
      refine lv_bipush (v := nI 95) hx hb d_Mod_act_46 (by decide) ?_
      refine j_ne C 85 95 rfl rfl (by decide) (by decide) d_Mod_act_48 rfl (fun hc13 => ?_) (fun hc13 => absurd hc13 (by decide))
      refine lv_iconst (v := nI 0) hx hb d_Mod_act_55 (by decide) ?_
      refine lv_istore (lv' := [(5, .int (nI 0)), (4, .int (nI S.length)), (3, .int ((nI (S.length + 1)) - (nI 2))), (0, .ref y0), (1, .int (nI 85)), (2, .int ht)]) hx hb d_Mod_act_56 hl (by decide) rfl (fun ls hl => ?_)
      refine lv_aload_n hx hb d_Mod_act_58 rfl (lv_at hl 3 rfl) ?_
      refine n_get C fg_Mod_66 hP 0 rfl rfl d_Mod_act_59 ?_
      refine lv_iload hx hb d_Mod_act_62 (lv_at hl 0 rfl) ?_
      refine z_eq C 0 rfl (by omega) d_Mod_act_64 rfl (fun hc14 => ?_) (fun hc14 => absurd hc14 (by omega))
      refine lv_iload_n hx hb d_Mod_act_71 rfl (lv_at hl 4 rfl) ?_
      refine lv_bipush (v := nI 102) hx hb d_Mod_act_72 (by decide) ?_
      refine j_ne C 85 102 rfl rfl (by decide) (by decide) d_Mod_act_74 rfl (fun hc15 => ?_) (fun hc15 => absurd hc15 (by decide))
      refine lv_iconst (v := nI 1) hx hb d_Mod_act_81 (by decide) ?_
      refine j_ge C (S.length + 1) 1 rfl rfl (by omega) (by omega) d_Mod_act_82 rfl (fun hc16 => ?_) (fun hc16 => absurd hc16 (by omega))
      refine lv_iload_n hx hb d_Mod_act_87 rfl (lv_at hl 4 rfl) ?_
      refine lv_bipush (v := nI 88) hx hb d_Mod_act_88 (by decide) ?_
      refine j_lt C 85 88 rfl rfl (by decide) (by decide) d_Mod_act_90 rfl (fun hc17 => ?_) (fun hc17 => absurd hc17 (by decide))
      refine lv_iload_n hx hb d_Mod_act_99 rfl (lv_at hl 4 rfl) ?_
      refine lv_bipush (v := nI 96) hx hb d_Mod_act_100 (by decide) ?_
      refine j_ne C 85 96 rfl rfl (by decide) (by decide) d_Mod_act_102 rfl (fun hc18 => ?_) (fun hc18 => absurd hc18 (by decide))
      refine lv_iconst (v := nI 0) hx hb d_Mod_act_109 (by decide) ?_
      refine lv_istore (lv' := [(6, .int (nI 0)), (5, .int (nI 0)), (4, .int (nI S.length)), (3, .int ((nI (S.length + 1)) - (nI 2))), (0, .ref y0), (1, .int (nI 85)), (2, .int ht)]) hx hb d_Mod_act_110 hl (by decide) rfl (fun ls hl => ?_)
      refine lv_iload hx hb d_Mod_act_112 (lv_at hl 0 rfl) ?_
      refine z_eq C 0 rfl (by omega) d_Mod_act_114 rfl (fun hc19 => ?_) (fun hc19 => absurd hc19 (by omega))
      refine lv_iload hx hb d_Mod_act_145 (lv_at hl 1 rfl) ?_
      refine z_eq C 0 rfl (by omega) d_Mod_act_147 rfl (fun hc20 => ?_) (fun hc20 => absurd hc20 (by omega))
      refine lv_iconst (v := nI 0) hx hb d_Mod_act_163 (by decide) ?_
      refine lv_istore (lv' := [(7, .int (nI 0)), (6, .int (nI 0)), (5, .int (nI 0)), (4, .int (nI S.length)), (3, .int ((nI (S.length + 1)) - (nI 2))), (0, .ref y0), (1, .int (nI 85)), (2, .int ht)]) hx hb d_Mod_act_164 hl (by decide) rfl (fun ls hl => ?_)
      refine lv_iload hx hb d_Mod_act_166 (lv_at hl 1 rfl) ?_
      refine z_eq C 0 rfl (by omega) d_Mod_act_168 rfl (fun hc21 => ?_) (fun hc21 => absurd hc21 (by omega))
      refine lv_iconst (v := nI 0) hx hb d_Mod_act_180 (by decide) ?_
      refine lv_istore (lv' := [(8, .int (nI 0)), (7, .int (nI 0)), (6, .int (nI 0)), (5, .int (nI 0)), (4, .int (nI S.length)), (3, .int ((nI (S.length + 1)) - (nI 2))), (0, .ref y0), (1, .int (nI 85)), (2, .int ht)]) hx hb d_Mod_act_181 hl (by decide) rfl (fun ls hl => ?_)
      refine lv_iload_n hx hb d_Mod_act_183 rfl (lv_at hl 7 rfl) ?_
      refine lv_tableIn hx hb d_Mod_act_184 (by decide) (by decide) rfl rfl ?_
      refine lv_aload_n hx hb d_Mod_act_446 rfl (lv_at hl 6 rfl) ?_
      refine lv_aload_n hx hb d_Mod_act_447 rfl (lv_at hl 6 rfl) ?_
      refine n_get C fg_Mod_44 hP 0 rfl rfl d_Mod_act_448 ?_
      refine lv_iload hx hb d_Mod_act_451 (lv_at hl 4 rfl) ?_
      refine n_iald C hP 8 rfl S.length rfl (by omega) (by omega) d_Mod_act_453 ?_
      refine tope (z := nI x.length) (hx1.1) ?_
      refine cal_I (As := [.int (nI x.length)]) (rest := []) C lk_Mod_89 (c_Mod_pushNumber l E y0 ya yo ym yl yg yw yh yc yd yb yk yz yr nt no fl f sz k8 (x :: S) (nI x.length) hrep hB (by first | omega | (simp only [List.length_cons]; omega) | (rw [List.length_drop]; omega))) (by decide) hP hD hS 0 7 rfl rfl [0, 7, 8, 4] rfl (by decide) hl.1 rfl (Nat.le_of_ble_eq_true rfl) d_Mod_act_454 (fun r27 w1 H locs hp28 hP hD hS => ?_)
      obtain ⟨rfl, fq22, zq23, cq24, rfl, hrq25, hbq26⟩ := hp28
      have hP : va_P E.1 clz [(y0, .inr (7, [.ref ya, .int (nI nt), .ref yo, .int (nI no), .ref ym, .ref yl, .ref yg, .ref yw, .ref yh, .ref yc, .ref yd, .ref yb, .ref yk, .ref yz, .int (nI ((S.length + 1) + 1)), .int (b2 fl), .ref yr])), (yg, .inl (E.2.1, 32, .inl k5)), (yw, .inl (E.2.2.1, 64, .inl k6)), (yh, .inl (E.2.2.1, 8, .inl k7)), (yc, .inl (E.2.1, 32, .inl cq24)), (yd, .inl (E.2.1, 32, .inl k9)), (yb, .inl (E.2.1, 512, .inl kb)), (yk, .inl (E.2.1, 1920, .inl fq22)), (yz, .inl (E.2.2.1, 24, .inl zq23))] H := hP
      have hD : va_D A [(y0, .inr (7, [.ref ya, .int (nI nt), .ref yo, .int (nI no), .ref ym, .ref yl, .ref yg, .ref yw, .ref yh, .ref yc, .ref yd, .ref yb, .ref yk, .ref yz, .int (nI ((S.length + 1) + 1)), .int (b2 fl), .ref yr])), (yg, .inl (E.2.1, 32, .inl k5)), (yw, .inl (E.2.2.1, 64, .inl k6)), (yh, .inl (E.2.2.1, 8, .inl k7)), (yc, .inl (E.2.1, 32, .inl cq24)), (yd, .inl (E.2.1, 32, .inl k9)), (yb, .inl (E.2.1, 512, .inl kb)), (yk, .inl (E.2.1, 1920, .inl fq22)), (yz, .inl (E.2.2.1, 24, .inl zq23))] := hD
      exact kret (b2 true) [(y0, .inr (7, [.ref ya, .int (nI nt), .ref yo, .int (nI no), .ref ym, .ref yl, .ref yg, .ref yw, .ref yh, .ref yc, .ref yd, .ref yb, .ref yk, .ref yz, .int (nI ((S.length + 1) + 1)), .int (b2 fl), .ref yr])), (yg, .inl (E.2.1, 32, .inl k5)), (yw, .inl (E.2.2.1, 64, .inl k6)), (yh, .inl (E.2.2.1, 8, .inl k7)), (yc, .inl (E.2.1, 32, .inl cq24)), (yd, .inl (E.2.1, 32, .inl k9)), (yb, .inl (E.2.1, 512, .inl kb)), (yk, .inl (E.2.1, 1920, .inl fq22)), (yz, .inl (E.2.2.1, 24, .inl zq23))] _ _ _ _ d_Mod_act_457 (⟨_, _, _, _, _, _, _, _, rfl, hbq26, Or.inl ⟨(numB (nI x.length) :: x :: S), by show pushE _ _ = _; unfold pushE; rw [if_pos (by first | (simp only [List.length_cons]; omega) | omega)], rfl, by first | rfl | (simp only [List.length_cons]; omega) | (simp only [List.length_cons]), hrq25, by first | (simp only [List.length_cons]; omega) | (simp only [List.length_cons]) | omega⟩⟩) rfl hP hS
    · refine lv_aload_n hx hb d_Mod_act_0 rfl (lv_at hl 0 rfl) ?_
      refine n_get C fg_Mod_66 hP 0 rfl rfl d_Mod_act_1 ?_
      refine lv_iconst (v := nI 2) hx hb d_Mod_act_4 (by decide) ?_
      refine lv_isub hx hb d_Mod_act_5 ?_
      refine lv_istore_n (lv' := [(3, .int ((nI (S.length + 1)) - (nI 2))), (0, .ref y0), (1, .int (nI 85)), (2, .int ht)]) hx hb d_Mod_act_6 rfl hl (by decide) rfl (fun ls hl => ?_)
      refine lv_aload_n hx hb d_Mod_act_7 rfl (lv_at hl 1 rfl) ?_
      refine n_get C fg_Mod_66 hP 0 rfl rfl d_Mod_act_8 ?_
      refine lv_iconst (v := nI 1) hx hb d_Mod_act_11 (by decide) ?_
      refine lv_isub hx hb d_Mod_act_12 ?_
      refine tope (z := nI S.length) ((pk_sub (by omega)).trans (congrArg nI (by omega))) ?_
      refine lv_istore (lv' := [(4, .int (nI S.length)), (3, .int ((nI (S.length + 1)) - (nI 2))), (0, .ref y0), (1, .int (nI 85)), (2, .int ht)]) hx hb d_Mod_act_13 hl (by decide) rfl (fun ls hl => ?_)
      refine lv_iload_n hx hb d_Mod_act_15 rfl (lv_at hl 3 rfl) ?_
      refine lv_bipush (v := nI 82) hx hb d_Mod_act_16 (by decide) ?_
      refine j_eq C 85 82 rfl rfl (by decide) (by decide) d_Mod_act_18 rfl (fun hc29 => absurd hc29 (by decide)) (fun hc29 => ?_)
      refine lv_iload_n hx hb d_Mod_act_21 rfl (lv_at hl 3 rfl) ?_
      refine lv_bipush (v := nI 83) hx hb d_Mod_act_22 (by decide) ?_
      refine j_eq C 85 83 rfl rfl (by decide) (by decide) d_Mod_act_24 rfl (fun hc30 => absurd hc30 (by decide)) (fun hc30 => ?_)
      refine lv_iload_n hx hb d_Mod_act_27 rfl (lv_at hl 3 rfl) ?_
      refine lv_bipush (v := nI 86) hx hb d_Mod_act_28 (by decide) ?_
      refine j_eq C 85 86 rfl rfl (by decide) (by decide) d_Mod_act_30 rfl (fun hc31 => absurd hc31 (by decide)) (fun hc31 => ?_)
      refine lv_iload_n hx hb d_Mod_act_33 rfl (lv_at hl 3 rfl) ?_
      refine lv_bipush (v := nI 89) hx hb d_Mod_act_34 (by decide) ?_
      refine j_lt C 85 89 rfl rfl (by decide) (by decide) d_Mod_act_36 rfl (fun hc32 => ?_) (fun hc32 => absurd hc32 (by decide))
      refine lv_iload_n hx hb d_Mod_act_45 rfl (lv_at hl 3 rfl) ?_
      refine lv_bipush (v := nI 95) hx hb d_Mod_act_46 (by decide) ?_
      refine j_ne C 85 95 rfl rfl (by decide) (by decide) d_Mod_act_48 rfl (fun hc33 => ?_) (fun hc33 => absurd hc33 (by decide))
      refine lv_iconst (v := nI 0) hx hb d_Mod_act_55 (by decide) ?_
      refine lv_istore (lv' := [(5, .int (nI 0)), (4, .int (nI S.length)), (3, .int ((nI (S.length + 1)) - (nI 2))), (0, .ref y0), (1, .int (nI 85)), (2, .int ht)]) hx hb d_Mod_act_56 hl (by decide) rfl (fun ls hl => ?_)
      refine lv_aload_n hx hb d_Mod_act_58 rfl (lv_at hl 3 rfl) ?_
      refine n_get C fg_Mod_66 hP 0 rfl rfl d_Mod_act_59 ?_
      refine lv_iload hx hb d_Mod_act_62 (lv_at hl 0 rfl) ?_
      refine z_eq C 0 rfl (by omega) d_Mod_act_64 rfl (fun hc34 => ?_) (fun hc34 => absurd hc34 (by omega))
      refine lv_iload_n hx hb d_Mod_act_71 rfl (lv_at hl 4 rfl) ?_
      refine lv_bipush (v := nI 102) hx hb d_Mod_act_72 (by decide) ?_
      refine j_ne C 85 102 rfl rfl (by decide) (by decide) d_Mod_act_74 rfl (fun hc35 => ?_) (fun hc35 => absurd hc35 (by decide))
      refine lv_iconst (v := nI 1) hx hb d_Mod_act_81 (by decide) ?_
      refine j_ge C (S.length + 1) 1 rfl rfl (by omega) (by omega) d_Mod_act_82 rfl (fun hc36 => ?_) (fun hc36 => absurd hc36 (by omega))
      refine lv_iload_n hx hb d_Mod_act_87 rfl (lv_at hl 4 rfl) ?_
      refine lv_bipush (v := nI 88) hx hb d_Mod_act_88 (by decide) ?_
      refine j_lt C 85 88 rfl rfl (by decide) (by decide) d_Mod_act_90 rfl (fun hc37 => ?_) (fun hc37 => absurd hc37 (by decide))
      refine lv_iload_n hx hb d_Mod_act_99 rfl (lv_at hl 4 rfl) ?_
      refine lv_bipush (v := nI 96) hx hb d_Mod_act_100 (by decide) ?_
      refine j_ne C 85 96 rfl rfl (by decide) (by decide) d_Mod_act_102 rfl (fun hc38 => ?_) (fun hc38 => absurd hc38 (by decide))
      refine lv_iconst (v := nI 0) hx hb d_Mod_act_109 (by decide) ?_
      refine lv_istore (lv' := [(6, .int (nI 0)), (5, .int (nI 0)), (4, .int (nI S.length)), (3, .int ((nI (S.length + 1)) - (nI 2))), (0, .ref y0), (1, .int (nI 85)), (2, .int ht)]) hx hb d_Mod_act_110 hl (by decide) rfl (fun ls hl => ?_)
      refine lv_iload hx hb d_Mod_act_112 (lv_at hl 0 rfl) ?_
      refine z_eq C 0 rfl (by omega) d_Mod_act_114 rfl (fun hc39 => ?_) (fun hc39 => absurd hc39 (by omega))
      refine lv_iload hx hb d_Mod_act_145 (lv_at hl 1 rfl) ?_
      refine z_eq C 0 rfl (by omega) d_Mod_act_147 rfl (fun hc40 => ?_) (fun hc40 => absurd hc40 (by omega))
      refine lv_iconst (v := nI 0) hx hb d_Mod_act_163 (by decide) ?_
      refine lv_istore (lv' := [(7, .int (nI 0)), (6, .int (nI 0)), (5, .int (nI 0)), (4, .int (nI S.length)), (3, .int ((nI (S.length + 1)) - (nI 2))), (0, .ref y0), (1, .int (nI 85)), (2, .int ht)]) hx hb d_Mod_act_164 hl (by decide) rfl (fun ls hl => ?_)
      refine lv_iload hx hb d_Mod_act_166 (lv_at hl 1 rfl) ?_
      refine z_eq C 0 rfl (by omega) d_Mod_act_168 rfl (fun hc41 => ?_) (fun hc41 => absurd hc41 (by omega))
      refine lv_iconst (v := nI 0) hx hb d_Mod_act_180 (by decide) ?_
      refine lv_istore (lv' := [(8, .int (nI 0)), (7, .int (nI 0)), (6, .int (nI 0)), (5, .int (nI 0)), (4, .int (nI S.length)), (3, .int ((nI (S.length + 1)) - (nI 2))), (0, .ref y0), (1, .int (nI 85)), (2, .int ht)]) hx hb d_Mod_act_181 hl (by decide) rfl (fun ls hl => ?_)
      refine lv_iload_n hx hb d_Mod_act_183 rfl (lv_at hl 7 rfl) ?_
      refine lv_tableIn hx hb d_Mod_act_184 (by decide) (by decide) rfl rfl ?_
      refine lv_aload_n hx hb d_Mod_act_446 rfl (lv_at hl 6 rfl) ?_
      refine lv_aload_n hx hb d_Mod_act_447 rfl (lv_at hl 6 rfl) ?_
      refine n_get C fg_Mod_44 hP 0 rfl rfl d_Mod_act_448 ?_
      refine lv_iload hx hb d_Mod_act_451 (lv_at hl 4 rfl) ?_
      refine n_iald C hP 8 rfl S.length rfl (by omega) (by omega) d_Mod_act_453 ?_
      refine tope (z := nI x.length) (hx1.1) ?_
      refine cal_I (As := [.int (nI x.length)]) (rest := []) C lk_Mod_89 (c_Mod_pushNumber_full l E y0 ya yo ym yl yg yw yh yc yd yb yk yz yr nt no fl f sz k8 (x :: S) (nI x.length) hrep hB (by first | omega | (simp only [List.length_cons]; omega))) (by decide) hP hD hS 0 7 rfl rfl [0, 7, 8, 4] rfl (by decide) hl.1 rfl (Nat.le_of_ble_eq_true rfl) d_Mod_act_454 (fun r43 w1 H locs hp44 hP hD hS => ?_)
      obtain ⟨rfl, cq42, rfl⟩ := hp44
      have hP : va_P E.1 clz [(y0, .inr (7, [.ref ya, .int (nI nt), .ref yo, .int (nI no), .ref ym, .ref yl, .ref yg, .ref yw, .ref yh, .ref yc, .ref yd, .ref yb, .ref yk, .ref yz, .int (nI (S.length + 1)), .int (b2 fl), .ref yr])), (yg, .inl (E.2.1, 32, .inl k5)), (yw, .inl (E.2.2.1, 64, .inl k6)), (yh, .inl (E.2.2.1, 8, .inl k7)), (yc, .inl (E.2.1, 32, .inl cq42)), (yd, .inl (E.2.1, 32, .inl k9)), (yb, .inl (E.2.1, 512, .inl kb)), (yk, .inl (E.2.1, 1920, .inl f)), (yz, .inl (E.2.2.1, 24, .inl sz))] H := hP
      have hD : va_D A [(y0, .inr (7, [.ref ya, .int (nI nt), .ref yo, .int (nI no), .ref ym, .ref yl, .ref yg, .ref yw, .ref yh, .ref yc, .ref yd, .ref yb, .ref yk, .ref yz, .int (nI (S.length + 1)), .int (b2 fl), .ref yr])), (yg, .inl (E.2.1, 32, .inl k5)), (yw, .inl (E.2.2.1, 64, .inl k6)), (yh, .inl (E.2.2.1, 8, .inl k7)), (yc, .inl (E.2.1, 32, .inl cq42)), (yd, .inl (E.2.1, 32, .inl k9)), (yb, .inl (E.2.1, 512, .inl kb)), (yk, .inl (E.2.1, 1920, .inl f)), (yz, .inl (E.2.2.1, 24, .inl sz))] := hD
      exact kret (b2 false) [(y0, .inr (7, [.ref ya, .int (nI nt), .ref yo, .int (nI no), .ref ym, .ref yl, .ref yg, .ref yw, .ref yh, .ref yc, .ref yd, .ref yb, .ref yk, .ref yz, .int (nI (S.length + 1)), .int (b2 fl), .ref yr])), (yg, .inl (E.2.1, 32, .inl k5)), (yw, .inl (E.2.2.1, 64, .inl k6)), (yh, .inl (E.2.2.1, 8, .inl k7)), (yc, .inl (E.2.1, 32, .inl cq42)), (yd, .inl (E.2.1, 32, .inl k9)), (yb, .inl (E.2.1, 512, .inl kb)), (yk, .inl (E.2.1, 1920, .inl f)), (yz, .inl (E.2.2.1, 24, .inl sz))] _ _ _ _ d_Mod_act_457 (⟨_, _, _, _, _, _, _, _, rfl, hB, Or.inr ⟨by show pushE _ _ = _; unfold pushE; rw [if_neg (by first | (simp only [List.length_cons]; omega) | omega)], rfl⟩⟩) rfl hP hS

set_option maxHeartbeats 4000000 in
set_option maxRecDepth 100000 in
theorem c_act_87 (l : Launch) (E : En) (y0 ya yo ym yl yg yw yh yc yd yb yk yz yr nt no : Nat) (fl : Bool) (k5 k6 k7 k8 k9 kb f sz : Nat → Int32) (S : Stk) (msg : Byl) (hrep : rep f sz S) (hB : fB f) (hB5 : fB k5) (hlen : S.length ≤ 24) (hm : lay k5 0 msg) (hm32 : msg.length = 32) (ht : Int32) : CtI l y_Mod_act b_Mod_act 11 .boolean (rmd 4) E [.ref y0, .int (nI 87), .int ht] [(y0, .inr (7, [.ref ya, .int (nI nt), .ref yo, .int (nI no), .ref ym, .ref yl, .ref yg, .ref yw, .ref yh, .ref yc, .ref yd, .ref yb, .ref yk, .ref yz, .int (nI S.length), .int (b2 fl), .ref yr])), (yg, .inl (E.2.1, 32, .inl k5)), (yw, .inl (E.2.2.1, 64, .inl k6)), (yh, .inl (E.2.2.1, 8, .inl k7)), (yc, .inl (E.2.1, 32, .inl k8)), (yd, .inl (E.2.1, 32, .inl k9)), (yb, .inl (E.2.1, 512, .inl kb)), (yk, .inl (E.2.1, 1920, .inl f)), (yz, .inl (E.2.2.1, 24, .inl sz))] (stepM E y0 ya yo ym yl yg yw yh yc yd yb yk yz yr nt no fl k5 (actS 87 ht msg S)) := by
  refine CtI.of (by decide) (Nat.le_of_ble_eq_true rfl) (stepM_nar) ?_
  intro p e s m args below meth c A Q H locs ls C hP hD hS hl kret
  have hx := C.1
  have hb := C.2.1
  have hl : lv_has ls 11 [(0, .ref y0), (1, .int (nI 87)), (2, .int ht)] := hl
  rcases S with _ | ⟨x, S⟩
  · have hP : va_P E.1 clz [(y0, .inr (7, [.ref ya, .int (nI nt), .ref yo, .int (nI no), .ref ym, .ref yl, .ref yg, .ref yw, .ref yh, .ref yc, .ref yd, .ref yb, .ref yk, .ref yz, .int (nI 0), .int (b2 fl), .ref yr])), (yg, .inl (E.2.1, 32, .inl k5)), (yw, .inl (E.2.2.1, 64, .inl k6)), (yh, .inl (E.2.2.1, 8, .inl k7)), (yc, .inl (E.2.1, 32, .inl k8)), (yd, .inl (E.2.1, 32, .inl k9)), (yb, .inl (E.2.1, 512, .inl kb)), (yk, .inl (E.2.1, 1920, .inl f)), (yz, .inl (E.2.2.1, 24, .inl sz))] H := hP
    have hD : va_D A [(y0, .inr (7, [.ref ya, .int (nI nt), .ref yo, .int (nI no), .ref ym, .ref yl, .ref yg, .ref yw, .ref yh, .ref yc, .ref yd, .ref yb, .ref yk, .ref yz, .int (nI 0), .int (b2 fl), .ref yr])), (yg, .inl (E.2.1, 32, .inl k5)), (yw, .inl (E.2.2.1, 64, .inl k6)), (yh, .inl (E.2.2.1, 8, .inl k7)), (yc, .inl (E.2.1, 32, .inl k8)), (yd, .inl (E.2.1, 32, .inl k9)), (yb, .inl (E.2.1, 512, .inl kb)), (yk, .inl (E.2.1, 1920, .inl f)), (yz, .inl (E.2.2.1, 24, .inl sz))] := hD
    refine lv_aload_n hx hb d_Mod_act_0 rfl (lv_at hl 0 rfl) ?_
    refine n_get C fg_Mod_66 hP 0 rfl rfl d_Mod_act_1 ?_
    refine lv_iconst (v := nI 2) hx hb d_Mod_act_4 (by decide) ?_
    refine lv_isub hx hb d_Mod_act_5 ?_
    refine tope (z := (-2)) (by decide) ?_
    refine lv_istore_n (lv' := [(3, .int (-2)), (0, .ref y0), (1, .int (nI 87)), (2, .int ht)]) hx hb d_Mod_act_6 rfl hl (by decide) rfl (fun ls hl => ?_)
    refine lv_aload_n hx hb d_Mod_act_7 rfl (lv_at hl 1 rfl) ?_
    refine n_get C fg_Mod_66 hP 0 rfl rfl d_Mod_act_8 ?_
    refine lv_iconst (v := nI 1) hx hb d_Mod_act_11 (by decide) ?_
    refine lv_isub hx hb d_Mod_act_12 ?_
    refine tope (z := (-1)) (by decide) ?_
    refine lv_istore (lv' := [(4, .int (-1)), (3, .int (-2)), (0, .ref y0), (1, .int (nI 87)), (2, .int ht)]) hx hb d_Mod_act_13 hl (by decide) rfl (fun ls hl => ?_)
    refine lv_iload_n hx hb d_Mod_act_15 rfl (lv_at hl 3 rfl) ?_
    refine lv_bipush (v := nI 82) hx hb d_Mod_act_16 (by decide) ?_
    refine j_eq C 87 82 rfl rfl (by decide) (by decide) d_Mod_act_18 rfl (fun hc1 => absurd hc1 (by decide)) (fun hc1 => ?_)
    refine lv_iload_n hx hb d_Mod_act_21 rfl (lv_at hl 3 rfl) ?_
    refine lv_bipush (v := nI 83) hx hb d_Mod_act_22 (by decide) ?_
    refine j_eq C 87 83 rfl rfl (by decide) (by decide) d_Mod_act_24 rfl (fun hc2 => absurd hc2 (by decide)) (fun hc2 => ?_)
    refine lv_iload_n hx hb d_Mod_act_27 rfl (lv_at hl 3 rfl) ?_
    refine lv_bipush (v := nI 86) hx hb d_Mod_act_28 (by decide) ?_
    refine j_eq C 87 86 rfl rfl (by decide) (by decide) d_Mod_act_30 rfl (fun hc3 => absurd hc3 (by decide)) (fun hc3 => ?_)
    refine lv_iload_n hx hb d_Mod_act_33 rfl (lv_at hl 3 rfl) ?_
    refine lv_bipush (v := nI 89) hx hb d_Mod_act_34 (by decide) ?_
    refine j_lt C 87 89 rfl rfl (by decide) (by decide) d_Mod_act_36 rfl (fun hc4 => ?_) (fun hc4 => absurd hc4 (by decide))
    refine lv_iload_n hx hb d_Mod_act_45 rfl (lv_at hl 3 rfl) ?_
    refine lv_bipush (v := nI 95) hx hb d_Mod_act_46 (by decide) ?_
    refine j_ne C 87 95 rfl rfl (by decide) (by decide) d_Mod_act_48 rfl (fun hc5 => ?_) (fun hc5 => absurd hc5 (by decide))
    refine lv_iconst (v := nI 0) hx hb d_Mod_act_55 (by decide) ?_
    refine lv_istore (lv' := [(5, .int (nI 0)), (4, .int (-1)), (3, .int (-2)), (0, .ref y0), (1, .int (nI 87)), (2, .int ht)]) hx hb d_Mod_act_56 hl (by decide) rfl (fun ls hl => ?_)
    refine lv_aload_n hx hb d_Mod_act_58 rfl (lv_at hl 3 rfl) ?_
    refine n_get C fg_Mod_66 hP 0 rfl rfl d_Mod_act_59 ?_
    refine lv_iload hx hb d_Mod_act_62 (lv_at hl 0 rfl) ?_
    refine z_eq C 0 rfl (by omega) d_Mod_act_64 rfl (fun hc6 => ?_) (fun hc6 => absurd hc6 (by omega))
    refine lv_iload_n hx hb d_Mod_act_71 rfl (lv_at hl 4 rfl) ?_
    refine lv_bipush (v := nI 102) hx hb d_Mod_act_72 (by decide) ?_
    refine j_ne C 87 102 rfl rfl (by decide) (by decide) d_Mod_act_74 rfl (fun hc7 => ?_) (fun hc7 => absurd hc7 (by decide))
    refine lv_iconst (v := nI 1) hx hb d_Mod_act_81 (by decide) ?_
    refine j_ge C 0 1 rfl rfl (by decide) (by decide) d_Mod_act_82 rfl (fun hc8 => absurd hc8 (by decide)) (fun hc8 => ?_)
    refine lv_iconst (v := nI 0) hx hb d_Mod_act_85 (by decide) ?_
    exact kret (nI 0) [(y0, .inr (7, [.ref ya, .int (nI nt), .ref yo, .int (nI no), .ref ym, .ref yl, .ref yg, .ref yw, .ref yh, .ref yc, .ref yd, .ref yb, .ref yk, .ref yz, .int (nI 0), .int (b2 fl), .ref yr])), (yg, .inl (E.2.1, 32, .inl k5)), (yw, .inl (E.2.2.1, 64, .inl k6)), (yh, .inl (E.2.2.1, 8, .inl k7)), (yc, .inl (E.2.1, 32, .inl k8)), (yd, .inl (E.2.1, 32, .inl k9)), (yb, .inl (E.2.1, 512, .inl kb)), (yk, .inl (E.2.1, 1920, .inl f)), (yz, .inl (E.2.2.1, 24, .inl sz))] _ _ _ _ d_Mod_act_86 (⟨_, _, _, _, _, _, _, _, rfl, hB, Or.inr ⟨rfl, rfl⟩⟩) rfl hP hS
  · have hx1 : sz S.length = nI x.length ∧ x.length ≤ 80 ∧ lay f (S.length * 80) x := rep_top hrep
    have hr0 : rep f sz S := rep_tail hrep
    have hlen : S.length + 1 ≤ 24 := hlen
    have hP : va_P E.1 clz [(y0, .inr (7, [.ref ya, .int (nI nt), .ref yo, .int (nI no), .ref ym, .ref yl, .ref yg, .ref yw, .ref yh, .ref yc, .ref yd, .ref yb, .ref yk, .ref yz, .int (nI (S.length + 1)), .int (b2 fl), .ref yr])), (yg, .inl (E.2.1, 32, .inl k5)), (yw, .inl (E.2.2.1, 64, .inl k6)), (yh, .inl (E.2.2.1, 8, .inl k7)), (yc, .inl (E.2.1, 32, .inl k8)), (yd, .inl (E.2.1, 32, .inl k9)), (yb, .inl (E.2.1, 512, .inl kb)), (yk, .inl (E.2.1, 1920, .inl f)), (yz, .inl (E.2.2.1, 24, .inl sz))] H := hP
    have hD : va_D A [(y0, .inr (7, [.ref ya, .int (nI nt), .ref yo, .int (nI no), .ref ym, .ref yl, .ref yg, .ref yw, .ref yh, .ref yc, .ref yd, .ref yb, .ref yk, .ref yz, .int (nI (S.length + 1)), .int (b2 fl), .ref yr])), (yg, .inl (E.2.1, 32, .inl k5)), (yw, .inl (E.2.2.1, 64, .inl k6)), (yh, .inl (E.2.2.1, 8, .inl k7)), (yc, .inl (E.2.1, 32, .inl k8)), (yd, .inl (E.2.1, 32, .inl k9)), (yb, .inl (E.2.1, 512, .inl kb)), (yk, .inl (E.2.1, 1920, .inl f)), (yz, .inl (E.2.2.1, 24, .inl sz))] := hD
    refine lv_aload_n hx hb d_Mod_act_0 rfl (lv_at hl 0 rfl) ?_
    refine n_get C fg_Mod_66 hP 0 rfl rfl d_Mod_act_1 ?_
    refine lv_iconst (v := nI 2) hx hb d_Mod_act_4 (by decide) ?_
    refine lv_isub hx hb d_Mod_act_5 ?_
    refine lv_istore_n (lv' := [(3, .int ((nI (S.length + 1)) - (nI 2))), (0, .ref y0), (1, .int (nI 87)), (2, .int ht)]) hx hb d_Mod_act_6 rfl hl (by decide) rfl (fun ls hl => ?_)
    refine lv_aload_n hx hb d_Mod_act_7 rfl (lv_at hl 1 rfl) ?_
    refine n_get C fg_Mod_66 hP 0 rfl rfl d_Mod_act_8 ?_
    refine lv_iconst (v := nI 1) hx hb d_Mod_act_11 (by decide) ?_
    refine lv_isub hx hb d_Mod_act_12 ?_
    refine tope (z := nI S.length) ((pk_sub (by omega)).trans (congrArg nI (by omega))) ?_
    refine lv_istore (lv' := [(4, .int (nI S.length)), (3, .int ((nI (S.length + 1)) - (nI 2))), (0, .ref y0), (1, .int (nI 87)), (2, .int ht)]) hx hb d_Mod_act_13 hl (by decide) rfl (fun ls hl => ?_)
    refine lv_iload_n hx hb d_Mod_act_15 rfl (lv_at hl 3 rfl) ?_
    refine lv_bipush (v := nI 82) hx hb d_Mod_act_16 (by decide) ?_
    refine j_eq C 87 82 rfl rfl (by decide) (by decide) d_Mod_act_18 rfl (fun hc9 => absurd hc9 (by decide)) (fun hc9 => ?_)
    refine lv_iload_n hx hb d_Mod_act_21 rfl (lv_at hl 3 rfl) ?_
    refine lv_bipush (v := nI 83) hx hb d_Mod_act_22 (by decide) ?_
    refine j_eq C 87 83 rfl rfl (by decide) (by decide) d_Mod_act_24 rfl (fun hc10 => absurd hc10 (by decide)) (fun hc10 => ?_)
    refine lv_iload_n hx hb d_Mod_act_27 rfl (lv_at hl 3 rfl) ?_
    refine lv_bipush (v := nI 86) hx hb d_Mod_act_28 (by decide) ?_
    refine j_eq C 87 86 rfl rfl (by decide) (by decide) d_Mod_act_30 rfl (fun hc11 => absurd hc11 (by decide)) (fun hc11 => ?_)
    refine lv_iload_n hx hb d_Mod_act_33 rfl (lv_at hl 3 rfl) ?_
    refine lv_bipush (v := nI 89) hx hb d_Mod_act_34 (by decide) ?_
    refine j_lt C 87 89 rfl rfl (by decide) (by decide) d_Mod_act_36 rfl (fun hc12 => ?_) (fun hc12 => absurd hc12 (by decide))
    refine lv_iload_n hx hb d_Mod_act_45 rfl (lv_at hl 3 rfl) ?_
    refine lv_bipush (v := nI 95) hx hb d_Mod_act_46 (by decide) ?_
    refine j_ne C 87 95 rfl rfl (by decide) (by decide) d_Mod_act_48 rfl (fun hc13 => ?_) (fun hc13 => absurd hc13 (by decide))
    refine lv_iconst (v := nI 0) hx hb d_Mod_act_55 (by decide) ?_
    refine lv_istore (lv' := [(5, .int (nI 0)), (4, .int (nI S.length)), (3, .int ((nI (S.length + 1)) - (nI 2))), (0, .ref y0), (1, .int (nI 87)), (2, .int ht)]) hx hb d_Mod_act_56 hl (by decide) rfl (fun ls hl => ?_)
    refine lv_aload_n hx hb d_Mod_act_58 rfl (lv_at hl 3 rfl) ?_
    refine n_get C fg_Mod_66 hP 0 rfl rfl d_Mod_act_59 ?_
    refine lv_iload hx hb d_Mod_act_62 (lv_at hl 0 rfl) ?_
    refine z_eq C 0 rfl (by omega) d_Mod_act_64 rfl (fun hc14 => ?_) (fun hc14 => absurd hc14 (by omega))
    refine lv_iload_n hx hb d_Mod_act_71 rfl (lv_at hl 4 rfl) ?_
    refine lv_bipush (v := nI 102) hx hb d_Mod_act_72 (by decide) ?_
    refine j_ne C 87 102 rfl rfl (by decide) (by decide) d_Mod_act_74 rfl (fun hc15 => ?_) (fun hc15 => absurd hc15 (by decide))
    refine lv_iconst (v := nI 1) hx hb d_Mod_act_81 (by decide) ?_
    refine j_ge C (S.length + 1) 1 rfl rfl (by omega) (by omega) d_Mod_act_82 rfl (fun hc16 => ?_) (fun hc16 => absurd hc16 (by omega))
    refine lv_iload_n hx hb d_Mod_act_87 rfl (lv_at hl 4 rfl) ?_
    refine lv_bipush (v := nI 88) hx hb d_Mod_act_88 (by decide) ?_
    refine j_lt C 87 88 rfl rfl (by decide) (by decide) d_Mod_act_90 rfl (fun hc17 => ?_) (fun hc17 => absurd hc17 (by decide))
    refine lv_iload_n hx hb d_Mod_act_99 rfl (lv_at hl 4 rfl) ?_
    refine lv_bipush (v := nI 96) hx hb d_Mod_act_100 (by decide) ?_
    refine j_ne C 87 96 rfl rfl (by decide) (by decide) d_Mod_act_102 rfl (fun hc18 => ?_) (fun hc18 => absurd hc18 (by decide))
    refine lv_iconst (v := nI 0) hx hb d_Mod_act_109 (by decide) ?_
    refine lv_istore (lv' := [(6, .int (nI 0)), (5, .int (nI 0)), (4, .int (nI S.length)), (3, .int ((nI (S.length + 1)) - (nI 2))), (0, .ref y0), (1, .int (nI 87)), (2, .int ht)]) hx hb d_Mod_act_110 hl (by decide) rfl (fun ls hl => ?_)
    refine lv_iload hx hb d_Mod_act_112 (lv_at hl 0 rfl) ?_
    refine z_eq C 0 rfl (by omega) d_Mod_act_114 rfl (fun hc19 => ?_) (fun hc19 => absurd hc19 (by omega))
    refine lv_iload hx hb d_Mod_act_145 (lv_at hl 1 rfl) ?_
    refine z_eq C 0 rfl (by omega) d_Mod_act_147 rfl (fun hc20 => ?_) (fun hc20 => absurd hc20 (by omega))
    refine lv_iconst (v := nI 0) hx hb d_Mod_act_163 (by decide) ?_
    refine lv_istore (lv' := [(7, .int (nI 0)), (6, .int (nI 0)), (5, .int (nI 0)), (4, .int (nI S.length)), (3, .int ((nI (S.length + 1)) - (nI 2))), (0, .ref y0), (1, .int (nI 87)), (2, .int ht)]) hx hb d_Mod_act_164 hl (by decide) rfl (fun ls hl => ?_)
    refine lv_iload hx hb d_Mod_act_166 (lv_at hl 1 rfl) ?_
    refine z_eq C 0 rfl (by omega) d_Mod_act_168 rfl (fun hc21 => ?_) (fun hc21 => absurd hc21 (by omega))
    refine lv_iconst (v := nI 0) hx hb d_Mod_act_180 (by decide) ?_
    refine lv_istore (lv' := [(8, .int (nI 0)), (7, .int (nI 0)), (6, .int (nI 0)), (5, .int (nI 0)), (4, .int (nI S.length)), (3, .int ((nI (S.length + 1)) - (nI 2))), (0, .ref y0), (1, .int (nI 87)), (2, .int ht)]) hx hb d_Mod_act_181 hl (by decide) rfl (fun ls hl => ?_)
    refine lv_iload_n hx hb d_Mod_act_183 rfl (lv_at hl 7 rfl) ?_
    refine lv_tableIn hx hb d_Mod_act_184 (by decide) (by decide) rfl rfl ?_
    refine lv_aload_n hx hb d_Mod_act_523 rfl (lv_at hl 6 rfl) ?_
    refine lv_dup hx hb d_Mod_act_524 rfl ?_
    refine n_get C fg_Mod_66 hP 0 rfl rfl d_Mod_act_525 ?_
    refine lv_iconst (v := nI 1) hx hb d_Mod_act_528 (by decide) ?_
    refine lv_isub hx hb d_Mod_act_529 ?_
    refine tope (z := nI S.length) ((pk_sub (by omega)).trans (congrArg nI (by omega))) ?_
    refine n_put (v := .int (nI S.length)) C fp_Mod_66 hP hD hS 0 rfl (rfl) rfl (Nat.le_of_ble_eq_true rfl) d_Mod_act_530 (fun H locs hP hD hS => ?_)
    have hP : va_P E.1 clz [(y0, .inr (7, [.ref ya, .int (nI nt), .ref yo, .int (nI no), .ref ym, .ref yl, .ref yg, .ref yw, .ref yh, .ref yc, .ref yd, .ref yb, .ref yk, .ref yz, .int (nI S.length), .int (b2 fl), .ref yr])), (yg, .inl (E.2.1, 32, .inl k5)), (yw, .inl (E.2.2.1, 64, .inl k6)), (yh, .inl (E.2.2.1, 8, .inl k7)), (yc, .inl (E.2.1, 32, .inl k8)), (yd, .inl (E.2.1, 32, .inl k9)), (yb, .inl (E.2.1, 512, .inl kb)), (yk, .inl (E.2.1, 1920, .inl f)), (yz, .inl (E.2.2.1, 24, .inl sz))] H := hP
    have hD : va_D A [(y0, .inr (7, [.ref ya, .int (nI nt), .ref yo, .int (nI no), .ref ym, .ref yl, .ref yg, .ref yw, .ref yh, .ref yc, .ref yd, .ref yb, .ref yk, .ref yz, .int (nI S.length), .int (b2 fl), .ref yr])), (yg, .inl (E.2.1, 32, .inl k5)), (yw, .inl (E.2.2.1, 64, .inl k6)), (yh, .inl (E.2.2.1, 8, .inl k7)), (yc, .inl (E.2.1, 32, .inl k8)), (yd, .inl (E.2.1, 32, .inl k9)), (yb, .inl (E.2.1, 512, .inl kb)), (yk, .inl (E.2.1, 1920, .inl f)), (yz, .inl (E.2.2.1, 24, .inl sz))] := hD
    refine lv_aload_n hx hb d_Mod_act_533 rfl (lv_at hl 6 rfl) ?_
    refine lv_iload hx hb d_Mod_act_534 (lv_at hl 4 rfl) ?_
    refine cal_I (As := [.int (nI S.length)]) (rest := []) C lk_Mod_93 (c_Mod_isTrue l E y0 ya yo ym yl yg yw yh yc yd yb yk yz yr nt no S.length fl f sz S.length x (by omega) hx1.1 hx1.2.1 hx1.2.2) (by decide) hP hD hS 0 7 rfl rfl [0, 7, 8] rfl (by decide) hl.1 rfl (Nat.le_of_ble_eq_true rfl) d_Mod_act_536 (fun r22 w1 H locs hp23 hP hD hS => ?_)
    obtain ⟨rfl, rfl⟩ := hp23
    have hP : va_P E.1 clz [(y0, .inr (7, [.ref ya, .int (nI nt), .ref yo, .int (nI no), .ref ym, .ref yl, .ref yg, .ref yw, .ref yh, .ref yc, .ref yd, .ref yb, .ref yk, .ref yz, .int (nI S.length), .int (b2 fl), .ref yr])), (yg, .inl (E.2.1, 32, .inl k5)), (yw, .inl (E.2.2.1, 64, .inl k6)), (yh, .inl (E.2.2.1, 8, .inl k7)), (yc, .inl (E.2.1, 32, .inl k8)), (yd, .inl (E.2.1, 32, .inl k9)), (yb, .inl (E.2.1, 512, .inl kb)), (yk, .inl (E.2.1, 1920, .inl f)), (yz, .inl (E.2.2.1, 24, .inl sz))] H := hP
    have hD : va_D A [(y0, .inr (7, [.ref ya, .int (nI nt), .ref yo, .int (nI no), .ref ym, .ref yl, .ref yg, .ref yw, .ref yh, .ref yc, .ref yd, .ref yb, .ref yk, .ref yz, .int (nI S.length), .int (b2 fl), .ref yr])), (yg, .inl (E.2.1, 32, .inl k5)), (yw, .inl (E.2.2.1, 64, .inl k6)), (yh, .inl (E.2.2.1, 8, .inl k7)), (yc, .inl (E.2.1, 32, .inl k8)), (yd, .inl (E.2.1, 32, .inl k9)), (yb, .inl (E.2.1, 512, .inl kb)), (yk, .inl (E.2.1, 1920, .inl f)), (yz, .inl (E.2.2.1, 24, .inl sz))] := hD
    exact kret (b2 (isT x)) [(y0, .inr (7, [.ref ya, .int (nI nt), .ref yo, .int (nI no), .ref ym, .ref yl, .ref yg, .ref yw, .ref yh, .ref yc, .ref yd, .ref yb, .ref yk, .ref yz, .int (nI S.length), .int (b2 fl), .ref yr])), (yg, .inl (E.2.1, 32, .inl k5)), (yw, .inl (E.2.2.1, 64, .inl k6)), (yh, .inl (E.2.2.1, 8, .inl k7)), (yc, .inl (E.2.1, 32, .inl k8)), (yd, .inl (E.2.1, 32, .inl k9)), (yb, .inl (E.2.1, 512, .inl kb)), (yk, .inl (E.2.1, 1920, .inl f)), (yz, .inl (E.2.2.1, 24, .inl sz))] _ _ _ _ d_Mod_act_539 (by cases hT : isT x; exact ⟨_, _, _, _, _, _, _, _, rfl, hB, Or.inr ⟨by show (if _ then some _ else none) = _; rw [if_neg (by rw [hT]; decide)], rfl⟩⟩; exact ⟨_, _, _, _, _, _, _, _, rfl, hB, Or.inl ⟨S, by show (if _ then some _ else none) = _; rw [if_pos hT], rfl, by first | rfl | (simp only [List.length_cons]; omega) | (simp only [List.length_cons]), hr0, by first | (simp only [List.length_cons]; omega) | (simp only [List.length_cons]) | omega⟩⟩) rfl hP hS
