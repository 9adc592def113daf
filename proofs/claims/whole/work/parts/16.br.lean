theorem shutS_le : ∀ bs : List Bool, shutS bs ≤ bs.length := by
  intro bs
  induction bs with
  | nil => exact Nat.le_refl _
  | cons b r ih =>
    unfold shutS
    simp only [List.length_cons]
    split
    · split <;> omega
    · omega
theorem shutS_c (q : Bool) (br : List Bool) : shutS (q :: br) = if shutS br = 0 then (if q = true then 0 else br.length + 1) else shutS br := rfl
theorem turn_a {q : Bool} {br : List Bool} (h : shutS (q :: br) = 0) : br.length + 1 = shutS ((!q) :: br) := by
  rw [shutS_c] at h ⊢
  by_cases h1 : shutS br = 0
  · rw [if_pos h1] at h ⊢
    cases q
    · simp at h
    · rfl
  · rw [if_neg h1] at h; exact absurd h h1
theorem turn_b {q : Bool} {br : List Bool} (h : shutS (q :: br) = br.length + 1) : 0 = shutS ((!q) :: br) := by
  have h9 := shutS_le br
  rw [shutS_c] at h ⊢
  by_cases h1 : shutS br = 0
  · rw [if_pos h1] at h ⊢
    cases q
    · rfl
    · simp at h
  · rw [if_neg h1] at h; omega
theorem turn_c {q : Bool} {br : List Bool} (h0 : ¬ shutS (q :: br) = 0) (h : ¬ shutS (q :: br) = br.length + 1) : shutS (q :: br) = shutS ((!q) :: br) := by
  rw [shutS_c] at h0 h ⊢
  rw [shutS_c]
  by_cases h1 : shutS br = 0
  · rw [if_pos h1] at h0 h
    cases q
    · simp at h
    · simp at h0
  · rw [if_neg h1, if_neg h1]
theorem leave_b {q : Bool} {br : List Bool} (h : shutS (q :: br) = br.length + 1) : 0 = shutS br := by
  have h9 := shutS_le br
  rw [shutS_c] at h
  by_cases h1 : shutS br = 0
  · exact h1.symm
  · rw [if_neg h1] at h; omega
theorem leave_c {q : Bool} {br : List Bool} (h : ¬ shutS (q :: br) = br.length + 1) : shutS (q :: br) = shutS br := by
  rw [shutS_c] at h ⊢
  by_cases h1 : shutS br = 0
  · rw [if_pos h1] at h ⊢
    cases q
    · simp at h
    · simp [h1]
  · rw [if_neg h1]
theorem enter_a {bs : List Bool} (h : shutS bs = 0) : bs.length + 1 = shutS (false :: bs) := by rw [shutS_c, if_pos h]; rfl
theorem enter_b {bs : List Bool} {t : Bool} (h : ¬ shutS bs = 0) : shutS bs = shutS (t :: bs) := by rw [shutS_c, if_neg h]
theorem enter_c {bs : List Bool} (h : shutS bs = 0) : shutS bs = shutS (true :: bs) := by rw [shutS_c, if_pos h]; exact h

set_option maxHeartbeats 4000000 in
set_option maxRecDepth 100000 in
theorem c_Br_clear (l : Launch) (E : En) (c0 a b : Nat) : CtV l y_Br_clear b_Br_clear 1 (rmd 0) E [.ref c0] [(c0, .inr (0, [.int (nI a), .int (nI b)]))] (fun w => w = [(c0, .inr (0, [.int (nI 0), .int (nI 0)]))]) := by
  refine CtV.of (by decide) (Nat.le_of_ble_eq_true rfl) ?_
  intro p e s m args below meth c A Q H locs ls C hP hD hS hl kret
  have hx := C.1
  have hb := C.2.1
  have hl : lv_has ls 1 [(0, .ref c0)] := hl
  refine lv_aload_n hx hb d_Br_clear_0 rfl (lv_at hl 0 rfl) ?_
  refine lv_iconst (v := nI 0) hx hb d_Br_clear_1 (by decide) ?_
  refine n_put (v := .int (nI 0)) C fp_Br_7 hP hD hS 0 rfl (rfl) rfl (Nat.le_of_ble_eq_true rfl) d_Br_clear_2 (fun H locs hP hD hS => ?_)
  have hP : va_P E.1 clz [(c0, .inr (0, [.int (nI 0), .int (nI b)]))] H := hP
  have hD : va_D A [(c0, .inr (0, [.int (nI 0), .int (nI b)]))] := hD
  refine lv_aload_n hx hb d_Br_clear_5 rfl (lv_at hl 0 rfl) ?_
  refine lv_iconst (v := nI 0) hx hb d_Br_clear_6 (by decide) ?_
  refine n_put (v := .int (nI 0)) C fp_Br_13 hP hD hS 0 rfl (rfl) rfl (Nat.le_of_ble_eq_true rfl) d_Br_clear_7 (fun H locs hP hD hS => ?_)
  have hP : va_P E.1 clz [(c0, .inr (0, [.int (nI 0), .int (nI 0)]))] H := hP
  have hD : va_D A [(c0, .inr (0, [.int (nI 0), .int (nI 0)]))] := hD
  exact kret [(c0, .inr (0, [.int (nI 0), .int (nI 0)]))] _ _ _ _ d_Br_clear_10 (rfl) rfl hP hS

set_option maxHeartbeats 4000000 in
set_option maxRecDepth 100000 in
theorem c_Br_allEnded (l : Launch) (E : En) (c0 a b : Nat) (ha : a < 2 ^ 31) : CtI l y_Br_allEnded b_Br_allEnded 1 .boolean (rmd 0) E [.ref c0] [(c0, .inr (0, [.int (nI a), .int (nI b)]))] (fun r w => r = b2 (decide (a = 0)) ∧ w = [(c0, .inr (0, [.int (nI a), .int (nI b)]))]) := by
  refine CtI.of (by decide) (Nat.le_of_ble_eq_true rfl) (fun r w h => by obtain ⟨rfl, _⟩ := h; exact b2_nar _) ?_
  intro p e s m args below meth c A Q H locs ls C hP hD hS hl kret
  have hx := C.1
  have hb := C.2.1
  have hl : lv_has ls 1 [(0, .ref c0)] := hl
  refine lv_aload_n hx hb d_Br_allEnded_0 rfl (lv_at hl 0 rfl) ?_
  refine n_get C fg_Br_7 hP 0 rfl rfl d_Br_allEnded_1 ?_
  refine z_ne C a rfl (by omega) d_Br_allEnded_4 rfl (fun hc1 => ?_) (fun hc1 => ?_)
  · refine lv_iconst (v := nI 0) hx hb d_Br_allEnded_11 (by decide) ?_
    exact kret (nI 0) [(c0, .inr (0, [.int (nI a), .int (nI b)]))] _ _ _ _ d_Br_allEnded_12 (⟨by first | exact b2_t (decide_eq_true (by omega)) | exact b2_f (decide_eq_false (by omega)), rfl⟩) rfl hP hS
  · refine lv_iconst (v := nI 1) hx hb d_Br_allEnded_7 (by decide) ?_
    refine lv_goto hx hb d_Br_allEnded_8 rfl ?_
    exact kret (nI 1) [(c0, .inr (0, [.int (nI a), .int (nI b)]))] _ _ _ _ d_Br_allEnded_12 (⟨by first | exact b2_t (decide_eq_true (by omega)) | exact b2_f (decide_eq_false (by omega)), rfl⟩) rfl hP hS

set_option maxHeartbeats 4000000 in
set_option maxRecDepth 100000 in
theorem c_Br_isDone (l : Launch) (E : En) (c0 a b : Nat) (hb9 : b < 2 ^ 31) : CtI l y_Br_isDone b_Br_isDone 1 .boolean (rmd 0) E [.ref c0] [(c0, .inr (0, [.int (nI a), .int (nI b)]))] (fun r w => r = b2 (decide (b = 0)) ∧ w = [(c0, .inr (0, [.int (nI a), .int (nI b)]))]) := by
  refine CtI.of (by decide) (Nat.le_of_ble_eq_true rfl) (fun r w h => by obtain ⟨rfl, _⟩ := h; exact b2_nar _) ?_
  intro p e s m args below meth c A Q H locs ls C hP hD hS hl kret
  have hx := C.1
  have hb := C.2.1
  have hl : lv_has ls 1 [(0, .ref c0)] := hl
  refine lv_aload_n hx hb d_Br_isDone_0 rfl (lv_at hl 0 rfl) ?_
  refine n_get C fg_Br_13 hP 0 rfl rfl d_Br_isDone_1 ?_
  refine z_ne C b rfl (by omega) d_Br_isDone_4 rfl (fun hc1 => ?_) (fun hc1 => ?_)
  · refine lv_iconst (v := nI 0) hx hb d_Br_isDone_11 (by decide) ?_
    exact kret (nI 0) [(c0, .inr (0, [.int (nI a), .int (nI b)]))] _ _ _ _ d_Br_isDone_12 (⟨by first | exact b2_t (decide_eq_true (by omega)) | exact b2_f (decide_eq_false (by omega)), rfl⟩) rfl hP hS
  · refine lv_iconst (v := nI 1) hx hb d_Br_isDone_7 (by decide) ?_
    refine lv_goto hx hb d_Br_isDone_8 rfl ?_
    exact kret (nI 1) [(c0, .inr (0, [.int (nI a), .int (nI b)]))] _ _ _ _ d_Br_isDone_12 (⟨by first | exact b2_t (decide_eq_true (by omega)) | exact b2_f (decide_eq_false (by omega)), rfl⟩) rfl hP hS

set_option maxHeartbeats 4000000 in
set_option maxRecDepth 100000 in
theorem c_Br_enter (l : Launch) (E : En) (c0 : Nat) (bs : List Bool) (t : Bool) (hbs : bs.length < 1000) : CtV l y_Br_enter b_Br_enter 2 (rmd 1) E [.ref c0, .int (b2 t)] [(c0, .inr (0, [.int (nI bs.length), .int (nI (shutS bs))]))] (fun w => ∃ b9 : Nat, w = [(c0, .inr (0, [.int (nI (bs.length + 1)), .int (nI b9)]))] ∧ b9 = shutS (t :: bs)) := by
  refine CtV.of (by decide) (Nat.le_of_ble_eq_true rfl) ?_
  intro p e s m args below meth c A Q H locs ls C hP hD hS hl kret
  have hx := C.1
  have hb := C.2.1
  have hl : lv_has ls 2 [(0, .ref c0), (1, .int (b2 t))] := hl
  refine lv_aload_n hx hb d_Br_enter_0 rfl (lv_at hl 0 rfl) ?_
  refine lv_dup hx hb d_Br_enter_1 rfl ?_
  refine n_get C fg_Br_7 hP 0 rfl rfl d_Br_enter_2 ?_
  refine lv_iconst (v := nI 1) hx hb d_Br_enter_5 (by decide) ?_
  refine lv_iadd hx hb d_Br_enter_6 ?_
  refine tope (z := nI (bs.length + 1)) (nI_add _ _) ?_
  refine n_put (v := .int (nI (bs.length + 1))) C fp_Br_7 hP hD hS 0 rfl (rfl) rfl (Nat.le_of_ble_eq_true rfl) d_Br_enter_7 (fun H locs hP hD hS => ?_)
  have hP : va_P E.1 clz [(c0, .inr (0, [.int (nI (bs.length + 1)), .int (nI (shutS bs))]))] H := hP
  have hD : va_D A [(c0, .inr (0, [.int (nI (bs.length + 1)), .int (nI (shutS bs))]))] := hD
  refine lv_aload_n hx hb d_Br_enter_10 rfl (lv_at hl 0 rfl) ?_
  refine cal_I (As := []) (rest := []) C lk_Br_16 (c_Br_isDone l E c0 (bs.length + 1) (shutS bs) (by first | omega | exact Nat.lt_of_le_of_lt (shutS_le _) (by first | omega | (simp only [List.length_cons]; omega)))) (by decide) hP hD hS 0 0 rfl rfl [0] rfl (by decide) hl.1 rfl (Nat.le_of_ble_eq_true rfl) d_Br_enter_11 (fun r1 w1 H locs hp2 hP hD hS => ?_)
  obtain ⟨rfl, rfl⟩ := hp2
  have hP : va_P E.1 clz [(c0, .inr (0, [.int (nI (bs.length + 1)), .int (nI (shutS bs))]))] H := hP
  have hD : va_D A [(c0, .inr (0, [.int (nI (bs.length + 1)), .int (nI (shutS bs))]))] := hD
  refine zb_eq C (decide (shutS bs = 0)) rfl d_Br_enter_14 rfl (fun hc3 => ?_) (fun hc3 => ?_)
  · exact kret [(c0, .inr (0, [.int (nI (bs.length + 1)), .int (nI (shutS bs))]))] _ _ _ _ d_Br_enter_29 (⟨_, rfl, by first | exact enter_a (of_decide_eq_true (by assumption)) | exact enter_b (of_decide_eq_false (by assumption)) | exact enter_c (of_decide_eq_true (by assumption))⟩) rfl hP hS
  · refine lv_iload_n hx hb d_Br_enter_17 rfl (lv_at hl 1 rfl) ?_
    refine zb_ne C t rfl d_Br_enter_18 rfl (fun hc4 => ?_) (fun hc4 => ?_)
    · subst hc4
      exact kret [(c0, .inr (0, [.int (nI (bs.length + 1)), .int (nI (shutS bs))]))] _ _ _ _ d_Br_enter_29 (⟨_, rfl, by first | exact enter_a (of_decide_eq_true (by assumption)) | exact enter_b (of_decide_eq_false (by assumption)) | exact enter_c (of_decide_eq_true (by assumption))⟩) rfl hP hS
    · subst hc4
      refine lv_aload_n hx hb d_Br_enter_21 rfl (lv_at hl 0 rfl) ?_
      refine lv_aload_n hx hb d_Br_enter_22 rfl (lv_at hl 0 rfl) ?_
      refine n_get C fg_Br_7 hP 0 rfl rfl d_Br_enter_23 ?_
      refine n_put (v := .int (nI (bs.length + 1))) C fp_Br_13 hP hD hS 0 rfl (rfl) rfl (Nat.le_of_ble_eq_true rfl) d_Br_enter_26 (fun H locs hP hD hS => ?_)
      have hP : va_P E.1 clz [(c0, .inr (0, [.int (nI (bs.length + 1)), .int (nI (bs.length + 1))]))] H := hP
      have hD : va_D A [(c0, .inr (0, [.int (nI (bs.length + 1)), .int (nI (bs.length + 1))]))] := hD
      exact kret [(c0, .inr (0, [.int (nI (bs.length + 1)), .int (nI (bs.length + 1))]))] _ _ _ _ d_Br_enter_29 (⟨_, rfl, by first | exact enter_a (of_decide_eq_true (by assumption)) | exact enter_b (of_decide_eq_false (by assumption)) | exact enter_c (of_decide_eq_true (by assumption))⟩) rfl hP hS

set_option maxHeartbeats 4000000 in
set_option maxRecDepth 100000 in
theorem c_Br_turn (l : Launch) (E : En) (c0 : Nat) (q : Bool) (br : List Bool) (hbs : br.length < 1000) : CtI l y_Br_turn b_Br_turn 1 .boolean (rmd 1) E [.ref c0] [(c0, .inr (0, [.int (nI (br.length + 1)), .int (nI (shutS (q :: br)))]))] (fun r w => r = b2 true ∧ ∃ b9 : Nat, w = [(c0, .inr (0, [.int (nI (br.length + 1)), .int (nI b9)]))] ∧ b9 = shutS ((!q) :: br)) := by
  refine CtI.of (by decide) (Nat.le_of_ble_eq_true rfl) (fun r w h => by obtain ⟨rfl, _⟩ := h; exact b2_nar _) ?_
  intro p e s m args below meth c A Q H locs ls C hP hD hS hl kret
  have hx := C.1
  have hb := C.2.1
  have hl : lv_has ls 1 [(0, .ref c0)] := hl
  have hb8 := shutS_le (q :: br)
  simp only [List.length_cons] at hb8
  refine lv_aload_n hx hb d_Br_turn_0 rfl (lv_at hl 0 rfl) ?_
  refine n_get C fg_Br_7 hP 0 rfl rfl d_Br_turn_1 ?_
  refine z_ne C (br.length + 1) rfl (by omega) d_Br_turn_4 rfl (fun hc1 => ?_) (fun hc1 => absurd hc1 (by omega))
  refine lv_aload_n hx hb d_Br_turn_9 rfl (lv_at hl 0 rfl) ?_
  refine cal_I (As := []) (rest := []) C lk_Br_16 (c_Br_isDone l E c0 (br.length + 1) (shutS (q :: br)) (by first | omega | exact Nat.lt_of_le_of_lt (shutS_le _) (by first | omega | (simp only [List.length_cons]; omega)))) (by decide) hP hD hS 0 0 rfl rfl [0] rfl (by decide) hl.1 rfl (Nat.le_of_ble_eq_true rfl) d_Br_turn_10 (fun r2 w1 H locs hp3 hP hD hS => ?_)
  obtain ⟨rfl, rfl⟩ := hp3
  have hP : va_P E.1 clz [(c0, .inr (0, [.int (nI (br.length + 1)), .int (nI (shutS (q :: br)))]))] H := hP
  have hD : va_D A [(c0, .inr (0, [.int (nI (br.length + 1)), .int (nI (shutS (q :: br)))]))] := hD
  refine zb_eq C (decide (shutS (q :: br) = 0)) rfl d_Br_turn_13 rfl (fun hc4 => ?_) (fun hc4 => ?_)
  · refine lv_aload_n hx hb d_Br_turn_27 rfl (lv_at hl 0 rfl) ?_
    refine n_get C fg_Br_13 hP 0 rfl rfl d_Br_turn_28 ?_
    refine lv_aload_n hx hb d_Br_turn_31 rfl (lv_at hl 0 rfl) ?_
    refine n_get C fg_Br_7 hP 0 rfl rfl d_Br_turn_32 ?_
    refine j_ne C (shutS (q :: br)) (br.length + 1) rfl rfl (by omega) (by omega) d_Br_turn_35 rfl (fun hc5 => ?_) (fun hc5 => ?_)
    · refine lv_iconst (v := nI 1) hx hb d_Br_turn_43 (by decide) ?_
      exact kret (nI 1) [(c0, .inr (0, [.int (nI (br.length + 1)), .int (nI (shutS (q :: br)))]))] _ _ _ _ d_Br_turn_44 (⟨rfl, _, rfl, by first | exact turn_a (of_decide_eq_true (by assumption)) | exact turn_b (by assumption) | exact turn_c (of_decide_eq_false (by assumption)) (by assumption)⟩) rfl hP hS
    · refine lv_aload_n hx hb d_Br_turn_38 rfl (lv_at hl 0 rfl) ?_
      refine lv_iconst (v := nI 0) hx hb d_Br_turn_39 (by decide) ?_
      refine n_put (v := .int (nI 0)) C fp_Br_13 hP hD hS 0 rfl (rfl) rfl (Nat.le_of_ble_eq_true rfl) d_Br_turn_40 (fun H locs hP hD hS => ?_)
      have hP : va_P E.1 clz [(c0, .inr (0, [.int (nI (br.length + 1)), .int (nI 0)]))] H := hP
      have hD : va_D A [(c0, .inr (0, [.int (nI (br.length + 1)), .int (nI 0)]))] := hD
      refine lv_iconst (v := nI 1) hx hb d_Br_turn_43 (by decide) ?_
      exact kret (nI 1) [(c0, .inr (0, [.int (nI (br.length + 1)), .int (nI 0)]))] _ _ _ _ d_Br_turn_44 (⟨rfl, _, rfl, by first | exact turn_a (of_decide_eq_true (by assumption)) | exact turn_b (by assumption) | exact turn_c (of_decide_eq_false (by assumption)) (by assumption)⟩) rfl hP hS
  · refine lv_aload_n hx hb d_Br_turn_16 rfl (lv_at hl 0 rfl) ?_
    refine lv_aload_n hx hb d_Br_turn_17 rfl (lv_at hl 0 rfl) ?_
    refine n_get C fg_Br_7 hP 0 rfl rfl d_Br_turn_18 ?_
    refine n_put (v := .int (nI (br.length + 1))) C fp_Br_13 hP hD hS 0 rfl (rfl) rfl (Nat.le_of_ble_eq_true rfl) d_Br_turn_21 (fun H locs hP hD hS => ?_)
    have hP : va_P E.1 clz [(c0, .inr (0, [.int (nI (br.length + 1)), .int (nI (br.length + 1))]))] H := hP
    have hD : va_D A [(c0, .inr (0, [.int (nI (br.length + 1)), .int (nI (br.length + 1))]))] := hD
    refine lv_goto hx hb d_Br_turn_24 rfl ?_
    refine lv_iconst (v := nI 1) hx hb d_Br_turn_43 (by decide) ?_
    exact kret (nI 1) [(c0, .inr (0, [.int (nI (br.length + 1)), .int (nI (br.length + 1))]))] _ _ _ _ d_Br_turn_44 (⟨rfl, _, rfl, by first | exact turn_a (of_decide_eq_true (by assumption)) | exact turn_b (by assumption) | exact turn_c (of_decide_eq_false (by assumption)) (by assumption)⟩) rfl hP hS

set_option maxHeartbeats 4000000 in
set_option maxRecDepth 100000 in
theorem c_Br_turn_no (l : Launch) (E : En) (c0 b : Nat) : CtI l y_Br_turn b_Br_turn 1 .boolean (rmd 1) E [.ref c0] [(c0, .inr (0, [.int (nI 0), .int (nI b)]))] (fun r w => r = b2 false ∧ w = [(c0, .inr (0, [.int (nI 0), .int (nI b)]))]) := by
  refine CtI.of (by decide) (Nat.le_of_ble_eq_true rfl) (fun r w h => by obtain ⟨rfl, _⟩ := h; exact b2_nar _) ?_
  intro p e s m args below meth c A Q H locs ls C hP hD hS hl kret
  have hx := C.1
  have hb := C.2.1
  have hl : lv_has ls 1 [(0, .ref c0)] := hl
  refine lv_aload_n hx hb d_Br_turn_0 rfl (lv_at hl 0 rfl) ?_
  refine n_get C fg_Br_7 hP 0 rfl rfl d_Br_turn_1 ?_
  refine z_ne C 0 rfl (by omega) d_Br_turn_4 rfl (fun hc1 => absurd hc1 (by omega)) (fun hc1 => ?_)
  refine lv_iconst (v := nI 0) hx hb d_Br_turn_7 (by decide) ?_
  exact kret (nI 0) [(c0, .inr (0, [.int (nI 0), .int (nI b)]))] _ _ _ _ d_Br_turn_8 (⟨rfl, rfl⟩) rfl hP hS

set_option maxHeartbeats 4000000 in
set_option maxRecDepth 100000 in
theorem c_Br_leave (l : Launch) (E : En) (c0 : Nat) (q : Bool) (br : List Bool) (hbs : br.length < 1000) : CtI l y_Br_leave b_Br_leave 1 .boolean (rmd 1) E [.ref c0] [(c0, .inr (0, [.int (nI (br.length + 1)), .int (nI (shutS (q :: br)))]))] (fun r w => r = b2 true ∧ ∃ b9 : Nat, w = [(c0, .inr (0, [.int (nI br.length), .int (nI b9)]))] ∧ b9 = shutS br) := by
  refine CtI.of (by decide) (Nat.le_of_ble_eq_true rfl) (fun r w h => by obtain ⟨rfl, _⟩ := h; exact b2_nar _) ?_
  intro p e s m args below meth c A Q H locs ls C hP hD hS hl kret
  have hx := C.1
  have hb := C.2.1
  have hl : lv_has ls 1 [(0, .ref c0)] := hl
  have hb8 := shutS_le (q :: br)
  simp only [List.length_cons] at hb8
  refine lv_aload_n hx hb d_Br_leave_0 rfl (lv_at hl 0 rfl) ?_
  refine n_get C fg_Br_7 hP 0 rfl rfl d_Br_leave_1 ?_
  refine z_ne C (br.length + 1) rfl (by omega) d_Br_leave_4 rfl (fun hc1 => ?_) (fun hc1 => absurd hc1 (by omega))
  refine lv_aload_n hx hb d_Br_leave_9 rfl (lv_at hl 0 rfl) ?_
  refine n_get C fg_Br_13 hP 0 rfl rfl d_Br_leave_10 ?_
  refine lv_aload_n hx hb d_Br_leave_13 rfl (lv_at hl 0 rfl) ?_
  refine n_get C fg_Br_7 hP 0 rfl rfl d_Br_leave_14 ?_
  refine j_ne C (shutS (q :: br)) (br.length + 1) rfl rfl (by omega) (by omega) d_Br_leave_17 rfl (fun hc2 => ?_) (fun hc2 => ?_)
  · refine lv_aload_n hx hb d_Br_leave_25 rfl (lv_at hl 0 rfl) ?_
    refine lv_dup hx hb d_Br_leave_26 rfl ?_
    refine n_get C fg_Br_7 hP 0 rfl rfl d_Br_leave_27 ?_
    refine lv_iconst (v := nI 1) hx hb d_Br_leave_30 (by decide) ?_
    refine lv_isub hx hb d_Br_leave_31 ?_
    refine tope (z := nI br.length) ((pk_sub (by omega)).trans (congrArg nI (by omega))) ?_
    refine n_put (v := .int (nI br.length)) C fp_Br_7 hP hD hS 0 rfl (rfl) rfl (Nat.le_of_ble_eq_true rfl) d_Br_leave_32 (fun H locs hP hD hS => ?_)
    have hP : va_P E.1 clz [(c0, .inr (0, [.int (nI br.length), .int (nI (shutS (q :: br)))]))] H := hP
    have hD : va_D A [(c0, .inr (0, [.int (nI br.length), .int (nI (shutS (q :: br)))]))] := hD
    refine lv_iconst (v := nI 1) hx hb d_Br_leave_35 (by decide) ?_
    exact kret (nI 1) [(c0, .inr (0, [.int (nI br.length), .int (nI (shutS (q :: br)))]))] _ _ _ _ d_Br_leave_36 (⟨rfl, _, rfl, by first | exact leave_b (by assumption) | exact leave_c (by assumption)⟩) rfl hP hS
  · refine lv_aload_n hx hb d_Br_leave_20 rfl (lv_at hl 0 rfl) ?_
    refine lv_iconst (v := nI 0) hx hb d_Br_leave_21 (by decide) ?_
    refine n_put (v := .int (nI 0)) C fp_Br_13 hP hD hS 0 rfl (rfl) rfl (Nat.le_of_ble_eq_true rfl) d_Br_leave_22 (fun H locs hP hD hS => ?_)
    have hP : va_P E.1 clz [(c0, .inr (0, [.int (nI (br.length + 1)), .int (nI 0)]))] H := hP
    have hD : va_D A [(c0, .inr (0, [.int (nI (br.length + 1)), .int (nI 0)]))] := hD
    refine lv_aload_n hx hb d_Br_leave_25 rfl (lv_at hl 0 rfl) ?_
    refine lv_dup hx hb d_Br_leave_26 rfl ?_
    refine n_get C fg_Br_7 hP 0 rfl rfl d_Br_leave_27 ?_
    refine lv_iconst (v := nI 1) hx hb d_Br_leave_30 (by decide) ?_
    refine lv_isub hx hb d_Br_leave_31 ?_
    refine tope (z := nI br.length) ((pk_sub (by omega)).trans (congrArg nI (by omega))) ?_
    refine n_put (v := .int (nI br.length)) C fp_Br_7 hP hD hS 0 rfl (rfl) rfl (Nat.le_of_ble_eq_true rfl) d_Br_leave_32 (fun H locs hP hD hS => ?_)
    have hP : va_P E.1 clz [(c0, .inr (0, [.int (nI br.length), .int (nI 0)]))] H := hP
    have hD : va_D A [(c0, .inr (0, [.int (nI br.length), .int (nI 0)]))] := hD
    refine lv_iconst (v := nI 1) hx hb d_Br_leave_35 (by decide) ?_
    exact kret (nI 1) [(c0, .inr (0, [.int (nI br.length), .int (nI 0)]))] _ _ _ _ d_Br_leave_36 (⟨rfl, _, rfl, by first | exact leave_b (by assumption) | exact leave_c (by assumption)⟩) rfl hP hS

set_option maxHeartbeats 4000000 in
set_option maxRecDepth 100000 in
theorem c_Br_leave_no (l : Launch) (E : En) (c0 b : Nat) : CtI l y_Br_leave b_Br_leave 1 .boolean (rmd 1) E [.ref c0] [(c0, .inr (0, [.int (nI 0), .int (nI b)]))] (fun r w => r = b2 false ∧ w = [(c0, .inr (0, [.int (nI 0), .int (nI b)]))]) := by
  refine CtI.of (by decide) (Nat.le_of_ble_eq_true rfl) (fun r w h => by obtain ⟨rfl, _⟩ := h; exact b2_nar _) ?_
  intro p e s m args below meth c A Q H locs ls C hP hD hS hl kret
  have hx := C.1
  have hb := C.2.1
  have hl : lv_has ls 1 [(0, .ref c0)] := hl
  refine lv_aload_n hx hb d_Br_leave_0 rfl (lv_at hl 0 rfl) ?_
  refine n_get C fg_Br_7 hP 0 rfl rfl d_Br_leave_1 ?_
  refine z_ne C 0 rfl (by omega) d_Br_leave_4 rfl (fun hc1 => absurd hc1 (by omega)) (fun hc1 => ?_)
  refine lv_iconst (v := nI 0) hx hb d_Br_leave_7 (by decide) ?_
  exact kret (nI 0) [(c0, .inr (0, [.int (nI 0), .int (nI b)]))] _ _ _ _ d_Br_leave_8 (⟨rfl, rfl⟩) rfl hP hS
