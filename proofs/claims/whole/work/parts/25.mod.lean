theorem bt_nb (x : Int32) {i : Nat} (hi : i < 32) : bt (nb x) i = if i < 8 then bt x i else bt x 7 := by
  unfold nb bt
  rw [Int8.toBitVec_toInt32, Int32.toBitVec_toInt8, BitVec.getLsbD_signExtend]
  by_cases c : i < 8
  · simp [hi, c, BitVec.getElem_signExtend]
  · simp [hi, c, BitVec.msb_eq_getLsbD_last, BitVec.getElem_signExtend]
theorem nb_sr (v : Int32) (k : Nat) (hk : k ≤ 24) : nb (sr v (nI k)) = nb (us v (nI k)) := by
  have key : ∀ i, i < 8 → bt (sr v (nI k)) i = bt (us v (nI k)) i := by
    intro i hi
    unfold sr us
    rw [b_sshr k (by omega) v (by omega), b_ushr k (by omega) v i, if_pos (by omega)]
  apply b_ext
  intro i hi
  rw [bt_nb _ hi, bt_nb _ hi]
  split
  · rename_i c; exact key i c
  · exact key 7 (by omega)
theorem us_0 (v : Int32) : us v (nI 0) = v := by
  apply b_ext
  intro i hi
  unfold us
  rw [b_ushr 0 (by omega) v i, Nat.zero_add]
theorem cm1_sign {b v0 : Int32} (hb : isB b) (hv : v0 = if b < 0 then (-1) else nI 0) : cm1 v0 (b &&& nI 255) = b := by
  have h7 : ∀ i, i < 32 → bt b i = if i < 8 then bt b i else bt b 7 := fun i hi => by
    have := bt_nb b hi
    rw [show nb b = b from hb] at this
    exact this
  have hs : bt b 31 = decide (b < 0) := by
    unfold bt
    have h1 : (b < 0) ↔ b.toBitVec.msb = true := by
      rw [Int32.lt_iff_toInt_lt]
      show b.toBitVec.toInt < 0 ↔ _
      rw [BitVec.msb_eq_toInt]
      simp
    have h2 : b.toBitVec.getLsbD 31 = b.toBitVec.msb := by rw [BitVec.msb_eq_getLsbD_last]
    rw [h2]
    by_cases c : b < 0
    · rw [h1.mp c, decide_eq_true c]
    · rw [decide_eq_false c]
      cases hm : b.toBitVec.msb
      · rfl
      · exact absurd (h1.mpr hm) c
  apply b_ext
  intro i hi
  rw [bt_cm1 _ _ hi, b_and]
  have e255 : bt (nI 255) i = decide (i < 8) := b_255 i
  rw [e255]
  by_cases c : i < 8
  · simp [c, Nat.not_le.mpr c]
  · rw [decide_eq_true (show 8 ≤ i by omega), decide_eq_false c]
    have h31 := h7 31 (by omega)
    rw [if_neg (by omega)] at h31
    have hi7 := h7 i hi
    rw [if_neg c] at hi7
    rw [hi7, ← h31, hs, hv]
    by_cases cb : b < 0
    · rw [if_pos cb, decide_eq_true cb, b_m1 (i - 8) (by omega)]; simp
    · rw [if_neg cb, decide_eq_false cb]
      have : bt (nI 0) (i - 8) = false := b_0 (i - 8)
      rw [this]; simp
def v0M (x : Byl) : Int32 := match x with
  | [] => nI 0
  | b :: _ => if b < 0 then (-1) else nI 0
def numM (x : Byl) (i : Nat) : Int32 := (x.take i).foldl (fun v c => cm1 v (c &&& nI 255)) (v0M x)
theorem numM_s (x : Byl) (i : Nat) (hi : i < x.length) : numM x (i + 1) = cm1 (numM x i) (x.getD i 0 &&& nI 255) := by
  unfold numM
  rw [List.take_succ_eq_append_getElem hi, List.foldl_append, List.getD_eq_getElem?_getD, List.getElem?_eq_getElem hi]
  rfl
theorem numM_e {x : Byl} (hB : ∀ q, q < x.length → isB (x.getD q 0)) : numM x x.length = numL x := by
  cases x with
  | nil => rfl
  | cons b r =>
    unfold numM numL
    rw [List.take_length]
    show r.foldl _ (cm1 (v0M (b :: r)) (b &&& nI 255)) = _
    have hb0 : isB b := hB 0 (by simp)
    rw [show v0M (b :: r) = (if b < 0 then (-1) else nI 0) from rfl, cm1_sign hb0 rfl]
theorem lay_isB {f : Nat → Int32} {o : Nat} {x : Byl} (h : lay f o x) (hB : fB f) : ∀ q, q < x.length → isB (x.getD q 0) := fun q hq => by rw [← h q hq]; exact hB _
def o4 (f : Nat → Int32) (v : Int32) : Nat → Int32 := upd (upd (upd (upd f 0 (nb (us v (nI 24)))) 1 (nb (us v (nI 16)))) 2 (nb (us v (nI 8)))) 3 (nb (us v (nI 0)))
theorem o4_lay (f : Nat → Int32) {v : Int32} (h : ¬ v = 0) : lay (o4 f v) 0 (numB v) ∧ (numB v).length = 4 ∧ ∀ q, q < 4 → isB (o4 f v (0 + q)) := by
  have h9 : ¬ v = nI 0 := h
  have e : numB v = [nb (us v (nI 24)), nb (us v (nI 16)), nb (us v (nI 8)), nb (us v (nI 0))] := if_neg h9
  refine ⟨fun j hj => ?_, by rw [e]; rfl, fun q hq => ?_⟩
  · rw [e] at hj ⊢
    simp only [List.length_cons, List.length_nil] at hj
    rcases (by omega : j = 0 ∨ j = 1 ∨ j = 2 ∨ j = 3) with rfl | rfl | rfl | rfl <;> rfl
  · rcases (by omega : q = 0 ∨ q = 1 ∨ q = 2 ∨ q = 3) with rfl | rfl | rfl | rfl <;> exact nb_nb _
theorem numB_0 {v : Int32} (h : v = 0) : numB v = [] := if_pos h
theorem cpy_self {f : Nat → Int32} {o d q : Nat} (h : o + q < d) : va_cpy f f o d q (o + q) = f (o + q) := pk_cpy_out (by omega)

set_option maxHeartbeats 4000000 in
set_option maxRecDepth 100000 in
theorem c_Mod_same (l : Launch) (E : En) (g0 Mg u v : Nat) (t0 Mt : Nat) (g t : Nat → Int32) (x y : Byl) (hla : lay g u x) (hlb : lay t v y) (hxy : x.length = y.length) (hu : u + x.length ≤ Mg) (hv : v + x.length ≤ Mt) (hM : Mg < 2 ^ 30) (hM2 : Mt < 2 ^ 30) : CtI l y_Mod_same b_Mod_same 6 .boolean (rmd 0) E [.ref g0, .int (nI u), .ref t0, .int (nI v), .int (nI x.length)] [(g0, .inl (E.2.1, Mg, .inl g)), (t0, .inl (E.2.1, Mt, .inl t))] (fun r w => r = b2 (decide (x = y)) ∧ w = [(g0, .inl (E.2.1, Mg, .inl g)), (t0, .inl (E.2.1, Mt, .inl t))]) := by
  refine CtI.of (by decide) (Nat.le_of_ble_eq_true rfl) (fun r w h => by obtain ⟨rfl, _⟩ := h; exact b2_nar _) ?_
  intro p e s m args below meth c A Q H locs ls C hP hD hS hl kret
  have hx := C.1
  have hb := C.2.1
  have hl : lv_has ls 6 [(0, .ref g0), (1, .int (nI u)), (2, .ref t0), (3, .int (nI v)), (4, .int (nI x.length))] := hl
  refine lv_iconst (v := nI 0) hx hb d_Mod_same_0 (by decide) ?_
  refine lv_istore (lv' := [(5, .int (nI 0)), (0, .ref g0), (1, .int (nI u)), (2, .ref t0), (3, .int (nI v)), (4, .int (nI x.length))]) hx hb d_Mod_same_1 hl (by decide) rfl (fun ls hl => ?_)
  have hloop3 : ∀ (dd : Nat) (i : Nat) (H : Heap) (locs : List Loc) (ls : Array Slot), x.length - i < dd → (i ≤ x.length) → (∀ q, q < i → x.getD q 0 = y.getD q 0) → va_P E.1 clz [(g0, .inl (E.2.1, Mg, .inl g)), (t0, .inl (E.2.1, Mt, .inl t))] H → va_D A [(g0, .inl (E.2.1, Mg, .inl g)), (t0, .inl (E.2.1, Mt, .inl t))] → va_S A s.heap H locs → lv_has ls 6 [(5, .int (nI i)), (4, .int (nI x.length)), (3, .int (nI v)), (2, .ref t0), (1, .int (nI u)), (0, .ref g0)] → W p l e (rmd 0) s m args below meth c H locs 0 0 Q (F0 m 3 ls []) := by
    intro dd
    induction dd with
    | zero => intro i H locs ls hmz; exact absurd hmz (Nat.not_lt_zero _)
    | succ dd ih3 =>
      intro i H locs ls hmz hi hi2 hP hD hS hl
      refine lv_iload hx hb d_Mod_same_3 (lv_at hl 0 rfl) ?_
      refine lv_iload hx hb d_Mod_same_5 (lv_at hl 1 rfl) ?_
      refine j_ge C i x.length rfl rfl (by omega) (by omega) d_Mod_same_7 rfl (fun hc1 => ?_) (fun hc1 => ?_)
      · refine lv_iconst (v := nI 1) hx hb d_Mod_same_33 (by decide) ?_
        exact kret (nI 1) [(g0, .inl (E.2.1, Mg, .inl g)), (t0, .inl (E.2.1, Mt, .inl t))] _ _ _ _ d_Mod_same_34 (⟨b2_t (decide_eq_true (list_eq_of hxy (fun q hq => hi2 q (by omega)))), rfl⟩) rfl hP hS
      · refine lv_aload_n hx hb d_Mod_same_10 rfl (lv_at hl 5 rfl) ?_
        refine lv_iload_n hx hb d_Mod_same_11 rfl (lv_at hl 4 rfl) ?_
        refine lv_iload hx hb d_Mod_same_12 (lv_at hl 0 rfl) ?_
        refine lv_iadd hx hb d_Mod_same_14 ?_
        refine tope (z := nI (u + i)) (nI_add _ _) ?_
        refine n_bald C hP 0 rfl (u + i) rfl (by omega) (by omega) d_Mod_same_15 ?_
        refine lv_aload_n hx hb d_Mod_same_16 rfl (lv_at hl 3 rfl) ?_
        refine lv_iload_n hx hb d_Mod_same_17 rfl (lv_at hl 2 rfl) ?_
        refine lv_iload hx hb d_Mod_same_18 (lv_at hl 0 rfl) ?_
        refine lv_iadd hx hb d_Mod_same_20 ?_
        refine tope (z := nI (v + i)) (nI_add _ _) ?_
        refine n_bald C hP 1 rfl (v + i) rfl (by omega) (by omega) d_Mod_same_21 ?_
        refine lv_icmp_eq hx hb d_Mod_same_22 rfl (fun hc2 => ?_) (fun hc2 => ?_)
        · refine lv_iinc (k := 0) (v := nI (i + 1)) (lv' := [(5, .int (nI (i + 1))), (4, .int (nI x.length)), (3, .int (nI v)), (2, .ref t0), (1, .int (nI u)), (0, .ref g0)]) hx hb d_Mod_same_27 hl rfl (iincK i 1) (by decide) rfl (fun ls hl => ?_)
          refine lv_goto hx hb d_Mod_same_30 rfl ?_
          exact ih3 (i + 1) H locs ls (by omega) (by omega) (fun q hq => by rcases Nat.lt_or_ge q i with h9 | h9; exact hi2 q h9; obtain rfl : q = i := (by omega); rw [← hla q (by omega), ← hlb q (by omega)]; assumption) hP hD hS (lv_sub hl [0, 1, 2, 3, 4, 5] rfl)
        · refine lv_iconst (v := nI 0) hx hb d_Mod_same_25 (by decide) ?_
          exact kret (nI 0) [(g0, .inl (E.2.1, Mg, .inl g)), (t0, .inl (E.2.1, Mt, .inl t))] _ _ _ _ d_Mod_same_26 (⟨b2_f (decide_eq_false (fun h9 => by have h8 := hla i (by omega); have h7 := hlb i (by omega); rw [h9] at h8; exact absurd (h8.trans h7.symm) (by assumption))), rfl⟩) rfl hP hS
  exact hloop3 (x.length + 1) 0 H locs ls (by omega) (by omega) (fun q hq => absurd hq (Nat.not_lt_zero q)) hP hD hS (lv_sub hl [0, 5, 4, 3, 2, 1] rfl)

set_option maxHeartbeats 4000000 in
set_option maxRecDepth 100000 in
theorem c_Mod_sameA (l : Launch) (E : En) (g0 Mg u v : Nat) (g : Nat → Int32) (x y : Byl) (hla : lay g u x) (hlb : lay g v y) (hxy : x.length = y.length) (hu : u + x.length ≤ Mg) (hv : v + x.length ≤ Mg) (hM : Mg < 2 ^ 30) : CtI l y_Mod_same b_Mod_same 6 .boolean (rmd 0) E [.ref g0, .int (nI u), .ref g0, .int (nI v), .int (nI x.length)] [(g0, .inl (E.2.1, Mg, .inl g))] (fun r w => r = b2 (decide (x = y)) ∧ w = [(g0, .inl (E.2.1, Mg, .inl g))]) := by
  refine CtI.of (by decide) (Nat.le_of_ble_eq_true rfl) (fun r w h => by obtain ⟨rfl, _⟩ := h; exact b2_nar _) ?_
  intro p e s m args below meth c A Q H locs ls C hP hD hS hl kret
  have hx := C.1
  have hb := C.2.1
  have hl : lv_has ls 6 [(0, .ref g0), (1, .int (nI u)), (2, .ref g0), (3, .int (nI v)), (4, .int (nI x.length))] := hl
  refine lv_iconst (v := nI 0) hx hb d_Mod_same_0 (by decide) ?_
  refine lv_istore (lv' := [(5, .int (nI 0)), (0, .ref g0), (1, .int (nI u)), (2, .ref g0), (3, .int (nI v)), (4, .int (nI x.length))]) hx hb d_Mod_same_1 hl (by decide) rfl (fun ls hl => ?_)
  have hloop3 : ∀ (dd : Nat) (i : Nat) (H : Heap) (locs : List Loc) (ls : Array Slot), x.length - i < dd → (i ≤ x.length) → (∀ q, q < i → x.getD q 0 = y.getD q 0) → va_P E.1 clz [(g0, .inl (E.2.1, Mg, .inl g))] H → va_D A [(g0, .inl (E.2.1, Mg, .inl g))] → va_S A s.heap H locs → lv_has ls 6 [(5, .int (nI i)), (4, .int (nI x.length)), (3, .int (nI v)), (2, .ref g0), (1, .int (nI u)), (0, .ref g0)] → W p l e (rmd 0) s m args below meth c H locs 0 0 Q (F0 m 3 ls []) := by
    intro dd
    induction dd with
    | zero => intro i H locs ls hmz; exact absurd hmz (Nat.not_lt_zero _)
    | succ dd ih3 =>
      intro i H locs ls hmz hi hi2 hP hD hS hl
      refine lv_iload hx hb d_Mod_same_3 (lv_at hl 0 rfl) ?_
      refine lv_iload hx hb d_Mod_same_5 (lv_at hl 1 rfl) ?_
      refine j_ge C i x.length rfl rfl (by omega) (by omega) d_Mod_same_7 rfl (fun hc1 => ?_) (fun hc1 => ?_)
      · refine lv_iconst (v := nI 1) hx hb d_Mod_same_33 (by decide) ?_
        exact kret (nI 1) [(g0, .inl (E.2.1, Mg, .inl g))] _ _ _ _ d_Mod_same_34 (⟨b2_t (decide_eq_true (list_eq_of hxy (fun q hq => hi2 q (by omega)))), rfl⟩) rfl hP hS
      · refine lv_aload_n hx hb d_Mod_same_10 rfl (lv_at hl 5 rfl) ?_
        refine lv_iload_n hx hb d_Mod_same_11 rfl (lv_at hl 4 rfl) ?_
        refine lv_iload hx hb d_Mod_same_12 (lv_at hl 0 rfl) ?_
        refine lv_iadd hx hb d_Mod_same_14 ?_
        refine tope (z := nI (u + i)) (nI_add _ _) ?_
        refine n_bald C hP 0 rfl (u + i) rfl (by omega) (by omega) d_Mod_same_15 ?_
        refine lv_aload_n hx hb d_Mod_same_16 rfl (lv_at hl 3 rfl) ?_
        refine lv_iload_n hx hb d_Mod_same_17 rfl (lv_at hl 2 rfl) ?_
        refine lv_iload hx hb d_Mod_same_18 (lv_at hl 0 rfl) ?_
        refine lv_iadd hx hb d_Mod_same_20 ?_
        refine tope (z := nI (v + i)) (nI_add _ _) ?_
        refine n_bald C hP 0 rfl (v + i) rfl (by omega) (by omega) d_Mod_same_21 ?_
        refine lv_icmp_eq hx hb d_Mod_same_22 rfl (fun hc2 => ?_) (fun hc2 => ?_)
        · refine lv_iinc (k := 0) (v := nI (i + 1)) (lv' := [(5, .int (nI (i + 1))), (4, .int (nI x.length)), (3, .int (nI v)), (2, .ref g0), (1, .int (nI u)), (0, .ref g0)]) hx hb d_Mod_same_27 hl rfl (iincK i 1) (by decide) rfl (fun ls hl => ?_)
          refine lv_goto hx hb d_Mod_same_30 rfl ?_
          exact ih3 (i + 1) H locs ls (by omega) (by omega) (fun q hq => by rcases Nat.lt_or_ge q i with h9 | h9; exact hi2 q h9; obtain rfl : q = i := (by omega); rw [← hla q (by omega), ← hlb q (by omega)]; assumption) hP hD hS (lv_sub hl [0, 1, 2, 3, 4, 5] rfl)
        · refine lv_iconst (v := nI 0) hx hb d_Mod_same_25 (by decide) ?_
          exact kret (nI 0) [(g0, .inl (E.2.1, Mg, .inl g))] _ _ _ _ d_Mod_same_26 (⟨b2_f (decide_eq_false (fun h9 => by have h8 := hla i (by omega); have h7 := hlb i (by omega); rw [h9] at h8; exact absurd (h8.trans h7.symm) (by assumption))), rfl⟩) rfl hP hS
  exact hloop3 (x.length + 1) 0 H locs ls (by omega) (by omega) (fun q hq => absurd hq (Nat.not_lt_zero q)) hP hD hS (lv_sub hl [0, 5, 4, 3, 2, 1] rfl)

set_option maxHeartbeats 4000000 in
set_option maxRecDepth 100000 in
theorem c_Mod_push (l : Launch) (E : En) (y0 ya yo ym yl yg yw yh yc yd yb yk yz yr nt no nd : Nat) (fl : Bool) (i k : Nat) (g0 Mg : Nat) (f sz g : Nat → Int32) (hn : nd < 24) (hk : k ≤ 80) (hi : i + k ≤ Mg) (hB : ∀ q, q < k → isB (g (i + q))) (hM : Mg < 2 ^ 30) : CtI l y_Mod_push b_Mod_push 5 .boolean (rmd 0) E [.ref y0, .ref g0, .int (nI i), .int (nI k)] [(y0, .inr (7, [.ref ya, .int (nI nt), .ref yo, .int (nI no), .ref ym, .ref yl, .ref yg, .ref yw, .ref yh, .ref yc, .ref yd, .ref yb, .ref yk, .ref yz, .int (nI nd), .int (b2 fl), .ref yr])), (yk, .inl (E.2.1, 1920, .inl f)), (yz, .inl (E.2.2.1, 24, .inl sz)), (g0, .inl (E.2.1, Mg, .inl g))] (fun r w => r = b2 true ∧ w = [(y0, .inr (7, [.ref ya, .int (nI nt), .ref yo, .int (nI no), .ref ym, .ref yl, .ref yg, .ref yw, .ref yh, .ref yc, .ref yd, .ref yb, .ref yk, .ref yz, .int (nI (nd + 1)), .int (b2 fl), .ref yr])), (yk, .inl (E.2.1, 1920, .inl (va_cpy g f i (nd * 80) k))), (yz, .inl (E.2.2.1, 24, .inl (upd sz nd (nI k)))), (g0, .inl (E.2.1, Mg, .inl g))]) := by
  refine CtI.of (by decide) (Nat.le_of_ble_eq_true rfl) (fun r w h => by obtain ⟨rfl, _⟩ := h; exact b2_nar _) ?_
  intro p e s m args below meth c A Q H locs ls C hP hD hS hl kret
  have hx := C.1
  have hb := C.2.1
  have hl : lv_has ls 5 [(0, .ref y0), (1, .ref g0), (2, .int (nI i)), (3, .int (nI k))] := hl
  refine lv_aload_n hx hb d_Mod_push_0 rfl (lv_at hl 0 rfl) ?_
  refine n_get C fg_Mod_66 hP 0 rfl rfl d_Mod_push_1 ?_
  refine lv_bipush (v := nI 24) hx hb d_Mod_push_4 (by decide) ?_
  refine j_eq C nd 24 rfl rfl (by omega) (by omega) d_Mod_push_6 rfl (fun hc1 => absurd hc1 (by omega)) (fun hc1 => ?_)
  refine lv_iload_n hx hb d_Mod_push_9 rfl (lv_at hl 3 rfl) ?_
  refine lv_bipush (v := nI 80) hx hb d_Mod_push_10 (by decide) ?_
  refine j_le C k 80 rfl rfl (by omega) (by omega) d_Mod_push_12 rfl (fun hc2 => ?_) (fun hc2 => absurd hc2 (by omega))
  refine lv_iconst (v := nI 0) hx hb d_Mod_push_17 (by decide) ?_
  refine lv_istore (lv' := [(4, .int (nI 0)), (0, .ref y0), (1, .ref g0), (2, .int (nI i)), (3, .int (nI k))]) hx hb d_Mod_push_18 hl (by decide) rfl (fun ls hl => ?_)
  rw [← cpy_zero g f i (nd * 80)] at hP hD
  have hloop20 : ∀ (dd : Nat) (q : Nat) (H : Heap) (locs : List Loc) (ls : Array Slot), k - q < dd → (q ≤ k) → va_P E.1 clz [(y0, .inr (7, [.ref ya, .int (nI nt), .ref yo, .int (nI no), .ref ym, .ref yl, .ref yg, .ref yw, .ref yh, .ref yc, .ref yd, .ref yb, .ref yk, .ref yz, .int (nI nd), .int (b2 fl), .ref yr])), (yk, .inl (E.2.1, 1920, .inl (va_cpy g f i (nd * 80) q))), (yz, .inl (E.2.2.1, 24, .inl sz)), (g0, .inl (E.2.1, Mg, .inl g))] H → va_D A [(y0, .inr (7, [.ref ya, .int (nI nt), .ref yo, .int (nI no), .ref ym, .ref yl, .ref yg, .ref yw, .ref yh, .ref yc, .ref yd, .ref yb, .ref yk, .ref yz, .int (nI nd), .int (b2 fl), .ref yr])), (yk, .inl (E.2.1, 1920, .inl (va_cpy g f i (nd * 80) q))), (yz, .inl (E.2.2.1, 24, .inl sz)), (g0, .inl (E.2.1, Mg, .inl g))] → va_S A s.heap H locs → lv_has ls 5 [(4, .int (nI q)), (3, .int (nI k)), (2, .int (nI i)), (1, .ref g0), (0, .ref y0)] → W p l e (rmd 0) s m args below meth c H locs 0 0 Q (F0 m 20 ls []) := by
    intro dd
    induction dd with
    | zero => intro q H locs ls hmz; exact absurd hmz (Nat.not_lt_zero _)
    | succ dd ih20 =>
      intro q H locs ls hmz hq hP hD hS hl
      refine lv_iload hx hb d_Mod_push_20 (lv_at hl 0 rfl) ?_
      refine lv_iload_n hx hb d_Mod_push_22 rfl (lv_at hl 1 rfl) ?_
      refine j_ge C q k rfl rfl (by omega) (by omega) d_Mod_push_23 rfl (fun hc3 => ?_) (fun hc3 => ?_)
      · rw [show q = k by omega] at hP hD hl
        refine lv_aload_n hx hb d_Mod_push_53 rfl (lv_at hl 4 rfl) ?_
        refine n_get C fg_Mod_44 hP 0 rfl rfl d_Mod_push_54 ?_
        refine lv_aload_n hx hb d_Mod_push_57 rfl (lv_at hl 4 rfl) ?_
        refine n_get C fg_Mod_66 hP 0 rfl rfl d_Mod_push_58 ?_
        refine lv_iload_n hx hb d_Mod_push_61 rfl (lv_at hl 1 rfl) ?_
        refine n_iast C hP hD hS 2 rfl nd rfl (by omega) (by omega) d_Mod_push_62 (fun H locs hP hD hS => ?_)
        have hP : va_P E.1 clz [(y0, .inr (7, [.ref ya, .int (nI nt), .ref yo, .int (nI no), .ref ym, .ref yl, .ref yg, .ref yw, .ref yh, .ref yc, .ref yd, .ref yb, .ref yk, .ref yz, .int (nI nd), .int (b2 fl), .ref yr])), (yk, .inl (E.2.1, 1920, .inl (va_cpy g f i (nd * 80) k))), (yz, .inl (E.2.2.1, 24, .inl (upd sz nd (nI k)))), (g0, .inl (E.2.1, Mg, .inl g))] H := hP
        have hD : va_D A [(y0, .inr (7, [.ref ya, .int (nI nt), .ref yo, .int (nI no), .ref ym, .ref yl, .ref yg, .ref yw, .ref yh, .ref yc, .ref yd, .ref yb, .ref yk, .ref yz, .int (nI nd), .int (b2 fl), .ref yr])), (yk, .inl (E.2.1, 1920, .inl (va_cpy g f i (nd * 80) k))), (yz, .inl (E.2.2.1, 24, .inl (upd sz nd (nI k)))), (g0, .inl (E.2.1, Mg, .inl g))] := hD
        refine lv_aload_n hx hb d_Mod_push_63 rfl (lv_at hl 4 rfl) ?_
        refine lv_dup hx hb d_Mod_push_64 rfl ?_
        refine n_get C fg_Mod_66 hP 0 rfl rfl d_Mod_push_65 ?_
        refine lv_iconst (v := nI 1) hx hb d_Mod_push_68 (by decide) ?_
        refine lv_iadd hx hb d_Mod_push_69 ?_
        refine tope (z := nI (nd + 1)) (nI_add _ _) ?_
        refine n_put (v := .int (nI (nd + 1))) C fp_Mod_66 hP hD hS 0 rfl (rfl) rfl (Nat.le_of_ble_eq_true rfl) d_Mod_push_70 (fun H locs hP hD hS => ?_)
        have hP : va_P E.1 clz [(y0, .inr (7, [.ref ya, .int (nI nt), .ref yo, .int (nI no), .ref ym, .ref yl, .ref yg, .ref yw, .ref yh, .ref yc, .ref yd, .ref yb, .ref yk, .ref yz, .int (nI (nd + 1)), .int (b2 fl), .ref yr])), (yk, .inl (E.2.1, 1920, .inl (va_cpy g f i (nd * 80) k))), (yz, .inl (E.2.2.1, 24, .inl (upd sz nd (nI k)))), (g0, .inl (E.2.1, Mg, .inl g))] H := hP
        have hD : va_D A [(y0, .inr (7, [.ref ya, .int (nI nt), .ref yo, .int (nI no), .ref ym, .ref yl, .ref yg, .ref yw, .ref yh, .ref yc, .ref yd, .ref yb, .ref yk, .ref yz, .int (nI (nd + 1)), .int (b2 fl), .ref yr])), (yk, .inl (E.2.1, 1920, .inl (va_cpy g f i (nd * 80) k))), (yz, .inl (E.2.2.1, 24, .inl (upd sz nd (nI k)))), (g0, .inl (E.2.1, Mg, .inl g))] := hD
        refine lv_iconst (v := nI 1) hx hb d_Mod_push_73 (by decide) ?_
        exact kret (nI 1) [(y0, .inr (7, [.ref ya, .int (nI nt), .ref yo, .int (nI no), .ref ym, .ref yl, .ref yg, .ref yw, .ref yh, .ref yc, .ref yd, .ref yb, .ref yk, .ref yz, .int (nI (nd + 1)), .int (b2 fl), .ref yr])), (yk, .inl (E.2.1, 1920, .inl (va_cpy g f i (nd * 80) k))), (yz, .inl (E.2.2.1, 24, .inl (upd sz nd (nI k)))), (g0, .inl (E.2.1, Mg, .inl g))] _ _ _ _ d_Mod_push_74 (⟨rfl, rfl⟩) rfl hP hS
      · refine lv_aload_n hx hb d_Mod_push_26 rfl (lv_at hl 4 rfl) ?_
        refine n_get C fg_Mod_41 hP 0 rfl rfl d_Mod_push_27 ?_
        refine lv_bipush (v := nI 80) hx hb d_Mod_push_30 (by decide) ?_
        refine lv_aload_n hx hb d_Mod_push_32 rfl (lv_at hl 4 rfl) ?_
        refine n_get C fg_Mod_66 hP 0 rfl rfl d_Mod_push_33 ?_
        refine lv_imul hx hb d_Mod_push_36 ?_
        refine tope (z := nI (nd * 80)) ((pk_mul _ _).trans (congrArg nI (Nat.mul_comm _ _))) ?_
        refine lv_iload hx hb d_Mod_push_37 (lv_at hl 0 rfl) ?_
        refine lv_iadd hx hb d_Mod_push_39 ?_
        refine tope (z := nI ((nd * 80) + q)) (nI_add _ _) ?_
        refine lv_aload_n hx hb d_Mod_push_40 rfl (lv_at hl 3 rfl) ?_
        refine lv_iload_n hx hb d_Mod_push_41 rfl (lv_at hl 2 rfl) ?_
        refine lv_iload hx hb d_Mod_push_42 (lv_at hl 0 rfl) ?_
        refine lv_iadd hx hb d_Mod_push_44 ?_
        refine tope (z := nI (i + q)) (nI_add _ _) ?_
        refine n_bald C hP 3 rfl (i + q) rfl (by omega) (by omega) d_Mod_push_45 ?_
        refine n_bast (z := g (i + q)) C hP hD hS 1 rfl ((nd * 80) + q) rfl (hB q (by omega)) (by omega) (by omega) d_Mod_push_46 (fun H locs hP hD hS => ?_)
        have hP : va_P E.1 clz [(y0, .inr (7, [.ref ya, .int (nI nt), .ref yo, .int (nI no), .ref ym, .ref yl, .ref yg, .ref yw, .ref yh, .ref yc, .ref yd, .ref yb, .ref yk, .ref yz, .int (nI nd), .int (b2 fl), .ref yr])), (yk, .inl (E.2.1, 1920, .inl (upd (va_cpy g f i (nd * 80) q) ((nd * 80) + q) (g (i + q))))), (yz, .inl (E.2.2.1, 24, .inl sz)), (g0, .inl (E.2.1, Mg, .inl g))] H := hP
        have hD : va_D A [(y0, .inr (7, [.ref ya, .int (nI nt), .ref yo, .int (nI no), .ref ym, .ref yl, .ref yg, .ref yw, .ref yh, .ref yc, .ref yd, .ref yb, .ref yk, .ref yz, .int (nI nd), .int (b2 fl), .ref yr])), (yk, .inl (E.2.1, 1920, .inl (upd (va_cpy g f i (nd * 80) q) ((nd * 80) + q) (g (i + q))))), (yz, .inl (E.2.2.1, 24, .inl sz)), (g0, .inl (E.2.1, Mg, .inl g))] := hD
        rw [cpy_succ g f i (nd * 80) q] at hP hD
        have hP : va_P E.1 clz [(y0, .inr (7, [.ref ya, .int (nI nt), .ref yo, .int (nI no), .ref ym, .ref yl, .ref yg, .ref yw, .ref yh, .ref yc, .ref yd, .ref yb, .ref yk, .ref yz, .int (nI nd), .int (b2 fl), .ref yr])), (yk, .inl (E.2.1, 1920, .inl (va_cpy g f i (nd * 80) (q + 1)))), (yz, .inl (E.2.2.1, 24, .inl sz)), (g0, .inl (E.2.1, Mg, .inl g))] H := hP
        have hD : va_D A [(y0, .inr (7, [.ref ya, .int (nI nt), .ref yo, .int (nI no), .ref ym, .ref yl, .ref yg, .ref yw, .ref yh, .ref yc, .ref yd, .ref yb, .ref yk, .ref yz, .int (nI nd), .int (b2 fl), .ref yr])), (yk, .inl (E.2.1, 1920, .inl (va_cpy g f i (nd * 80) (q + 1)))), (yz, .inl (E.2.2.1, 24, .inl sz)), (g0, .inl (E.2.1, Mg, .inl g))] := hD
        refine lv_iinc (k := 0) (v := nI (q + 1)) (lv' := [(4, .int (nI (q + 1))), (3, .int (nI k)), (2, .int (nI i)), (1, .ref g0), (0, .ref y0)]) hx hb d_Mod_push_47 hl rfl (iincK q 1) (by decide) rfl (fun ls hl => ?_)
        refine lv_goto hx hb d_Mod_push_50 rfl ?_
        exact ih20 (q + 1) H locs ls (by omega) (by omega) hP hD hS (lv_sub hl [0, 1, 2, 3, 4] rfl)
  exact hloop20 (k + 1) 0 H locs ls (by omega) (by omega) hP hD hS (lv_sub hl [0, 4, 3, 2, 1] rfl)

set_option maxHeartbeats 4000000 in
set_option maxRecDepth 100000 in
theorem c_Mod_push_full (l : Launch) (E : En) (y0 ya yo ym yl yg yw yh yc yd yb yk yz yr nt no nd : Nat) (fl : Bool) (i k : Nat) (g0 Mg : Nat) (f sz g : Nat → Int32) (hn : nd = 24) : CtI l y_Mod_push b_Mod_push 5 .boolean (rmd 0) E [.ref y0, .ref g0, .int (nI i), .int (nI k)] [(y0, .inr (7, [.ref ya, .int (nI nt), .ref yo, .int (nI no), .ref ym, .ref yl, .ref yg, .ref yw, .ref yh, .ref yc, .ref yd, .ref yb, .ref yk, .ref yz, .int (nI nd), .int (b2 fl), .ref yr])), (yk, .inl (E.2.1, 1920, .inl f)), (yz, .inl (E.2.2.1, 24, .inl sz)), (g0, .inl (E.2.1, Mg, .inl g))] (fun r w => r = b2 false ∧ w = [(y0, .inr (7, [.ref ya, .int (nI nt), .ref yo, .int (nI no), .ref ym, .ref yl, .ref yg, .ref yw, .ref yh, .ref yc, .ref yd, .ref yb, .ref yk, .ref yz, .int (nI nd), .int (b2 fl), .ref yr])), (yk, .inl (E.2.1, 1920, .inl f)), (yz, .inl (E.2.2.1, 24, .inl sz)), (g0, .inl (E.2.1, Mg, .inl g))]) := by
  refine CtI.of (by decide) (Nat.le_of_ble_eq_true rfl) (fun r w h => by obtain ⟨rfl, _⟩ := h; exact b2_nar _) ?_
  intro p e s m args below meth c A Q H locs ls C hP hD hS hl kret
  have hx := C.1
  have hb := C.2.1
  have hl : lv_has ls 5 [(0, .ref y0), (1, .ref g0), (2, .int (nI i)), (3, .int (nI k))] := hl
  refine lv_aload_n hx hb d_Mod_push_0 rfl (lv_at hl 0 rfl) ?_
  refine n_get C fg_Mod_66 hP 0 rfl rfl d_Mod_push_1 ?_
  refine lv_bipush (v := nI 24) hx hb d_Mod_push_4 (by decide) ?_
  refine j_eq C nd 24 rfl rfl (by omega) (by omega) d_Mod_push_6 rfl (fun hc1 => ?_) (fun hc1 => absurd hc1 (by omega))
  refine lv_iconst (v := nI 0) hx hb d_Mod_push_15 (by decide) ?_
  exact kret (nI 0) [(y0, .inr (7, [.ref ya, .int (nI nt), .ref yo, .int (nI no), .ref ym, .ref yl, .ref yg, .ref yw, .ref yh, .ref yc, .ref yd, .ref yb, .ref yk, .ref yz, .int (nI nd), .int (b2 fl), .ref yr])), (yk, .inl (E.2.1, 1920, .inl f)), (yz, .inl (E.2.2.1, 24, .inl sz)), (g0, .inl (E.2.1, Mg, .inl g))] _ _ _ _ d_Mod_push_16 (⟨rfl, rfl⟩) rfl hP hS

set_option maxHeartbeats 4000000 in
set_option maxRecDepth 100000 in
theorem c_Mod_pushA (l : Launch) (E : En) (y0 ya yo ym yl yg yw yh yc yd yb yk yz yr nt no nd : Nat) (fl : Bool) (i k : Nat) (f sz : Nat → Int32) (hn : nd < 24) (hk : k ≤ 80) (hi : i + k ≤ nd * 80) (hB : ∀ q, q < k → isB (f (i + q))) : CtI l y_Mod_push b_Mod_push 5 .boolean (rmd 0) E [.ref y0, .ref yk, .int (nI i), .int (nI k)] [(y0, .inr (7, [.ref ya, .int (nI nt), .ref yo, .int (nI no), .ref ym, .ref yl, .ref yg, .ref yw, .ref yh, .ref yc, .ref yd, .ref yb, .ref yk, .ref yz, .int (nI nd), .int (b2 fl), .ref yr])), (yk, .inl (E.2.1, 1920, .inl f)), (yz, .inl (E.2.2.1, 24, .inl sz))] (fun r w => r = b2 true ∧ w = [(y0, .inr (7, [.ref ya, .int (nI nt), .ref yo, .int (nI no), .ref ym, .ref yl, .ref yg, .ref yw, .ref yh, .ref yc, .ref yd, .ref yb, .ref yk, .ref yz, .int (nI (nd + 1)), .int (b2 fl), .ref yr])), (yk, .inl (E.2.1, 1920, .inl (va_cpy f f i (nd * 80) k))), (yz, .inl (E.2.2.1, 24, .inl (upd sz nd (nI k))))]) := by
  refine CtI.of (by decide) (Nat.le_of_ble_eq_true rfl) (fun r w h => by obtain ⟨rfl, _⟩ := h; exact b2_nar _) ?_
  intro p e s m args below meth c A Q H locs ls C hP hD hS hl kret
  have hx := C.1
  have hb := C.2.1
  have hl : lv_has ls 5 [(0, .ref y0), (1, .ref yk), (2, .int (nI i)), (3, .int (nI k))] := hl
  refine lv_aload_n hx hb d_Mod_push_0 rfl (lv_at hl 0 rfl) ?_
  refine n_get C fg_Mod_66 hP 0 rfl rfl d_Mod_push_1 ?_
  refine lv_bipush (v := nI 24) hx hb d_Mod_push_4 (by decide) ?_
  refine j_eq C nd 24 rfl rfl (by omega) (by omega) d_Mod_push_6 rfl (fun hc1 => absurd hc1 (by omega)) (fun hc1 => ?_)
  refine lv_iload_n hx hb d_Mod_push_9 rfl (lv_at hl 3 rfl) ?_
  refine lv_bipush (v := nI 80) hx hb d_Mod_push_10 (by decide) ?_
  refine j_le C k 80 rfl rfl (by omega) (by omega) d_Mod_push_12 rfl (fun hc2 => ?_) (fun hc2 => absurd hc2 (by omega))
  refine lv_iconst (v := nI 0) hx hb d_Mod_push_17 (by decide) ?_
  refine lv_istore (lv' := [(4, .int (nI 0)), (0, .ref y0), (1, .ref yk), (2, .int (nI i)), (3, .int (nI k))]) hx hb d_Mod_push_18 hl (by decide) rfl (fun ls hl => ?_)
  rw [← cpy_zero f f i (nd * 80)] at hP hD
  have hloop20 : ∀ (dd : Nat) (q : Nat) (H : Heap) (locs : List Loc) (ls : Array Slot), k - q < dd → (q ≤ k) → va_P E.1 clz [(y0, .inr (7, [.ref ya, .int (nI nt), .ref yo, .int (nI no), .ref ym, .ref yl, .ref yg, .ref yw, .ref yh, .ref yc, .ref yd, .ref yb, .ref yk, .ref yz, .int (nI nd), .int (b2 fl), .ref yr])), (yk, .inl (E.2.1, 1920, .inl (va_cpy f f i (nd * 80) q))), (yz, .inl (E.2.2.1, 24, .inl sz))] H → va_D A [(y0, .inr (7, [.ref ya, .int (nI nt), .ref yo, .int (nI no), .ref ym, .ref yl, .ref yg, .ref yw, .ref yh, .ref yc, .ref yd, .ref yb, .ref yk, .ref yz, .int (nI nd), .int (b2 fl), .ref yr])), (yk, .inl (E.2.1, 1920, .inl (va_cpy f f i (nd * 80) q))), (yz, .inl (E.2.2.1, 24, .inl sz))] → va_S A s.heap H locs → lv_has ls 5 [(4, .int (nI q)), (3, .int (nI k)), (2, .int (nI i)), (1, .ref yk), (0, .ref y0)] → W p l e (rmd 0) s m args below meth c H locs 0 0 Q (F0 m 20 ls []) := by
    intro dd
    induction dd with
    | zero => intro q H locs ls hmz; exact absurd hmz (Nat.not_lt_zero _)
    | succ dd ih20 =>
      intro q H locs ls hmz hq hP hD hS hl
      refine lv_iload hx hb d_Mod_push_20 (lv_at hl 0 rfl) ?_
      refine lv_iload_n hx hb d_Mod_push_22 rfl (lv_at hl 1 rfl) ?_
      refine j_ge C q k rfl rfl (by omega) (by omega) d_Mod_push_23 rfl (fun hc3 => ?_) (fun hc3 => ?_)
      · rw [show q = k by omega] at hP hD hl
        refine lv_aload_n hx hb d_Mod_push_53 rfl (lv_at hl 4 rfl) ?_
        refine n_get C fg_Mod_44 hP 0 rfl rfl d_Mod_push_54 ?_
        refine lv_aload_n hx hb d_Mod_push_57 rfl (lv_at hl 4 rfl) ?_
        refine n_get C fg_Mod_66 hP 0 rfl rfl d_Mod_push_58 ?_
        refine lv_iload_n hx hb d_Mod_push_61 rfl (lv_at hl 1 rfl) ?_
        refine n_iast C hP hD hS 2 rfl nd rfl (by omega) (by omega) d_Mod_push_62 (fun H locs hP hD hS => ?_)
        have hP : va_P E.1 clz [(y0, .inr (7, [.ref ya, .int (nI nt), .ref yo, .int (nI no), .ref ym, .ref yl, .ref yg, .ref yw, .ref yh, .ref yc, .ref yd, .ref yb, .ref yk, .ref yz, .int (nI nd), .int (b2 fl), .ref yr])), (yk, .inl (E.2.1, 1920, .inl (va_cpy f f i (nd * 80) k))), (yz, .inl (E.2.2.1, 24, .inl (upd sz nd (nI k))))] H := hP
        have hD : va_D A [(y0, .inr (7, [.ref ya, .int (nI nt), .ref yo, .int (nI no), .ref ym, .ref yl, .ref yg, .ref yw, .ref yh, .ref yc, .ref yd, .ref yb, .ref yk, .ref yz, .int (nI nd), .int (b2 fl), .ref yr])), (yk, .inl (E.2.1, 1920, .inl (va_cpy f f i (nd * 80) k))), (yz, .inl (E.2.2.1, 24, .inl (upd sz nd (nI k))))] := hD
        refine lv_aload_n hx hb d_Mod_push_63 rfl (lv_at hl 4 rfl) ?_
        refine lv_dup hx hb d_Mod_push_64 rfl ?_
        refine n_get C fg_Mod_66 hP 0 rfl rfl d_Mod_push_65 ?_
        refine lv_iconst (v := nI 1) hx hb d_Mod_push_68 (by decide) ?_
        refine lv_iadd hx hb d_Mod_push_69 ?_
        refine tope (z := nI (nd + 1)) (nI_add _ _) ?_
        refine n_put (v := .int (nI (nd + 1))) C fp_Mod_66 hP hD hS 0 rfl (rfl) rfl (Nat.le_of_ble_eq_true rfl) d_Mod_push_70 (fun H locs hP hD hS => ?_)
        have hP : va_P E.1 clz [(y0, .inr (7, [.ref ya, .int (nI nt), .ref yo, .int (nI no), .ref ym, .ref yl, .ref yg, .ref yw, .ref yh, .ref yc, .ref yd, .ref yb, .ref yk, .ref yz, .int (nI (nd + 1)), .int (b2 fl), .ref yr])), (yk, .inl (E.2.1, 1920, .inl (va_cpy f f i (nd * 80) k))), (yz, .inl (E.2.2.1, 24, .inl (upd sz nd (nI k))))] H := hP
        have hD : va_D A [(y0, .inr (7, [.ref ya, .int (nI nt), .ref yo, .int (nI no), .ref ym, .ref yl, .ref yg, .ref yw, .ref yh, .ref yc, .ref yd, .ref yb, .ref yk, .ref yz, .int (nI (nd + 1)), .int (b2 fl), .ref yr])), (yk, .inl (E.2.1, 1920, .inl (va_cpy f f i (nd * 80) k))), (yz, .inl (E.2.2.1, 24, .inl (upd sz nd (nI k))))] := hD
        refine lv_iconst (v := nI 1) hx hb d_Mod_push_73 (by decide) ?_
        exact kret (nI 1) [(y0, .inr (7, [.ref ya, .int (nI nt), .ref yo, .int (nI no), .ref ym, .ref yl, .ref yg, .ref yw, .ref yh, .ref yc, .ref yd, .ref yb, .ref yk, .ref yz, .int (nI (nd + 1)), .int (b2 fl), .ref yr])), (yk, .inl (E.2.1, 1920, .inl (va_cpy f f i (nd * 80) k))), (yz, .inl (E.2.2.1, 24, .inl (upd sz nd (nI k))))] _ _ _ _ d_Mod_push_74 (⟨rfl, rfl⟩) rfl hP hS
      · refine lv_aload_n hx hb d_Mod_push_26 rfl (lv_at hl 4 rfl) ?_
        refine n_get C fg_Mod_41 hP 0 rfl rfl d_Mod_push_27 ?_
        refine lv_bipush (v := nI 80) hx hb d_Mod_push_30 (by decide) ?_
        refine lv_aload_n hx hb d_Mod_push_32 rfl (lv_at hl 4 rfl) ?_
        refine n_get C fg_Mod_66 hP 0 rfl rfl d_Mod_push_33 ?_
        refine lv_imul hx hb d_Mod_push_36 ?_
        refine tope (z := nI (nd * 80)) ((pk_mul _ _).trans (congrArg nI (Nat.mul_comm _ _))) ?_
        refine lv_iload hx hb d_Mod_push_37 (lv_at hl 0 rfl) ?_
        refine lv_iadd hx hb d_Mod_push_39 ?_
        refine tope (z := nI ((nd * 80) + q)) (nI_add _ _) ?_
        refine lv_aload_n hx hb d_Mod_push_40 rfl (lv_at hl 3 rfl) ?_
        refine lv_iload_n hx hb d_Mod_push_41 rfl (lv_at hl 2 rfl) ?_
        refine lv_iload hx hb d_Mod_push_42 (lv_at hl 0 rfl) ?_
        refine lv_iadd hx hb d_Mod_push_44 ?_
        refine tope (z := nI (i + q)) (nI_add _ _) ?_
        refine n_bald C hP 1 rfl (i + q) rfl (by omega) (by omega) d_Mod_push_45 ?_
        refine tope (z := f (i + q)) (cpy_self (by omega)) ?_
        refine n_bast (z := f (i + q)) C hP hD hS 1 rfl ((nd * 80) + q) rfl (hB q (by omega)) (by omega) (by omega) d_Mod_push_46 (fun H locs hP hD hS => ?_)
        have hP : va_P E.1 clz [(y0, .inr (7, [.ref ya, .int (nI nt), .ref yo, .int (nI no), .ref ym, .ref yl, .ref yg, .ref yw, .ref yh, .ref yc, .ref yd, .ref yb, .ref yk, .ref yz, .int (nI nd), .int (b2 fl), .ref yr])), (yk, .inl (E.2.1, 1920, .inl (upd (va_cpy f f i (nd * 80) q) ((nd * 80) + q) (f (i + q))))), (yz, .inl (E.2.2.1, 24, .inl sz))] H := hP
        have hD : va_D A [(y0, .inr (7, [.ref ya, .int (nI nt), .ref yo, .int (nI no), .ref ym, .ref yl, .ref yg, .ref yw, .ref yh, .ref yc, .ref yd, .ref yb, .ref yk, .ref yz, .int (nI nd), .int (b2 fl), .ref yr])), (yk, .inl (E.2.1, 1920, .inl (upd (va_cpy f f i (nd * 80) q) ((nd * 80) + q) (f (i + q))))), (yz, .inl (E.2.2.1, 24, .inl sz))] := hD
        rw [cpy_succ f f i (nd * 80) q] at hP hD
        have hP : va_P E.1 clz [(y0, .inr (7, [.ref ya, .int (nI nt), .ref yo, .int (nI no), .ref ym, .ref yl, .ref yg, .ref yw, .ref yh, .ref yc, .ref yd, .ref yb, .ref yk, .ref yz, .int (nI nd), .int (b2 fl), .ref yr])), (yk, .inl (E.2.1, 1920, .inl (va_cpy f f i (nd * 80) (q + 1)))), (yz, .inl (E.2.2.1, 24, .inl sz))] H := hP
        have hD : va_D A [(y0, .inr (7, [.ref ya, .int (nI nt), .ref yo, .int (nI no), .ref ym, .ref yl, .ref yg, .ref yw, .ref yh, .ref yc, .ref yd, .ref yb, .ref yk, .ref yz, .int (nI nd), .int (b2 fl), .ref yr])), (yk, .inl (E.2.1, 1920, .inl (va_cpy f f i (nd * 80) (q + 1)))), (yz, .inl (E.2.2.1, 24, .inl sz))] := hD
        refine lv_iinc (k := 0) (v := nI (q + 1)) (lv' := [(4, .int (nI (q + 1))), (3, .int (nI k)), (2, .int (nI i)), (1, .ref yk), (0, .ref y0)]) hx hb d_Mod_push_47 hl rfl (iincK q 1) (by decide) rfl (fun ls hl => ?_)
        refine lv_goto hx hb d_Mod_push_50 rfl ?_
        exact ih20 (q + 1) H locs ls (by omega) (by omega) hP hD hS (lv_sub hl [0, 1, 2, 3, 4] rfl)
  exact hloop20 (k + 1) 0 H locs ls (by omega) (by omega) hP hD hS (lv_sub hl [0, 4, 3, 2, 1] rfl)

set_option maxHeartbeats 4000000 in
set_option maxRecDepth 100000 in
theorem c_Mod_pushA_full (l : Launch) (E : En) (y0 ya yo ym yl yg yw yh yc yd yb yk yz yr nt no nd : Nat) (fl : Bool) (i k : Nat) (f sz : Nat → Int32) (hn : nd = 24) : CtI l y_Mod_push b_Mod_push 5 .boolean (rmd 0) E [.ref y0, .ref yk, .int (nI i), .int (nI k)] [(y0, .inr (7, [.ref ya, .int (nI nt), .ref yo, .int (nI no), .ref ym, .ref yl, .ref yg, .ref yw, .ref yh, .ref yc, .ref yd, .ref yb, .ref yk, .ref yz, .int (nI nd), .int (b2 fl), .ref yr])), (yk, .inl (E.2.1, 1920, .inl f)), (yz, .inl (E.2.2.1, 24, .inl sz))] (fun r w => r = b2 false ∧ w = [(y0, .inr (7, [.ref ya, .int (nI nt), .ref yo, .int (nI no), .ref ym, .ref yl, .ref yg, .ref yw, .ref yh, .ref yc, .ref yd, .ref yb, .ref yk, .ref yz, .int (nI nd), .int (b2 fl), .ref yr])), (yk, .inl (E.2.1, 1920, .inl f)), (yz, .inl (E.2.2.1, 24, .inl sz))]) := by
  refine CtI.of (by decide) (Nat.le_of_ble_eq_true rfl) (fun r w h => by obtain ⟨rfl, _⟩ := h; exact b2_nar _) ?_
  intro p e s m args below meth c A Q H locs ls C hP hD hS hl kret
  have hx := C.1
  have hb := C.2.1
  have hl : lv_has ls 5 [(0, .ref y0), (1, .ref yk), (2, .int (nI i)), (3, .int (nI k))] := hl
  refine lv_aload_n hx hb d_Mod_push_0 rfl (lv_at hl 0 rfl) ?_
  refine n_get C fg_Mod_66 hP 0 rfl rfl d_Mod_push_1 ?_
  refine lv_bipush (v := nI 24) hx hb d_Mod_push_4 (by decide) ?_
  refine j_eq C nd 24 rfl rfl (by omega) (by omega) d_Mod_push_6 rfl (fun hc1 => ?_) (fun hc1 => absurd hc1 (by omega))
  refine lv_iconst (v := nI 0) hx hb d_Mod_push_15 (by decide) ?_
  exact kret (nI 0) [(y0, .inr (7, [.ref ya, .int (nI nt), .ref yo, .int (nI no), .ref ym, .ref yl, .ref yg, .ref yw, .ref yh, .ref yc, .ref yd, .ref yb, .ref yk, .ref yz, .int (nI nd), .int (b2 fl), .ref yr])), (yk, .inl (E.2.1, 1920, .inl f)), (yz, .inl (E.2.2.1, 24, .inl sz))] _ _ _ _ d_Mod_push_16 (⟨rfl, rfl⟩) rfl hP hS

set_option maxHeartbeats 4000000 in
set_option maxRecDepth 100000 in
theorem c_Mod_pushNumber (l : Launch) (E : En) (y0 ya yo ym yl yg yw yh yc yd yb yk yz yr nt no : Nat) (fl : Bool) (f sz k8 : Nat → Int32) (S : Stk) (v : Int32) (hrep : rep f sz S) (hB : fB f) (hn : S.length < 24) : CtI l y_Mod_pushNumber b_Mod_pushNumber 3 .boolean (rmd 1) E [.ref y0, .int v] [(y0, .inr (7, [.ref ya, .int (nI nt), .ref yo, .int (nI no), .ref ym, .ref yl, .ref yg, .ref yw, .ref yh, .ref yc, .ref yd, .ref yb, .ref yk, .ref yz, .int (nI S.length), .int (b2 fl), .ref yr])), (yk, .inl (E.2.1, 1920, .inl f)), (yz, .inl (E.2.2.1, 24, .inl sz)), (yc, .inl (E.2.1, 32, .inl k8))] (fun r w => r = b2 true ∧ ∃ (f1 z1 c1 : Nat → Int32), w = [(y0, .inr (7, [.ref ya, .int (nI nt), .ref yo, .int (nI no), .ref ym, .ref yl, .ref yg, .ref yw, .ref yh, .ref yc, .ref yd, .ref yb, .ref yk, .ref yz, .int (nI (S.length + 1)), .int (b2 fl), .ref yr])), (yk, .inl (E.2.1, 1920, .inl f1)), (yz, .inl (E.2.2.1, 24, .inl z1)), (yc, .inl (E.2.1, 32, .inl c1))] ∧ rep f1 z1 (numB v :: S) ∧ fB f1) := by
  refine CtI.of (by decide) (Nat.le_of_ble_eq_true rfl) (fun r w h => by obtain ⟨rfl, _⟩ := h; exact b2_nar _) ?_
  intro p e s m args below meth c A Q H locs ls C hP hD hS hl kret
  have hx := C.1
  have hb := C.2.1
  have hl : lv_has ls 3 [(0, .ref y0), (1, .int v)] := hl
  refine lv_iload_n hx hb d_Mod_pushNumber_0 rfl (lv_at hl 1 rfl) ?_
  refine lv_if_ne hx hb d_Mod_pushNumber_1 rfl (fun hc1 => ?_) (fun hc1 => ?_)
  · refine lv_iconst (v := nI 0) hx hb d_Mod_pushNumber_15 (by decide) ?_
    refine lv_istore_n (lv' := [(2, .int (nI 0)), (0, .ref y0), (1, .int v)]) hx hb d_Mod_pushNumber_16 rfl hl (by decide) rfl (fun ls hl => ?_)
    refine lv_iload_n hx hb d_Mod_pushNumber_17 rfl (lv_at hl 0 rfl) ?_
    refine lv_iconst (v := nI 4) hx hb d_Mod_pushNumber_18 (by decide) ?_
    refine j_ge C 0 4 rfl rfl (by decide) (by decide) d_Mod_pushNumber_19 rfl (fun hc2 => absurd hc2 (by decide)) (fun hc2 => ?_)
    refine lv_aload_n hx hb d_Mod_pushNumber_22 rfl (lv_at hl 1 rfl) ?_
    refine n_get C fg_Mod_32 hP 0 rfl rfl d_Mod_pushNumber_23 ?_
    refine lv_iload_n hx hb d_Mod_pushNumber_26 rfl (lv_at hl 0 rfl) ?_
    refine lv_iload_n hx hb d_Mod_pushNumber_27 rfl (lv_at hl 2 rfl) ?_
    refine lv_bipush (v := nI 24) hx hb d_Mod_pushNumber_28 (by decide) ?_
    refine lv_bipush (v := nI 8) hx hb d_Mod_pushNumber_30 (by decide) ?_
    refine lv_iload_n hx hb d_Mod_pushNumber_32 rfl (lv_at hl 0 rfl) ?_
    refine lv_imul hx hb d_Mod_pushNumber_33 ?_
    refine tope (z := nI 0) (pk_mul _ _) ?_
    refine lv_isub hx hb d_Mod_pushNumber_34 ?_
    refine tope (z := nI 24) (pk_sub (by omega)) ?_
    refine lv_ishr hx hb d_Mod_pushNumber_35 ?_
    refine lv_i2b (v := nb (sr v (nI 24))) hx hb d_Mod_pushNumber_36 rfl ?_
    refine n_bast (z := nb (us v (nI 24))) C hP hD hS 3 rfl 0 rfl ((nb_nb _).trans (nb_sr v 24 (by decide))) (by omega) (by omega) d_Mod_pushNumber_37 (fun H locs hP hD hS => ?_)
    have hP : va_P E.1 clz [(y0, .inr (7, [.ref ya, .int (nI nt), .ref yo, .int (nI no), .ref ym, .ref yl, .ref yg, .ref yw, .ref yh, .ref yc, .ref yd, .ref yb, .ref yk, .ref yz, .int (nI S.length), .int (b2 fl), .ref yr])), (yk, .inl (E.2.1, 1920, .inl f)), (yz, .inl (E.2.2.1, 24, .inl sz)), (yc, .inl (E.2.1, 32, .inl (upd k8 0 (nb (us v (nI 24))))))] H := hP
    have hD : va_D A [(y0, .inr (7, [.ref ya, .int (nI nt), .ref yo, .int (nI no), .ref ym, .ref yl, .ref yg, .ref yw, .ref yh, .ref yc, .ref yd, .ref yb, .ref yk, .ref yz, .int (nI S.length), .int (b2 fl), .ref yr])), (yk, .inl (E.2.1, 1920, .inl f)), (yz, .inl (E.2.2.1, 24, .inl sz)), (yc, .inl (E.2.1, 32, .inl (upd k8 0 (nb (us v (nI 24))))))] := hD
    refine lv_iinc (k := 0) (v := nI 1) (lv' := [(2, .int (nI 1)), (0, .ref y0), (1, .int v)]) hx hb d_Mod_pushNumber_38 hl rfl (iincK 0 1) (by decide) rfl (fun ls hl => ?_)
    refine lv_goto hx hb d_Mod_pushNumber_41 rfl ?_
    refine lv_iload_n hx hb d_Mod_pushNumber_17 rfl (lv_at hl 0 rfl) ?_
    refine lv_iconst (v := nI 4) hx hb d_Mod_pushNumber_18 (by decide) ?_
    refine j_ge C 1 4 rfl rfl (by decide) (by decide) d_Mod_pushNumber_19 rfl (fun hc3 => absurd hc3 (by decide)) (fun hc3 => ?_)
    refine lv_aload_n hx hb d_Mod_pushNumber_22 rfl (lv_at hl 1 rfl) ?_
    refine n_get C fg_Mod_32 hP 0 rfl rfl d_Mod_pushNumber_23 ?_
    refine lv_iload_n hx hb d_Mod_pushNumber_26 rfl (lv_at hl 0 rfl) ?_
    refine lv_iload_n hx hb d_Mod_pushNumber_27 rfl (lv_at hl 2 rfl) ?_
    refine lv_bipush (v := nI 24) hx hb d_Mod_pushNumber_28 (by decide) ?_
    refine lv_bipush (v := nI 8) hx hb d_Mod_pushNumber_30 (by decide) ?_
    refine lv_iload_n hx hb d_Mod_pushNumber_32 rfl (lv_at hl 0 rfl) ?_
    refine lv_imul hx hb d_Mod_pushNumber_33 ?_
    refine tope (z := nI 8) (pk_mul _ _) ?_
    refine lv_isub hx hb d_Mod_pushNumber_34 ?_
    refine tope (z := nI 16) (pk_sub (by omega)) ?_
    refine lv_ishr hx hb d_Mod_pushNumber_35 ?_
    refine lv_i2b (v := nb (sr v (nI 16))) hx hb d_Mod_pushNumber_36 rfl ?_
    refine n_bast (z := nb (us v (nI 16))) C hP hD hS 3 rfl 1 rfl ((nb_nb _).trans (nb_sr v 16 (by decide))) (by omega) (by omega) d_Mod_pushNumber_37 (fun H locs hP hD hS => ?_)
    have hP : va_P E.1 clz [(y0, .inr (7, [.ref ya, .int (nI nt), .ref yo, .int (nI no), .ref ym, .ref yl, .ref yg, .ref yw, .ref yh, .ref yc, .ref yd, .ref yb, .ref yk, .ref yz, .int (nI S.length), .int (b2 fl), .ref yr])), (yk, .inl (E.2.1, 1920, .inl f)), (yz, .inl (E.2.2.1, 24, .inl sz)), (yc, .inl (E.2.1, 32, .inl (upd (upd k8 0 (nb (us v (nI 24)))) 1 (nb (us v (nI 16))))))] H := hP
    have hD : va_D A [(y0, .inr (7, [.ref ya, .int (nI nt), .ref yo, .int (nI no), .ref ym, .ref yl, .ref yg, .ref yw, .ref yh, .ref yc, .ref yd, .ref yb, .ref yk, .ref yz, .int (nI S.length), .int (b2 fl), .ref yr])), (yk, .inl (E.2.1, 1920, .inl f)), (yz, .inl (E.2.2.1, 24, .inl sz)), (yc, .inl (E.2.1, 32, .inl (upd (upd k8 0 (nb (us v (nI 24)))) 1 (nb (us v (nI 16))))))] := hD
    refine lv_iinc (k := 0) (v := nI 2) (lv' := [(2, .int (nI 2)), (0, .ref y0), (1, .int v)]) hx hb d_Mod_pushNumber_38 hl rfl (iincK 1 1) (by decide) rfl (fun ls hl => ?_)
    refine lv_goto hx hb d_Mod_pushNumber_41 rfl ?_
    refine lv_iload_n hx hb d_Mod_pushNumber_17 rfl (lv_at hl 0 rfl) ?_
    refine lv_iconst (v := nI 4) hx hb d_Mod_pushNumber_18 (by decide) ?_
    refine j_ge C 2 4 rfl rfl (by decide) (by decide) d_Mod_pushNumber_19 rfl (fun hc4 => absurd hc4 (by decide)) (fun hc4 => ?_)
    refine lv_aload_n hx hb d_Mod_pushNumber_22 rfl (lv_at hl 1 rfl) ?_
    refine n_get C fg_Mod_32 hP 0 rfl rfl d_Mod_pushNumber_23 ?_
    refine lv_iload_n hx hb d_Mod_pushNumber_26 rfl (lv_at hl 0 rfl) ?_
    refine lv_iload_n hx hb d_Mod_pushNumber_27 rfl (lv_at hl 2 rfl) ?_
    refine lv_bipush (v := nI 24) hx hb d_Mod_pushNumber_28 (by decide) ?_
    refine lv_bipush (v := nI 8) hx hb d_Mod_pushNumber_30 (by decide) ?_
    refine lv_iload_n hx hb d_Mod_pushNumber_32 rfl (lv_at hl 0 rfl) ?_
    refine lv_imul hx hb d_Mod_pushNumber_33 ?_
    refine tope (z := nI 16) (pk_mul _ _) ?_
    refine lv_isub hx hb d_Mod_pushNumber_34 ?_
    refine tope (z := nI 8) (pk_sub (by omega)) ?_
    refine lv_ishr hx hb d_Mod_pushNumber_35 ?_
    refine lv_i2b (v := nb (sr v (nI 8))) hx hb d_Mod_pushNumber_36 rfl ?_
    refine n_bast (z := nb (us v (nI 8))) C hP hD hS 3 rfl 2 rfl ((nb_nb _).trans (nb_sr v 8 (by decide))) (by omega) (by omega) d_Mod_pushNumber_37 (fun H locs hP hD hS => ?_)
    have hP : va_P E.1 clz [(y0, .inr (7, [.ref ya, .int (nI nt), .ref yo, .int (nI no), .ref ym, .ref yl, .ref yg, .ref yw, .ref yh, .ref yc, .ref yd, .ref yb, .ref yk, .ref yz, .int (nI S.length), .int (b2 fl), .ref yr])), (yk, .inl (E.2.1, 1920, .inl f)), (yz, .inl (E.2.2.1, 24, .inl sz)), (yc, .inl (E.2.1, 32, .inl (upd (upd (upd k8 0 (nb (us v (nI 24)))) 1 (nb (us v (nI 16)))) 2 (nb (us v (nI 8))))))] H := hP
    have hD : va_D A [(y0, .inr (7, [.ref ya, .int (nI nt), .ref yo, .int (nI no), .ref ym, .ref yl, .ref yg, .ref yw, .ref yh, .ref yc, .ref yd, .ref yb, .ref yk, .ref yz, .int (nI S.length), .int (b2 fl), .ref yr])), (yk, .inl (E.2.1, 1920, .inl f)), (yz, .inl (E.2.2.1, 24, .inl sz)), (yc, .inl (E.2.1, 32, .inl (upd (upd (upd k8 0 (nb (us v (nI 24)))) 1 (nb (us v (nI 16)))) 2 (nb (us v (nI 8))))))] := hD
    refine lv_iinc (k := 0) (v := nI 3) (lv' := [(2, .int (nI 3)), (0, .ref y0), (1, .int v)]) hx hb d_Mod_pushNumber_38 hl rfl (iincK 2 1) (by decide) rfl (fun ls hl => ?_)
    refine lv_goto hx hb d_Mod_pushNumber_41 rfl ?_
    refine lv_iload_n hx hb d_Mod_pushNumber_17 rfl (lv_at hl 0 rfl) ?_
    refine lv_iconst (v := nI 4) hx hb d_Mod_pushNumber_18 (by decide) ?_
    refine j_ge C 3 4 rfl rfl (by decide) (by decide) d_Mod_pushNumber_19 rfl (fun hc5 => absurd hc5 (by decide)) (fun hc5 => ?_)
    refine lv_aload_n hx hb d_Mod_pushNumber_22 rfl (lv_at hl 1 rfl) ?_
    refine n_get C fg_Mod_32 hP 0 rfl rfl d_Mod_pushNumber_23 ?_
    refine lv_iload_n hx hb d_Mod_pushNumber_26 rfl (lv_at hl 0 rfl) ?_
    refine lv_iload_n hx hb d_Mod_pushNumber_27 rfl (lv_at hl 2 rfl) ?_
    refine lv_bipush (v := nI 24) hx hb d_Mod_pushNumber_28 (by decide) ?_
    refine lv_bipush (v := nI 8) hx hb d_Mod_pushNumber_30 (by decide) ?_
    refine lv_iload_n hx hb d_Mod_pushNumber_32 rfl (lv_at hl 0 rfl) ?_
    refine lv_imul hx hb d_Mod_pushNumber_33 ?_
    refine tope (z := nI 24) (pk_mul _ _) ?_
    refine lv_isub hx hb d_Mod_pushNumber_34 ?_
    refine tope (z := nI 0) (pk_sub (by omega)) ?_
    refine lv_ishr hx hb d_Mod_pushNumber_35 ?_
    refine lv_i2b (v := nb (sr v (nI 0))) hx hb d_Mod_pushNumber_36 rfl ?_
    refine n_bast (z := nb (us v (nI 0))) C hP hD hS 3 rfl 3 rfl ((nb_nb _).trans (nb_sr v 0 (by decide))) (by omega) (by omega) d_Mod_pushNumber_37 (fun H locs hP hD hS => ?_)
    have hP : va_P E.1 clz [(y0, .inr (7, [.ref ya, .int (nI nt), .ref yo, .int (nI no), .ref ym, .ref yl, .ref yg, .ref yw, .ref yh, .ref yc, .ref yd, .ref yb, .ref yk, .ref yz, .int (nI S.length), .int (b2 fl), .ref yr])), (yk, .inl (E.2.1, 1920, .inl f)), (yz, .inl (E.2.2.1, 24, .inl sz)), (yc, .inl (E.2.1, 32, .inl (upd (upd (upd (upd k8 0 (nb (us v (nI 24)))) 1 (nb (us v (nI 16)))) 2 (nb (us v (nI 8)))) 3 (nb (us v (nI 0))))))] H := hP
    have hD : va_D A [(y0, .inr (7, [.ref ya, .int (nI nt), .ref yo, .int (nI no), .ref ym, .ref yl, .ref yg, .ref yw, .ref yh, .ref yc, .ref yd, .ref yb, .ref yk, .ref yz, .int (nI S.length), .int (b2 fl), .ref yr])), (yk, .inl (E.2.1, 1920, .inl f)), (yz, .inl (E.2.2.1, 24, .inl sz)), (yc, .inl (E.2.1, 32, .inl (upd (upd (upd (upd k8 0 (nb (us v (nI 24)))) 1 (nb (us v (nI 16)))) 2 (nb (us v (nI 8)))) 3 (nb (us v (nI 0))))))] := hD
    refine lv_iinc (k := 0) (v := nI 4) (lv' := [(2, .int (nI 4)), (0, .ref y0), (1, .int v)]) hx hb d_Mod_pushNumber_38 hl rfl (iincK 3 1) (by decide) rfl (fun ls hl => ?_)
    refine lv_goto hx hb d_Mod_pushNumber_41 rfl ?_
    refine lv_iload_n hx hb d_Mod_pushNumber_17 rfl (lv_at hl 0 rfl) ?_
    refine lv_iconst (v := nI 4) hx hb d_Mod_pushNumber_18 (by decide) ?_
    refine j_ge C 4 4 rfl rfl (by decide) (by decide) d_Mod_pushNumber_19 rfl (fun hc6 => ?_) (fun hc6 => absurd hc6 (by decide))
    have hP : va_P E.1 clz [(y0, .inr (7, [.ref ya, .int (nI nt), .ref yo, .int (nI no), .ref ym, .ref yl, .ref yg, .ref yw, .ref yh, .ref yc, .ref yd, .ref yb, .ref yk, .ref yz, .int (nI S.length), .int (b2 fl), .ref yr])), (yk, .inl (E.2.1, 1920, .inl f)), (yz, .inl (E.2.2.1, 24, .inl sz)), (yc, .inl (E.2.1, 32, .inl (o4 k8 v)))] H := hP
    have hD : va_D A [(y0, .inr (7, [.ref ya, .int (nI nt), .ref yo, .int (nI no), .ref ym, .ref yl, .ref yg, .ref yw, .ref yh, .ref yc, .ref yd, .ref yb, .ref yk, .ref yz, .int (nI S.length), .int (b2 fl), .ref yr])), (yk, .inl (E.2.1, 1920, .inl f)), (yz, .inl (E.2.2.1, 24, .inl sz)), (yc, .inl (E.2.1, 32, .inl (o4 k8 v)))] := hD
    refine lv_aload_n hx hb d_Mod_pushNumber_44 rfl (lv_at hl 1 rfl) ?_
    refine lv_aload_n hx hb d_Mod_pushNumber_45 rfl (lv_at hl 1 rfl) ?_
    refine n_get C fg_Mod_32 hP 0 rfl rfl d_Mod_pushNumber_46 ?_
    refine lv_iconst (v := nI 0) hx hb d_Mod_pushNumber_49 (by decide) ?_
    refine lv_iconst (v := nI 4) hx hb d_Mod_pushNumber_50 (by decide) ?_
    refine cal_I (As := [.ref yc, .int (nI 0), .int (nI 4)]) (rest := []) C lk_Mod_70 (c_Mod_push l E y0 ya yo ym yl yg yw yh yc yd yb yk yz yr nt no S.length fl 0 4 yc 32 f sz (o4 k8 v) (by omega) (by omega) (by omega) ((o4_lay k8 hc1).2.2) (by omega)) (by decide) hP hD hS 0 7 rfl rfl [0, 1, 2, 3] rfl (by decide) hl.1 rfl (Nat.le_of_ble_eq_true rfl) d_Mod_pushNumber_51 (fun r7 w1 H locs hp8 hP hD hS => ?_)
    obtain ⟨rfl, rfl⟩ := hp8
    have hP : va_P E.1 clz [(y0, .inr (7, [.ref ya, .int (nI nt), .ref yo, .int (nI no), .ref ym, .ref yl, .ref yg, .ref yw, .ref yh, .ref yc, .ref yd, .ref yb, .ref yk, .ref yz, .int (nI (S.length + 1)), .int (b2 fl), .ref yr])), (yk, .inl (E.2.1, 1920, .inl (va_cpy (o4 k8 v) f 0 (S.length * 80) 4))), (yz, .inl (E.2.2.1, 24, .inl (upd sz S.length (nI 4)))), (yc, .inl (E.2.1, 32, .inl (o4 k8 v)))] H := hP
    have hD : va_D A [(y0, .inr (7, [.ref ya, .int (nI nt), .ref yo, .int (nI no), .ref ym, .ref yl, .ref yg, .ref yw, .ref yh, .ref yc, .ref yd, .ref yb, .ref yk, .ref yz, .int (nI (S.length + 1)), .int (b2 fl), .ref yr])), (yk, .inl (E.2.1, 1920, .inl (va_cpy (o4 k8 v) f 0 (S.length * 80) 4))), (yz, .inl (E.2.2.1, 24, .inl (upd sz S.length (nI 4)))), (yc, .inl (E.2.1, 32, .inl (o4 k8 v)))] := hD
    exact kret (b2 true) [(y0, .inr (7, [.ref ya, .int (nI nt), .ref yo, .int (nI no), .ref ym, .ref yl, .ref yg, .ref yw, .ref yh, .ref yc, .ref yd, .ref yb, .ref yk, .ref yz, .int (nI (S.length + 1)), .int (b2 fl), .ref yr])), (yk, .inl (E.2.1, 1920, .inl (va_cpy (o4 k8 v) f 0 (S.length * 80) 4))), (yz, .inl (E.2.2.1, 24, .inl (upd sz S.length (nI 4)))), (yc, .inl (E.2.1, 32, .inl (o4 k8 v)))] _ _ _ _ d_Mod_pushNumber_54 (⟨rfl, _, _, _, rfl, rep_cpy hrep rfl (o4_lay k8 hc1).2.1.symm (by rw [(o4_lay k8 hc1).2.1]; omega) (o4_lay k8 hc1).1, fun j => by unfold va_cpy; split; (rename_i c9; rw [show j - S.length * 80 = 0 + (j - S.length * 80) by omega]; rw [show 0 + (0 + (j - S.length * 80)) = 0 + (j - S.length * 80) by omega]; exact (o4_lay k8 hc1).2.2 _ (by omega)); exact hB j⟩) rfl hP hS
  · refine lv_aload_n hx hb d_Mod_pushNumber_4 rfl (lv_at hl 0 rfl) ?_
    refine lv_aload_n hx hb d_Mod_pushNumber_5 rfl (lv_at hl 0 rfl) ?_
    refine n_get C fg_Mod_32 hP 0 rfl rfl d_Mod_pushNumber_6 ?_
    refine lv_iconst (v := nI 0) hx hb d_Mod_pushNumber_9 (by decide) ?_
    refine lv_iconst (v := nI 0) hx hb d_Mod_pushNumber_10 (by decide) ?_
    refine cal_I (As := [.ref yc, .int (nI 0), .int (nI 0)]) (rest := []) C lk_Mod_70 (c_Mod_push l E y0 ya yo ym yl yg yw yh yc yd yb yk yz yr nt no S.length fl 0 0 yc 32 f sz k8 (by omega) (by omega) (by omega) (fun q hq => absurd hq (Nat.not_lt_zero q)) (by omega)) (by decide) hP hD hS 0 7 rfl rfl [0, 1, 2, 3] rfl (by decide) hl.1 rfl (Nat.le_of_ble_eq_true rfl) d_Mod_pushNumber_11 (fun r9 w1 H locs hp10 hP hD hS => ?_)
    obtain ⟨rfl, rfl⟩ := hp10
    have hP : va_P E.1 clz [(y0, .inr (7, [.ref ya, .int (nI nt), .ref yo, .int (nI no), .ref ym, .ref yl, .ref yg, .ref yw, .ref yh, .ref yc, .ref yd, .ref yb, .ref yk, .ref yz, .int (nI (S.length + 1)), .int (b2 fl), .ref yr])), (yk, .inl (E.2.1, 1920, .inl (va_cpy k8 f 0 (S.length * 80) 0))), (yz, .inl (E.2.2.1, 24, .inl (upd sz S.length (nI 0)))), (yc, .inl (E.2.1, 32, .inl k8))] H := hP
    have hD : va_D A [(y0, .inr (7, [.ref ya, .int (nI nt), .ref yo, .int (nI no), .ref ym, .ref yl, .ref yg, .ref yw, .ref yh, .ref yc, .ref yd, .ref yb, .ref yk, .ref yz, .int (nI (S.length + 1)), .int (b2 fl), .ref yr])), (yk, .inl (E.2.1, 1920, .inl (va_cpy k8 f 0 (S.length * 80) 0))), (yz, .inl (E.2.2.1, 24, .inl (upd sz S.length (nI 0)))), (yc, .inl (E.2.1, 32, .inl k8))] := hD
    exact kret (b2 true) [(y0, .inr (7, [.ref ya, .int (nI nt), .ref yo, .int (nI no), .ref ym, .ref yl, .ref yg, .ref yw, .ref yh, .ref yc, .ref yd, .ref yb, .ref yk, .ref yz, .int (nI (S.length + 1)), .int (b2 fl), .ref yr])), (yk, .inl (E.2.1, 1920, .inl (va_cpy k8 f 0 (S.length * 80) 0))), (yz, .inl (E.2.2.1, 24, .inl (upd sz S.length (nI 0)))), (yc, .inl (E.2.1, 32, .inl k8))] _ _ _ _ d_Mod_pushNumber_14 (⟨rfl, _, _, _, rfl, by rw [numB_0 hc1]; exact rep_cpy hrep rfl rfl (Nat.zero_le _) (lay_nil _ _), fun j => by rw [cpy_zero]; exact hB j⟩) rfl hP hS

set_option maxHeartbeats 4000000 in
set_option maxRecDepth 100000 in
theorem c_Mod_pushNumber_full (l : Launch) (E : En) (y0 ya yo ym yl yg yw yh yc yd yb yk yz yr nt no : Nat) (fl : Bool) (f sz k8 : Nat → Int32) (S : Stk) (v : Int32) (hrep : rep f sz S) (hB : fB f) (hn : S.length = 24) : CtI l y_Mod_pushNumber b_Mod_pushNumber 3 .boolean (rmd 1) E [.ref y0, .int v] [(y0, .inr (7, [.ref ya, .int (nI nt), .ref yo, .int (nI no), .ref ym, .ref yl, .ref yg, .ref yw, .ref yh, .ref yc, .ref yd, .ref yb, .ref yk, .ref yz, .int (nI S.length), .int (b2 fl), .ref yr])), (yk, .inl (E.2.1, 1920, .inl f)), (yz, .inl (E.2.2.1, 24, .inl sz)), (yc, .inl (E.2.1, 32, .inl k8))] (fun r w => r = b2 false ∧ ∃ (c1 : Nat → Int32), w = [(y0, .inr (7, [.ref ya, .int (nI nt), .ref yo, .int (nI no), .ref ym, .ref yl, .ref yg, .ref yw, .ref yh, .ref yc, .ref yd, .ref yb, .ref yk, .ref yz, .int (nI S.length), .int (b2 fl), .ref yr])), (yk, .inl (E.2.1, 1920, .inl f)), (yz, .inl (E.2.2.1, 24, .inl sz)), (yc, .inl (E.2.1, 32, .inl c1))]) := by
  refine CtI.of (by decide) (Nat.le_of_ble_eq_true rfl) (fun r w h => by obtain ⟨rfl, _⟩ := h; exact b2_nar _) ?_
  intro p e s m args below meth c A Q H locs ls C hP hD hS hl kret
  have hx := C.1
  have hb := C.2.1
  have hl : lv_has ls 3 [(0, .ref y0), (1, .int v)] := hl
  refine lv_iload_n hx hb d_Mod_pushNumber_0 rfl (lv_at hl 1 rfl) ?_
  refine lv_if_ne hx hb d_Mod_pushNumber_1 rfl (fun hc1 => ?_) (fun hc1 => ?_)
  · refine lv_iconst (v := nI 0) hx hb d_Mod_pushNumber_15 (by decide) ?_
    refine lv_istore_n (lv' := [(2, .int (nI 0)), (0, .ref y0), (1, .int v)]) hx hb d_Mod_pushNumber_16 rfl hl (by decide) rfl (fun ls hl => ?_)
    refine lv_iload_n hx hb d_Mod_pushNumber_17 rfl (lv_at hl 0 rfl) ?_
    refine lv_iconst (v := nI 4) hx hb d_Mod_pushNumber_18 (by decide) ?_
    refine j_ge C 0 4 rfl rfl (by decide) (by decide) d_Mod_pushNumber_19 rfl (fun hc2 => absurd hc2 (by decide)) (fun hc2 => ?_)
    refine lv_aload_n hx hb d_Mod_pushNumber_22 rfl (lv_at hl 1 rfl) ?_
    refine n_get C fg_Mod_32 hP 0 rfl rfl d_Mod_pushNumber_23 ?_
    refine lv_iload_n hx hb d_Mod_pushNumber_26 rfl (lv_at hl 0 rfl) ?_
    refine lv_iload_n hx hb d_Mod_pushNumber_27 rfl (lv_at hl 2 rfl) ?_
    refine lv_bipush (v := nI 24) hx hb d_Mod_pushNumber_28 (by decide) ?_
    refine lv_bipush (v := nI 8) hx hb d_Mod_pushNumber_30 (by decide) ?_
    refine lv_iload_n hx hb d_Mod_pushNumber_32 rfl (lv_at hl 0 rfl) ?_
    refine lv_imul hx hb d_Mod_pushNumber_33 ?_
    refine tope (z := nI 0) (pk_mul _ _) ?_
    refine lv_isub hx hb d_Mod_pushNumber_34 ?_
    refine tope (z := nI 24) (pk_sub (by omega)) ?_
    refine lv_ishr hx hb d_Mod_pushNumber_35 ?_
    refine lv_i2b (v := nb (sr v (nI 24))) hx hb d_Mod_pushNumber_36 rfl ?_
    refine n_bast (z := nb (us v (nI 24))) C hP hD hS 3 rfl 0 rfl ((nb_nb _).trans (nb_sr v 24 (by decide))) (by omega) (by omega) d_Mod_pushNumber_37 (fun H locs hP hD hS => ?_)
    have hP : va_P E.1 clz [(y0, .inr (7, [.ref ya, .int (nI nt), .ref yo, .int (nI no), .ref ym, .ref yl, .ref yg, .ref yw, .ref yh, .ref yc, .ref yd, .ref yb, .ref yk, .ref yz, .int (nI S.length), .int (b2 fl), .ref yr])), (yk, .inl (E.2.1, 1920, .inl f)), (yz, .inl (E.2.2.1, 24, .inl sz)), (yc, .inl (E.2.1, 32, .inl (upd k8 0 (nb (us v (nI 24))))))] H := hP
    have hD : va_D A [(y0, .inr (7, [.ref ya, .int (nI nt), .ref yo, .int (nI no), .ref ym, .ref yl, .ref yg, .ref yw, .ref yh, .ref yc, .ref yd, .ref yb, .ref yk, .ref yz, .int (nI S.length), .int (b2 fl), .ref yr])), (yk, .inl (E.2.1, 1920, .inl f)), (yz, .inl (E.2.2.1, 24, .inl sz)), (yc, .inl (E.2.1, 32, .inl (upd k8 0 (nb (us v (nI 24))))))] := hD
    refine lv_iinc (k := 0) (v := nI 1) (lv' := [(2, .int (nI 1)), (0, .ref y0), (1, .int v)]) hx hb d_Mod_pushNumber_38 hl rfl (iincK 0 1) (by decide) rfl (fun ls hl => ?_)
    refine lv_goto hx hb d_Mod_pushNumber_41 rfl ?_
    refine lv_iload_n hx hb d_Mod_pushNumber_17 rfl (lv_at hl 0 rfl) ?_
    refine lv_iconst (v := nI 4) hx hb d_Mod_pushNumber_18 (by decide) ?_
    refine j_ge C 1 4 rfl rfl (by decide) (by decide) d_Mod_pushNumber_19 rfl (fun hc3 => absurd hc3 (by decide)) (fun hc3 => ?_)
    refine lv_aload_n hx hb d_Mod_pushNumber_22 rfl (lv_at hl 1 rfl) ?_
    refine n_get C fg_Mod_32 hP 0 rfl rfl d_Mod_pushNumber_23 ?_
    refine lv_iload_n hx hb d_Mod_pushNumber_26 rfl (lv_at hl 0 rfl) ?_
    refine lv_iload_n hx hb d_Mod_pushNumber_27 rfl (lv_at hl 2 rfl) ?_
    refine lv_bipush (v := nI 24) hx hb d_Mod_pushNumber_28 (by decide) ?_
    refine lv_bipush (v := nI 8) hx hb d_Mod_pushNumber_30 (by decide) ?_
    refine lv_iload_n hx hb d_Mod_pushNumber_32 rfl (lv_at hl 0 rfl) ?_
    refine lv_imul hx hb d_Mod_pushNumber_33 ?_
    refine tope (z := nI 8) (pk_mul _ _) ?_
    refine lv_isub hx hb d_Mod_pushNumber_34 ?_
    refine tope (z := nI 16) (pk_sub (by omega)) ?_
    refine lv_ishr hx hb d_Mod_pushNumber_35 ?_
    refine lv_i2b (v := nb (sr v (nI 16))) hx hb d_Mod_pushNumber_36 rfl ?_
    refine n_bast (z := nb (us v (nI 16))) C hP hD hS 3 rfl 1 rfl ((nb_nb _).trans (nb_sr v 16 (by decide))) (by omega) (by omega) d_Mod_pushNumber_37 (fun H locs hP hD hS => ?_)
    have hP : va_P E.1 clz [(y0, .inr (7, [.ref ya, .int (nI nt), .ref yo, .int (nI no), .ref ym, .ref yl, .ref yg, .ref yw, .ref yh, .ref yc, .ref yd, .ref yb, .ref yk, .ref yz, .int (nI S.length), .int (b2 fl), .ref yr])), (yk, .inl (E.2.1, 1920, .inl f)), (yz, .inl (E.2.2.1, 24, .inl sz)), (yc, .inl (E.2.1, 32, .inl (upd (upd k8 0 (nb (us v (nI 24)))) 1 (nb (us v (nI 16))))))] H := hP
    have hD : va_D A [(y0, .inr (7, [.ref ya, .int (nI nt), .ref yo, .int (nI no), .ref ym, .ref yl, .ref yg, .ref yw, .ref yh, .ref yc, .ref yd, .ref yb, .ref yk, .ref yz, .int (nI S.length), .int (b2 fl), .ref yr])), (yk, .inl (E.2.1, 1920, .inl f)), (yz, .inl (E.2.2.1, 24, .inl sz)), (yc, .inl (E.2.1, 32, .inl (upd (upd k8 0 (nb (us v (nI 24)))) 1 (nb (us v (nI 16))))))] := hD
    refine lv_iinc (k := 0) (v := nI 2) (lv' := [(2, .int (nI 2)), (0, .ref y0), (1, .int v)]) hx hb d_Mod_pushNumber_38 hl rfl (iincK 1 1) (by decide) rfl (fun ls hl => ?_)
    refine lv_goto hx hb d_Mod_pushNumber_41 rfl ?_
    refine lv_iload_n hx hb d_Mod_pushNumber_17 rfl (lv_at hl 0 rfl) ?_
    refine lv_iconst (v := nI 4) hx hb d_Mod_pushNumber_18 (by decide) ?_
    refine j_ge C 2 4 rfl rfl (by decide) (by decide) d_Mod_pushNumber_19 rfl (fun hc4 => absurd hc4 (by decide)) (fun hc4 => ?_)
    refine lv_aload_n hx hb d_Mod_pushNumber_22 rfl (lv_at hl 1 rfl) ?_
    refine n_get C fg_Mod_32 hP 0 rfl rfl d_Mod_pushNumber_23 ?_
    refine lv_iload_n hx hb d_Mod_pushNumber_26 rfl (lv_at hl 0 rfl) ?_
    refine lv_iload_n hx hb d_Mod_pushNumber_27 rfl (lv_at hl 2 rfl) ?_
    refine lv_bipush (v := nI 24) hx hb d_Mod_pushNumber_28 (by decide) ?_
    refine lv_bipush (v := nI 8) hx hb d_Mod_pushNumber_30 (by decide) ?_
    refine lv_iload_n hx hb d_Mod_pushNumber_32 rfl (lv_at hl 0 rfl) ?_
    refine lv_imul hx hb d_Mod_pushNumber_33 ?_
    refine tope (z := nI 16) (pk_mul _ _) ?_
    refine lv_isub hx hb d_Mod_pushNumber_34 ?_
    refine tope (z := nI 8) (pk_sub (by omega)) ?_
    refine lv_ishr hx hb d_Mod_pushNumber_35 ?_
    refine lv_i2b (v := nb (sr v (nI 8))) hx hb d_Mod_pushNumber_36 rfl ?_
    refine n_bast (z := nb (us v (nI 8))) C hP hD hS 3 rfl 2 rfl ((nb_nb _).trans (nb_sr v 8 (by decide))) (by omega) (by omega) d_Mod_pushNumber_37 (fun H locs hP hD hS => ?_)
    have hP : va_P E.1 clz [(y0, .inr (7, [.ref ya, .int (nI nt), .ref yo, .int (nI no), .ref ym, .ref yl, .ref yg, .ref yw, .ref yh, .ref yc, .ref yd, .ref yb, .ref yk, .ref yz, .int (nI S.length), .int (b2 fl), .ref yr])), (yk, .inl (E.2.1, 1920, .inl f)), (yz, .inl (E.2.2.1, 24, .inl sz)), (yc, .inl (E.2.1, 32, .inl (upd (upd (upd k8 0 (nb (us v (nI 24)))) 1 (nb (us v (nI 16)))) 2 (nb (us v (nI 8))))))] H := hP
    have hD : va_D A [(y0, .inr (7, [.ref ya, .int (nI nt), .ref yo, .int (nI no), .ref ym, .ref yl, .ref yg, .ref yw, .ref yh, .ref yc, .ref yd, .ref yb, .ref yk, .ref yz, .int (nI S.length), .int (b2 fl), .ref yr])), (yk, .inl (E.2.1, 1920, .inl f)), (yz, .inl (E.2.2.1, 24, .inl sz)), (yc, .inl (E.2.1, 32, .inl (upd (upd (upd k8 0 (nb (us v (nI 24)))) 1 (nb (us v (nI 16)))) 2 (nb (us v (nI 8))))))] := hD
    refine lv_iinc (k := 0) (v := nI 3) (lv' := [(2, .int (nI 3)), (0, .ref y0), (1, .int v)]) hx hb d_Mod_pushNumber_38 hl rfl (iincK 2 1) (by decide) rfl (fun ls hl => ?_)
    refine lv_goto hx hb d_Mod_pushNumber_41 rfl ?_
    refine lv_iload_n hx hb d_Mod_pushNumber_17 rfl (lv_at hl 0 rfl) ?_
    refine lv_iconst (v := nI 4) hx hb d_Mod_pushNumber_18 (by decide) ?_
    refine j_ge C 3 4 rfl rfl (by decide) (by decide) d_Mod_pushNumber_19 rfl (fun hc5 => absurd hc5 (by decide)) (fun hc5 => ?_)
    refine lv_aload_n hx hb d_Mod_pushNumber_22 rfl (lv_at hl 1 rfl) ?_
    refine n_get C fg_Mod_32 hP 0 rfl rfl d_Mod_pushNumber_23 ?_
    refine lv_iload_n hx hb d_Mod_pushNumber_26 rfl (lv_at hl 0 rfl) ?_
    refine lv_iload_n hx hb d_Mod_pushNumber_27 rfl (lv_at hl 2 rfl) ?_
    refine lv_bipush (v := nI 24) hx hb d_Mod_pushNumber_28 (by decide) ?_
    refine lv_bipush (v := nI 8) hx hb d_Mod_pushNumber_30 (by decide) ?_
    refine lv_iload_n hx hb d_Mod_pushNumber_32 rfl (lv_at hl 0 rfl) ?_
    refine lv_imul hx hb d_Mod_pushNumber_33 ?_
    refine tope (z := nI 24) (pk_mul _ _) ?_
    refine lv_isub hx hb d_Mod_pushNumber_34 ?_
    refine tope (z := nI 0) (pk_sub (by omega)) ?_
    refine lv_ishr hx hb d_Mod_pushNumber_35 ?_
    refine lv_i2b (v := nb (sr v (nI 0))) hx hb d_Mod_pushNumber_36 rfl ?_
    refine n_bast (z := nb (us v (nI 0))) C hP hD hS 3 rfl 3 rfl ((nb_nb _).trans (nb_sr v 0 (by decide))) (by omega) (by omega) d_Mod_pushNumber_37 (fun H locs hP hD hS => ?_)
    have hP : va_P E.1 clz [(y0, .inr (7, [.ref ya, .int (nI nt), .ref yo, .int (nI no), .ref ym, .ref yl, .ref yg, .ref yw, .ref yh, .ref yc, .ref yd, .ref yb, .ref yk, .ref yz, .int (nI S.length), .int (b2 fl), .ref yr])), (yk, .inl (E.2.1, 1920, .inl f)), (yz, .inl (E.2.2.1, 24, .inl sz)), (yc, .inl (E.2.1, 32, .inl (upd (upd (upd (upd k8 0 (nb (us v (nI 24)))) 1 (nb (us v (nI 16)))) 2 (nb (us v (nI 8)))) 3 (nb (us v (nI 0))))))] H := hP
    have hD : va_D A [(y0, .inr (7, [.ref ya, .int (nI nt), .ref yo, .int (nI no), .ref ym, .ref yl, .ref yg, .ref yw, .ref yh, .ref yc, .ref yd, .ref yb, .ref yk, .ref yz, .int (nI S.length), .int (b2 fl), .ref yr])), (yk, .inl (E.2.1, 1920, .inl f)), (yz, .inl (E.2.2.1, 24, .inl sz)), (yc, .inl (E.2.1, 32, .inl (upd (upd (upd (upd k8 0 (nb (us v (nI 24)))) 1 (nb (us v (nI 16)))) 2 (nb (us v (nI 8)))) 3 (nb (us v (nI 0))))))] := hD
    refine lv_iinc (k := 0) (v := nI 4) (lv' := [(2, .int (nI 4)), (0, .ref y0), (1, .int v)]) hx hb d_Mod_pushNumber_38 hl rfl (iincK 3 1) (by decide) rfl (fun ls hl => ?_)
    refine lv_goto hx hb d_Mod_pushNumber_41 rfl ?_
    refine lv_iload_n hx hb d_Mod_pushNumber_17 rfl (lv_at hl 0 rfl) ?_
    refine lv_iconst (v := nI 4) hx hb d_Mod_pushNumber_18 (by decide) ?_
    refine j_ge C 4 4 rfl rfl (by decide) (by decide) d_Mod_pushNumber_19 rfl (fun hc6 => ?_) (fun hc6 => absurd hc6 (by decide))
    have hP : va_P E.1 clz [(y0, .inr (7, [.ref ya, .int (nI nt), .ref yo, .int (nI no), .ref ym, .ref yl, .ref yg, .ref yw, .ref yh, .ref yc, .ref yd, .ref yb, .ref yk, .ref yz, .int (nI S.length), .int (b2 fl), .ref yr])), (yk, .inl (E.2.1, 1920, .inl f)), (yz, .inl (E.2.2.1, 24, .inl sz)), (yc, .inl (E.2.1, 32, .inl (o4 k8 v)))] H := hP
    have hD : va_D A [(y0, .inr (7, [.ref ya, .int (nI nt), .ref yo, .int (nI no), .ref ym, .ref yl, .ref yg, .ref yw, .ref yh, .ref yc, .ref yd, .ref yb, .ref yk, .ref yz, .int (nI S.length), .int (b2 fl), .ref yr])), (yk, .inl (E.2.1, 1920, .inl f)), (yz, .inl (E.2.2.1, 24, .inl sz)), (yc, .inl (E.2.1, 32, .inl (o4 k8 v)))] := hD
    refine lv_aload_n hx hb d_Mod_pushNumber_44 rfl (lv_at hl 1 rfl) ?_
    refine lv_aload_n hx hb d_Mod_pushNumber_45 rfl (lv_at hl 1 rfl) ?_
    refine n_get C fg_Mod_32 hP 0 rfl rfl d_Mod_pushNumber_46 ?_
    refine lv_iconst (v := nI 0) hx hb d_Mod_pushNumber_49 (by decide) ?_
    refine lv_iconst (v := nI 4) hx hb d_Mod_pushNumber_50 (by decide) ?_
    refine cal_I (As := [.ref yc, .int (nI 0), .int (nI 4)]) (rest := []) C lk_Mod_70 (c_Mod_push_full l E y0 ya yo ym yl yg yw yh yc yd yb yk yz yr nt no S.length fl 0 4 yc 32 f sz (o4 k8 v) (by omega)) (by decide) hP hD hS 0 7 rfl rfl [0, 1, 2, 3] rfl (by decide) hl.1 rfl (Nat.le_of_ble_eq_true rfl) d_Mod_pushNumber_51 (fun r7 w1 H locs hp8 hP hD hS => ?_)
    obtain ⟨rfl, rfl⟩ := hp8
    have hP : va_P E.1 clz [(y0, .inr (7, [.ref ya, .int (nI nt), .ref yo, .int (nI no), .ref ym, .ref yl, .ref yg, .ref yw, .ref yh, .ref yc, .ref yd, .ref yb, .ref yk, .ref yz, .int (nI S.length), .int (b2 fl), .ref yr])), (yk, .inl (E.2.1, 1920, .inl f)), (yz, .inl (E.2.2.1, 24, .inl sz)), (yc, .inl (E.2.1, 32, .inl (o4 k8 v)))] H := hP
    have hD : va_D A [(y0, .inr (7, [.ref ya, .int (nI nt), .ref yo, .int (nI no), .ref ym, .ref yl, .ref yg, .ref yw, .ref yh, .ref yc, .ref yd, .ref yb, .ref yk, .ref yz, .int (nI S.length), .int (b2 fl), .ref yr])), (yk, .inl (E.2.1, 1920, .inl f)), (yz, .inl (E.2.2.1, 24, .inl sz)), (yc, .inl (E.2.1, 32, .inl (o4 k8 v)))] := hD
    exact kret (b2 false) [(y0, .inr (7, [.ref ya, .int (nI nt), .ref yo, .int (nI no), .ref ym, .ref yl, .ref yg, .ref yw, .ref yh, .ref yc, .ref yd, .ref yb, .ref yk, .ref yz, .int (nI S.length), .int (b2 fl), .ref yr])), (yk, .inl (E.2.1, 1920, .inl f)), (yz, .inl (E.2.2.1, 24, .inl sz)), (yc, .inl (E.2.1, 32, .inl (o4 k8 v)))] _ _ _ _ d_Mod_pushNumber_54 (⟨rfl, _, rfl⟩) rfl hP hS
  · refine lv_aload_n hx hb d_Mod_pushNumber_4 rfl (lv_at hl 0 rfl) ?_
    refine lv_aload_n hx hb d_Mod_pushNumber_5 rfl (lv_at hl 0 rfl) ?_
    refine n_get C fg_Mod_32 hP 0 rfl rfl d_Mod_pushNumber_6 ?_
    refine lv_iconst (v := nI 0) hx hb d_Mod_pushNumber_9 (by decide) ?_
    refine lv_iconst (v := nI 0) hx hb d_Mod_pushNumber_10 (by decide) ?_
    refine cal_I (As := [.ref yc, .int (nI 0), .int (nI 0)]) (rest := []) C lk_Mod_70 (c_Mod_push_full l E y0 ya yo ym yl yg yw yh yc yd yb yk yz yr nt no S.length fl 0 0 yc 32 f sz k8 (by omega)) (by decide) hP hD hS 0 7 rfl rfl [0, 1, 2, 3] rfl (by decide) hl.1 rfl (Nat.le_of_ble_eq_true rfl) d_Mod_pushNumber_11 (fun r9 w1 H locs hp10 hP hD hS => ?_)
    obtain ⟨rfl, rfl⟩ := hp10
    have hP : va_P E.1 clz [(y0, .inr (7, [.ref ya, .int (nI nt), .ref yo, .int (nI no), .ref ym, .ref yl, .ref yg, .ref yw, .ref yh, .ref yc, .ref yd, .ref yb, .ref yk, .ref yz, .int (nI S.length), .int (b2 fl), .ref yr])), (yk, .inl (E.2.1, 1920, .inl f)), (yz, .inl (E.2.2.1, 24, .inl sz)), (yc, .inl (E.2.1, 32, .inl k8))] H := hP
    have hD : va_D A [(y0, .inr (7, [.ref ya, .int (nI nt), .ref yo, .int (nI no), .ref ym, .ref yl, .ref yg, .ref yw, .ref yh, .ref yc, .ref yd, .ref yb, .ref yk, .ref yz, .int (nI S.length), .int (b2 fl), .ref yr])), (yk, .inl (E.2.1, 1920, .inl f)), (yz, .inl (E.2.2.1, 24, .inl sz)), (yc, .inl (E.2.1, 32, .inl k8))] := hD
    exact kret (b2 false) [(y0, .inr (7, [.ref ya, .int (nI nt), .ref yo, .int (nI no), .ref ym, .ref yl, .ref yg, .ref yw, .ref yh, .ref yc, .ref yd, .ref yb, .ref yk, .ref yz, .int (nI S.length), .int (b2 fl), .ref yr])), (yk, .inl (E.2.1, 1920, .inl f)), (yz, .inl (E.2.2.1, 24, .inl sz)), (yc, .inl (E.2.1, 32, .inl k8))] _ _ _ _ d_Mod_pushNumber_14 (⟨rfl, _, rfl⟩) rfl hP hS
