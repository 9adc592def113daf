def okM (msg : Byl) (S : Stk) (n k m : Nat) : Nat → Nat → Bool := fun i j => decide (el S (((n - k) - 1) - m + i) = sigL msg (el S (n - k + j)))
theorem mtK_le (ok : Nat → Nat → Bool) (m : Nat) : ∀ k, mtK ok m k ≤ m := by
  intro k
  induction k with
  | zero => exact Nat.zero_le _
  | succ k ih =>
    unfold mtK
    split
    · omega
    · exact ih
theorem mtK_stay {ok : Nat → Nat → Bool} {m i : Nat} (h : mtK ok m i = m) : ∀ d, mtK ok m (i + d) = m := by
  intro d
  induction d with
  | zero => exact h
  | succ d ih =>
    show (if mtK ok m (i + d) < m ∧ ok (mtK ok m (i + d)) (i + d) = true then mtK ok m (i + d) + 1 else mtK ok m (i + d)) = m
    rw [if_neg (by omega)]
    exact ih
theorem mtK_all {ok : Nat → Nat → Bool} {m i k : Nat} (h : mtK ok m i = m) (hk : i ≤ k) : mtK ok m k = m := by
  have := mtK_stay h (k - i)
  rwa [show i + (k - i) = k by omega] at this
theorem hasB_neg {a b n : Nat} (h : a ≤ b) (hb : b < 2 ^ 20) : hasB (nI a - nI b - nI 1) n = false := by
  have e : nI a - nI b - nI 1 = nI a - nI (b + 1) := by
    rw [← nI_add]
    grind
  have := pk_sneg (a := a) (b := b + 1) (by omega) (by omega)
  rw [e]
  simp [hasB, this]
theorem many_0 {msg : Byl} {S : Stk} (h : S.length = 0) : manyS msg S = none := by
  unfold manyS
  rw [if_pos (Or.inl h)]
theorem many_long {msg : Byl} {S : Stk} {n : Nat} (hn : S.length = n + 1) (h : 4 < (el S n).length) : manyS msg S = none := by
  unfold manyS
  rw [hn, Nat.add_sub_cancel, if_pos (Or.inr h)]
theorem many_kbad {msg : Byl} {S : Stk} {n : Nat} (hn : S.length = n + 1) (h4 : (el S n).length ≤ 4) (h : numL (el S n) < 0 ∨ nI 8 < numL (el S n)) : manyS msg S = none := by
  unfold manyS
  rw [hn, Nat.add_sub_cancel, if_neg (by omega), if_pos h]
theorem many_kn {msg : Byl} {S : Stk} {n k : Nat} (hn : S.length = n + 1) (h4 : (el S n).length ≤ 4) (hk : numL (el S n) = nI k) (hk8 : k ≤ 8) (h : n ≤ k ∨ 4 < (el S ((n - k) - 1)).length) : manyS msg S = none := by
  have ek : (nI k).toNatClampNeg = k := nI_clamp (by omega)
  have k1 : ¬ (nI k < 0 ∨ nI 8 < nI k) := by
    rintro (q | q)
    · exact nI_pos (by omega) q
    · rw [nI_ltI (by omega) (by omega)] at q; omega
  unfold manyS
  rw [hn, Nat.add_sub_cancel, if_neg (by omega), hk, if_neg k1, ek]
  simp only []
  rw [if_pos]
  rcases h with h | h
  · exact Or.inl (by omega)
  · exact Or.inr (by rw [show n + 1 - 2 - k = (n - k) - 1 by omega]; exact h)
theorem many_mbad {msg : Byl} {S : Stk} {n k : Nat} (hn : S.length = n + 1) (h4 : (el S n).length ≤ 4) (hk : numL (el S n) = nI k) (hk8 : k ≤ 8) (hkn : k < n) (hy4 : (el S ((n - k) - 1)).length ≤ 4) (h : numL (el S ((n - k) - 1)) < 0 ∨ nI k < numL (el S ((n - k) - 1))) : manyS msg S = none := by
  have ek : (nI k).toNatClampNeg = k := nI_clamp (by omega)
  have k1 : ¬ (nI k < 0 ∨ nI 8 < nI k) := by
    rintro (q | q)
    · exact nI_pos (by omega) q
    · rw [nI_ltI (by omega) (by omega)] at q; omega
  have e2 : n + 1 - 2 - k = (n - k) - 1 := by omega
  unfold manyS
  rw [hn, Nat.add_sub_cancel, if_neg (by omega), hk, if_neg k1, ek]
  simp only [e2]
  rw [if_neg (by omega), if_pos h]
theorem many_mq {msg : Byl} {S : Stk} {n k m : Nat} (hn : S.length = n + 1) (h4 : (el S n).length ≤ 4) (hk : numL (el S n) = nI k) (hk8 : k ≤ 8) (hkn : k < n) (hy4 : (el S ((n - k) - 1)).length ≤ 4) (hm : numL (el S ((n - k) - 1)) = nI m) (hmk : m ≤ k) (h : (n - k) - 1 < m) : manyS msg S = none := by
  have ek : (nI k).toNatClampNeg = k := nI_clamp (by omega)
  have em : (nI m).toNatClampNeg = m := nI_clamp (by omega)
  have k1 : ¬ (nI k < 0 ∨ nI 8 < nI k) := by
    rintro (q | q)
    · exact nI_pos (by omega) q
    · rw [nI_ltI (by omega) (by omega)] at q; omega
  have k2 : ¬ (nI m < 0 ∨ nI k < nI m) := by
    rintro (q | q)
    · exact nI_pos (by omega) q
    · rw [nI_ltI (by omega) (by omega)] at q; omega
  have e2 : n + 1 - 2 - k = (n - k) - 1 := by omega
  unfold manyS
  rw [hn, Nat.add_sub_cancel, if_neg (by omega), hk, if_neg k1, ek]
  simp only [e2, hm, em]
  rw [if_neg (by omega), if_neg k2, if_pos (by omega)]
theorem many_ok {msg : Byl} {S : Stk} {n k m : Nat} (hn : S.length = n + 1) (h4 : (el S n).length ≤ 4) (hk : numL (el S n) = nI k) (hk8 : k ≤ 8) (hkn : k < n) (hy4 : (el S ((n - k) - 1)).length ≤ 4) (hm : numL (el S ((n - k) - 1)) = nI m) (hmk : m ≤ k) (hq : m ≤ (n - k) - 1) {t : Bool} (ht : decide (mtK (okM msg S n k m) m k = m) = t) : manyS msg S = some (numB (b2 t) :: S.drop (S.length - (((n - k) - 1) - m))) := by
  have ek : (nI k).toNatClampNeg = k := nI_clamp (by omega)
  have em : (nI m).toNatClampNeg = m := nI_clamp (by omega)
  have k1 : ¬ (nI k < 0 ∨ nI 8 < nI k) := by
    rintro (q | q)
    · exact nI_pos (by omega) q
    · rw [nI_ltI (by omega) (by omega)] at q; omega
  have k2 : ¬ (nI m < 0 ∨ nI k < nI m) := by
    rintro (q | q)
    · exact nI_pos (by omega) q
    · rw [nI_ltI (by omega) (by omega)] at q; omega
  have e2 : n + 1 - 2 - k = (n - k) - 1 := by omega
  unfold manyS
  rw [hn, Nat.add_sub_cancel, if_neg (by omega), hk, if_neg k1, ek]
  simp only [e2, hm, em]
  rw [if_neg (by omega), if_neg k2, if_neg (by omega), ← ht]
  rfl

set_option maxHeartbeats 4000000 in
set_option maxRecDepth 100000 in
theorem c_Run_many (l : Launch) (E : En) (u0 e0 eb es s0 m0 d0 x0 h0 a1 a2 c0 bo bh : Nat) (mf f sz df xf st wv : Nat → Int32) (S : Stk) (msg : Byl) (hrep : rep f sz S) (hB : fB f) (hBm : fB mf) (hlen : S.length ≤ 24) (hm : lay mf 0 msg) (hm32 : msg.length = 32) (ht : Int32) : CtI l y_Run_many b_Run_many 8 .boolean (rmd 4) E [.ref u0] [(u0, .inr (3, [.ref e0, .ref s0, .ref h0, .ref c0])), (e0, .inr (1, [.ref eb, .ref es, .int (nI S.length)])), (eb, .inl (E.2.1, 1920, .inl f)), (es, .inl (E.2.2.1, 24, .inl sz)), (s0, .inr (5, [.ref m0, .ref d0, .ref h0, .ref x0])), (m0, .inl (E.2.1, 32, .inl mf)), (d0, .inl (E.2.1, 32, .inl df)), (x0, .inl (E.2.1, 112, .inl xf)), (h0, .inr (4, [.ref a1, .ref a2])), (a1, .inl (E.2.2.1, 8, .inl st)), (a2, .inl (E.2.2.1, 64, .inl wv)), (c0, .inr (0, [.int (nI bo), .int (nI bh)]))] (stepP E u0 e0 eb es s0 m0 d0 x0 h0 a1 a2 c0 bo bh mf (manyS msg S)) := by
  refine CtI.of (by decide) (Nat.le_of_ble_eq_true rfl) (stepP_nar) ?_
  intro p e s m args below meth c A Q H locs ls C hP hD hS hl kret
  have hx := C.1
  have hb := C.2.1
  have hl : lv_has ls 8 [(0, .ref u0)] := hl
  rcases Nat.eq_zero_or_pos S.length with hs0 | hs0
  · rw [hs0] at hP hD
    have hP : va_P E.1 clz [(u0, .inr (3, [.ref e0, .ref s0, .ref h0, .ref c0])), (e0, .inr (1, [.ref eb, .ref es, .int (nI 0)])), (eb, .inl (E.2.1, 1920, .inl f)), (es, .inl (E.2.2.1, 24, .inl sz)), (s0, .inr (5, [.ref m0, .ref d0, .ref h0, .ref x0])), (m0, .inl (E.2.1, 32, .inl mf)), (d0, .inl (E.2.1, 32, .inl df)), (x0, .inl (E.2.1, 112, .inl xf)), (h0, .inr (4, [.ref a1, .ref a2])), (a1, .inl (E.2.2.1, 8, .inl st)), (a2, .inl (E.2.2.1, 64, .inl wv)), (c0, .inr (0, [.int (nI bo), .int (nI bh)]))] H := hP
    have hD : va_D A [(u0, .inr (3, [.ref e0, .ref s0, .ref h0, .ref c0])), (e0, .inr (1, [.ref eb, .ref es, .int (nI 0)])), (eb, .inl (E.2.1, 1920, .inl f)), (es, .inl (E.2.2.1, 24, .inl sz)), (s0, .inr (5, [.ref m0, .ref d0, .ref h0, .ref x0])), (m0, .inl (E.2.1, 32, .inl mf)), (d0, .inl (E.2.1, 32, .inl df)), (x0, .inl (E.2.1, 112, .inl xf)), (h0, .inr (4, [.ref a1, .ref a2])), (a1, .inl (E.2.2.1, 8, .inl st)), (a2, .inl (E.2.2.1, 64, .inl wv)), (c0, .inr (0, [.int (nI bo), .int (nI bh)]))] := hD
    refine lv_aload_n hx hb d_Run_many_0 rfl (lv_at hl 0 rfl) ?_
    refine n_get C fg_Run_12 hP 0 rfl rfl d_Run_many_1 ?_
    refine n_get C fg_Run_79 hP 1 rfl rfl d_Run_many_4 ?_
    refine lv_iconst (v := nI 1) hx hb d_Run_many_7 (by decide) ?_
    refine lv_isub hx hb d_Run_many_8 ?_
    refine tope (z := (-1)) (by decide) ?_
    refine lv_istore_n (lv' := [(1, .int (-1)), (0, .ref u0)]) hx hb d_Run_many_9 rfl hl (by decide) rfl (fun ls hl => ?_)
    refine lv_aload_n hx hb d_Run_many_10 rfl (lv_at hl 1 rfl) ?_
    refine n_get C fg_Run_12 hP 0 rfl rfl d_Run_many_11 ?_
    refine lv_iload_n hx hb d_Run_many_14 rfl (lv_at hl 0 rfl) ?_
    refine cal_I (As := [.int (-1)]) (rest := []) C lk_Run_107 (c_El_number_no l E e0 eb es 0 f sz (-1) (by first | exact hasB_m1 _ | exact hasB_m2 _)) (by decide) hP hD hS 1 1 rfl rfl [1, 2, 3] rfl (by decide) hl.1 rfl (Nat.le_of_ble_eq_true rfl) d_Run_many_15 (fun r1 w1 H locs hp2 hP hD hS => ?_)
    obtain ⟨rfl, rfl⟩ := hp2
    have hP : va_P E.1 clz [(u0, .inr (3, [.ref e0, .ref s0, .ref h0, .ref c0])), (e0, .inr (1, [.ref eb, .ref es, .int (nI 0)])), (eb, .inl (E.2.1, 1920, .inl f)), (es, .inl (E.2.2.1, 24, .inl sz)), (s0, .inr (5, [.ref m0, .ref d0, .ref h0, .ref x0])), (m0, .inl (E.2.1, 32, .inl mf)), (d0, .inl (E.2.1, 32, .inl df)), (x0, .inl (E.2.1, 112, .inl xf)), (h0, .inr (4, [.ref a1, .ref a2])), (a1, .inl (E.2.2.1, 8, .inl st)), (a2, .inl (E.2.2.1, 64, .inl wv)), (c0, .inr (0, [.int (nI bo), .int (nI bh)]))] H := hP
    have hD : va_D A [(u0, .inr (3, [.ref e0, .ref s0, .ref h0, .ref c0])), (e0, .inr (1, [.ref eb, .ref es, .int (nI 0)])), (eb, .inl (E.2.1, 1920, .inl f)), (es, .inl (E.2.2.1, 24, .inl sz)), (s0, .inr (5, [.ref m0, .ref d0, .ref h0, .ref x0])), (m0, .inl (E.2.1, 32, .inl mf)), (d0, .inl (E.2.1, 32, .inl df)), (x0, .inl (E.2.1, 112, .inl xf)), (h0, .inr (4, [.ref a1, .ref a2])), (a1, .inl (E.2.2.1, 8, .inl st)), (a2, .inl (E.2.2.1, 64, .inl wv)), (c0, .inr (0, [.int (nI bo), .int (nI bh)]))] := hD
    refine lv_istore_n (lv' := [(2, .int (nI 0)), (1, .int (-1)), (0, .ref u0)]) hx hb d_Run_many_18 rfl hl (by decide) rfl (fun ls hl => ?_)
    refine lv_aload_n hx hb d_Run_many_19 rfl (lv_at hl 2 rfl) ?_
    refine n_get C fg_Run_12 hP 0 rfl rfl d_Run_many_20 ?_
    refine lv_iload_n hx hb d_Run_many_23 rfl (lv_at hl 1 rfl) ?_
    refine cal_I (As := [.int (-1)]) (rest := []) C lk_Run_104 (c_El_isNumber_no l E e0 eb es 0 f sz (-1) (by first | exact hasB_m1 _ | exact hasB_m2 _)) (by decide) hP hD hS 1 1 rfl rfl [1, 2, 3] rfl (by decide) hl.1 rfl (Nat.le_of_ble_eq_true rfl) d_Run_many_24 (fun r3 w1 H locs hp4 hP hD hS => ?_)
    obtain ⟨rfl, rfl⟩ := hp4
    have hP : va_P E.1 clz [(u0, .inr (3, [.ref e0, .ref s0, .ref h0, .ref c0])), (e0, .inr (1, [.ref eb, .ref es, .int (nI 0)])), (eb, .inl (E.2.1, 1920, .inl f)), (es, .inl (E.2.2.1, 24, .inl sz)), (s0, .inr (5, [.ref m0, .ref d0, .ref h0, .ref x0])), (m0, .inl (E.2.1, 32, .inl mf)), (d0, .inl (E.2.1, 32, .inl df)), (x0, .inl (E.2.1, 112, .inl xf)), (h0, .inr (4, [.ref a1, .ref a2])), (a1, .inl (E.2.2.1, 8, .inl st)), (a2, .inl (E.2.2.1, 64, .inl wv)), (c0, .inr (0, [.int (nI bo), .int (nI bh)]))] H := hP
    have hD : va_D A [(u0, .inr (3, [.ref e0, .ref s0, .ref h0, .ref c0])), (e0, .inr (1, [.ref eb, .ref es, .int (nI 0)])), (eb, .inl (E.2.1, 1920, .inl f)), (es, .inl (E.2.2.1, 24, .inl sz)), (s0, .inr (5, [.ref m0, .ref d0, .ref h0, .ref x0])), (m0, .inl (E.2.1, 32, .inl mf)), (d0, .inl (E.2.1, 32, .inl df)), (x0, .inl (E.2.1, 112, .inl xf)), (h0, .inr (4, [.ref a1, .ref a2])), (a1, .inl (E.2.2.1, 8, .inl st)), (a2, .inl (E.2.2.1, 64, .inl wv)), (c0, .inr (0, [.int (nI bo), .int (nI bh)]))] := hD
    refine zb_eq C false rfl d_Run_many_27 rfl (fun hc5 => ?_) (fun hc5 => absurd hc5 (by simp_all))
    refine lv_iconst (v := nI 0) hx hb d_Run_many_40 (by decide) ?_
    exact kret (nI 0) [(u0, .inr (3, [.ref e0, .ref s0, .ref h0, .ref c0])), (e0, .inr (1, [.ref eb, .ref es, .int (nI 0)])), (eb, .inl (E.2.1, 1920, .inl f)), (es, .inl (E.2.2.1, 24, .inl sz)), (s0, .inr (5, [.ref m0, .ref d0, .ref h0, .ref x0])), (m0, .inl (E.2.1, 32, .inl mf)), (d0, .inl (E.2.1, 32, .inl df)), (x0, .inl (E.2.1, 112, .inl xf)), (h0, .inr (4, [.ref a1, .ref a2])), (a1, .inl (E.2.2.1, 8, .inl st)), (a2, .inl (E.2.2.1, 64, .inl wv)), (c0, .inr (0, [.int (nI bo), .int (nI bh)]))] _ _ _ _ d_Run_many_41 (⟨_, _, _, _, _, _, _, rfl, hB, Or.inr ⟨many_0 hs0, rfl⟩⟩) rfl hP hS
  · obtain ⟨n, hn⟩ : ∃ n, S.length = n + 1 := ⟨S.length - 1, by omega⟩
    rw [hn] at hP hD
    have hP : va_P E.1 clz [(u0, .inr (3, [.ref e0, .ref s0, .ref h0, .ref c0])), (e0, .inr (1, [.ref eb, .ref es, .int (nI (n + 1))])), (eb, .inl (E.2.1, 1920, .inl f)), (es, .inl (E.2.2.1, 24, .inl sz)), (s0, .inr (5, [.ref m0, .ref d0, .ref h0, .ref x0])), (m0, .inl (E.2.1, 32, .inl mf)), (d0, .inl (E.2.1, 32, .inl df)), (x0, .inl (E.2.1, 112, .inl xf)), (h0, .inr (4, [.ref a1, .ref a2])), (a1, .inl (E.2.2.1, 8, .inl st)), (a2, .inl (E.2.2.1, 64, .inl wv)), (c0, .inr (0, [.int (nI bo), .int (nI bh)]))] H := hP
    have hD : va_D A [(u0, .inr (3, [.ref e0, .ref s0, .ref h0, .ref c0])), (e0, .inr (1, [.ref eb, .ref es, .int (nI (n + 1))])), (eb, .inl (E.2.1, 1920, .inl f)), (es, .inl (E.2.2.1, 24, .inl sz)), (s0, .inr (5, [.ref m0, .ref d0, .ref h0, .ref x0])), (m0, .inl (E.2.1, 32, .inl mf)), (d0, .inl (E.2.1, 32, .inl df)), (x0, .inl (E.2.1, 112, .inl xf)), (h0, .inr (4, [.ref a1, .ref a2])), (a1, .inl (E.2.2.1, 8, .inl st)), (a2, .inl (E.2.2.1, 64, .inl wv)), (c0, .inr (0, [.int (nI bo), .int (nI bh)]))] := hD
    have hX := hrep n (by omega)
    rcases Nat.lt_or_ge 4 (el S n).length with h4 | h4
    · refine lv_aload_n hx hb d_Run_many_0 rfl (lv_at hl 0 rfl) ?_
      refine n_get C fg_Run_12 hP 0 rfl rfl d_Run_many_1 ?_
      refine n_get C fg_Run_79 hP 1 rfl rfl d_Run_many_4 ?_
      refine lv_iconst (v := nI 1) hx hb d_Run_many_7 (by decide) ?_
      refine lv_isub hx hb d_Run_many_8 ?_
      refine tope (z := nI n) ((pk_sub (by omega)).trans (congrArg nI (by omega))) ?_
      refine lv_istore_n (lv' := [(1, .int (nI n)), (0, .ref u0)]) hx hb d_Run_many_9 rfl hl (by decide) rfl (fun ls hl => ?_)
      refine lv_aload_n hx hb d_Run_many_10 rfl (lv_at hl 1 rfl) ?_
      refine n_get C fg_Run_12 hP 0 rfl rfl d_Run_many_11 ?_
      refine lv_iload_n hx hb d_Run_many_14 rfl (lv_at hl 0 rfl) ?_
      refine cal_I (As := [.int (nI n)]) (rest := []) C lk_Run_107 (c_El_number_long l E e0 eb es (n + 1) f sz n (el S n) (by omega) (by omega) hX.1 hX.2.1 hX.2.2 h4) (by decide) hP hD hS 1 1 rfl rfl [1, 2, 3] rfl (by decide) hl.1 rfl (Nat.le_of_ble_eq_true rfl) d_Run_many_15 (fun r6 w1 H locs hp7 hP hD hS => ?_)
      obtain ⟨rfl, rfl⟩ := hp7
      have hP : va_P E.1 clz [(u0, .inr (3, [.ref e0, .ref s0, .ref h0, .ref c0])), (e0, .inr (1, [.ref eb, .ref es, .int (nI (n + 1))])), (eb, .inl (E.2.1, 1920, .inl f)), (es, .inl (E.2.2.1, 24, .inl sz)), (s0, .inr (5, [.ref m0, .ref d0, .ref h0, .ref x0])), (m0, .inl (E.2.1, 32, .inl mf)), (d0, .inl (E.2.1, 32, .inl df)), (x0, .inl (E.2.1, 112, .inl xf)), (h0, .inr (4, [.ref a1, .ref a2])), (a1, .inl (E.2.2.1, 8, .inl st)), (a2, .inl (E.2.2.1, 64, .inl wv)), (c0, .inr (0, [.int (nI bo), .int (nI bh)]))] H := hP
      have hD : va_D A [(u0, .inr (3, [.ref e0, .ref s0, .ref h0, .ref c0])), (e0, .inr (1, [.ref eb, .ref es, .int (nI (n + 1))])), (eb, .inl (E.2.1, 1920, .inl f)), (es, .inl (E.2.2.1, 24, .inl sz)), (s0, .inr (5, [.ref m0, .ref d0, .ref h0, .ref x0])), (m0, .inl (E.2.1, 32, .inl mf)), (d0, .inl (E.2.1, 32, .inl df)), (x0, .inl (E.2.1, 112, .inl xf)), (h0, .inr (4, [.ref a1, .ref a2])), (a1, .inl (E.2.2.1, 8, .inl st)), (a2, .inl (E.2.2.1, 64, .inl wv)), (c0, .inr (0, [.int (nI bo), .int (nI bh)]))] := hD
      refine lv_istore_n (lv' := [(2, .int (nI 0)), (1, .int (nI n)), (0, .ref u0)]) hx hb d_Run_many_18 rfl hl (by decide) rfl (fun ls hl => ?_)
      refine lv_aload_n hx hb d_Run_many_19 rfl (lv_at hl 2 rfl) ?_
      refine n_get C fg_Run_12 hP 0 rfl rfl d_Run_many_20 ?_
      refine lv_iload_n hx hb d_Run_many_23 rfl (lv_at hl 1 rfl) ?_
      refine cal_I (As := [.int (nI n)]) (rest := []) C lk_Run_104 (c_El_isNumber l E e0 eb es (n + 1) f sz n (el S n).length (by omega) (by omega) hX.1 hX.2.1) (by decide) hP hD hS 1 1 rfl rfl [1, 2, 3] rfl (by decide) hl.1 rfl (Nat.le_of_ble_eq_true rfl) d_Run_many_24 (fun r8 w1 H locs hp9 hP hD hS => ?_)
      obtain ⟨rfl, rfl⟩ := hp9
      have hP : va_P E.1 clz [(u0, .inr (3, [.ref e0, .ref s0, .ref h0, .ref c0])), (e0, .inr (1, [.ref eb, .ref es, .int (nI (n + 1))])), (eb, .inl (E.2.1, 1920, .inl f)), (es, .inl (E.2.2.1, 24, .inl sz)), (s0, .inr (5, [.ref m0, .ref d0, .ref h0, .ref x0])), (m0, .inl (E.2.1, 32, .inl mf)), (d0, .inl (E.2.1, 32, .inl df)), (x0, .inl (E.2.1, 112, .inl xf)), (h0, .inr (4, [.ref a1, .ref a2])), (a1, .inl (E.2.2.1, 8, .inl st)), (a2, .inl (E.2.2.1, 64, .inl wv)), (c0, .inr (0, [.int (nI bo), .int (nI bh)]))] H := hP
      have hD : va_D A [(u0, .inr (3, [.ref e0, .ref s0, .ref h0, .ref c0])), (e0, .inr (1, [.ref eb, .ref es, .int (nI (n + 1))])), (eb, .inl (E.2.1, 1920, .inl f)), (es, .inl (E.2.2.1, 24, .inl sz)), (s0, .inr (5, [.ref m0, .ref d0, .ref h0, .ref x0])), (m0, .inl (E.2.1, 32, .inl mf)), (d0, .inl (E.2.1, 32, .inl df)), (x0, .inl (E.2.1, 112, .inl xf)), (h0, .inr (4, [.ref a1, .ref a2])), (a1, .inl (E.2.2.1, 8, .inl st)), (a2, .inl (E.2.2.1, 64, .inl wv)), (c0, .inr (0, [.int (nI bo), .int (nI bh)]))] := hD
      refine tope (z := b2 false) (congrArg b2 (decide_eq_false (by omega))) ?_
      refine zb_eq C false rfl d_Run_many_27 rfl (fun hc10 => ?_) (fun hc10 => absurd hc10 (by simp_all))
      refine lv_iconst (v := nI 0) hx hb d_Run_many_40 (by decide) ?_
      exact kret (nI 0) [(u0, .inr (3, [.ref e0, .ref s0, .ref h0, .ref c0])), (e0, .inr (1, [.ref eb, .ref es, .int (nI (n + 1))])), (eb, .inl (E.2.1, 1920, .inl f)), (es, .inl (E.2.2.1, 24, .inl sz)), (s0, .inr (5, [.ref m0, .ref d0, .ref h0, .ref x0])), (m0, .inl (E.2.1, 32, .inl mf)), (d0, .inl (E.2.1, 32, .inl df)), (x0, .inl (E.2.1, 112, .inl xf)), (h0, .inr (4, [.ref a1, .ref a2])), (a1, .inl (E.2.2.1, 8, .inl st)), (a2, .inl (E.2.2.1, 64, .inl wv)), (c0, .inr (0, [.int (nI bo), .int (nI bh)]))] _ _ _ _ d_Run_many_41 (⟨_, _, _, _, _, _, _, rfl, hB, Or.inr ⟨many_long hn h4, rfl⟩⟩) rfl hP hS
    · refine lv_aload_n hx hb d_Run_many_0 rfl (lv_at hl 0 rfl) ?_
      refine n_get C fg_Run_12 hP 0 rfl rfl d_Run_many_1 ?_
      refine n_get C fg_Run_79 hP 1 rfl rfl d_Run_many_4 ?_
      refine lv_iconst (v := nI 1) hx hb d_Run_many_7 (by decide) ?_
      refine lv_isub hx hb d_Run_many_8 ?_
      refine tope (z := nI n) ((pk_sub (by omega)).trans (congrArg nI (by omega))) ?_
      refine lv_istore_n (lv' := [(1, .int (nI n)), (0, .ref u0)]) hx hb d_Run_many_9 rfl hl (by decide) rfl (fun ls hl => ?_)
      refine lv_aload_n hx hb d_Run_many_10 rfl (lv_at hl 1 rfl) ?_
      refine n_get C fg_Run_12 hP 0 rfl rfl d_Run_many_11 ?_
      refine lv_iload_n hx hb d_Run_many_14 rfl (lv_at hl 0 rfl) ?_
      refine cal_I (As := [.int (nI n)]) (rest := []) C lk_Run_107 (c_El_number l E e0 eb es (n + 1) f sz n (el S n) (by omega) (by omega) hX.1 hX.2.1 hX.2.2 h4) (by decide) hP hD hS 1 1 rfl rfl [1, 2, 3] rfl (by decide) hl.1 rfl (Nat.le_of_ble_eq_true rfl) d_Run_many_15 (fun r11 w1 H locs hp12 hP hD hS => ?_)
      obtain ⟨rfl, rfl⟩ := hp12
      have hP : va_P E.1 clz [(u0, .inr (3, [.ref e0, .ref s0, .ref h0, .ref c0])), (e0, .inr (1, [.ref eb, .ref es, .int (nI (n + 1))])), (eb, .inl (E.2.1, 1920, .inl f)), (es, .inl (E.2.2.1, 24, .inl sz)), (s0, .inr (5, [.ref m0, .ref d0, .ref h0, .ref x0])), (m0, .inl (E.2.1, 32, .inl mf)), (d0, .inl (E.2.1, 32, .inl df)), (x0, .inl (E.2.1, 112, .inl xf)), (h0, .inr (4, [.ref a1, .ref a2])), (a1, .inl (E.2.2.1, 8, .inl st)), (a2, .inl (E.2.2.1, 64, .inl wv)), (c0, .inr (0, [.int (nI bo), .int (nI bh)]))] H := hP
      have hD : va_D A [(u0, .inr (3, [.ref e0, .ref s0, .ref h0, .ref c0])), (e0, .inr (1, [.ref eb, .ref es, .int (nI (n + 1))])), (eb, .inl (E.2.1, 1920, .inl f)), (es, .inl (E.2.2.1, 24, .inl sz)), (s0, .inr (5, [.ref m0, .ref d0, .ref h0, .ref x0])), (m0, .inl (E.2.1, 32, .inl mf)), (d0, .inl (E.2.1, 32, .inl df)), (x0, .inl (E.2.1, 112, .inl xf)), (h0, .inr (4, [.ref a1, .ref a2])), (a1, .inl (E.2.2.1, 8, .inl st)), (a2, .inl (E.2.2.1, 64, .inl wv)), (c0, .inr (0, [.int (nI bo), .int (nI bh)]))] := hD
      refine lv_istore_n (lv' := [(2, .int (numL (el S n))), (1, .int (nI n)), (0, .ref u0)]) hx hb d_Run_many_18 rfl hl (by decide) rfl (fun ls hl => ?_)
      refine lv_aload_n hx hb d_Run_many_19 rfl (lv_at hl 2 rfl) ?_
      refine n_get C fg_Run_12 hP 0 rfl rfl d_Run_many_20 ?_
      refine lv_iload_n hx hb d_Run_many_23 rfl (lv_at hl 1 rfl) ?_
      refine cal_I (As := [.int (nI n)]) (rest := []) C lk_Run_104 (c_El_isNumber l E e0 eb es (n + 1) f sz n (el S n).length (by omega) (by omega) hX.1 hX.2.1) (by decide) hP hD hS 1 1 rfl rfl [1, 2, 3] rfl (by decide) hl.1 rfl (Nat.le_of_ble_eq_true rfl) d_Run_many_24 (fun r13 w1 H locs hp14 hP hD hS => ?_)
      obtain ⟨rfl, rfl⟩ := hp14
      have hP : va_P E.1 clz [(u0, .inr (3, [.ref e0, .ref s0, .ref h0, .ref c0])), (e0, .inr (1, [.ref eb, .ref es, .int (nI (n + 1))])), (eb, .inl (E.2.1, 1920, .inl f)), (es, .inl (E.2.2.1, 24, .inl sz)), (s0, .inr (5, [.ref m0, .ref d0, .ref h0, .ref x0])), (m0, .inl (E.2.1, 32, .inl mf)), (d0, .inl (E.2.1, 32, .inl df)), (x0, .inl (E.2.1, 112, .inl xf)), (h0, .inr (4, [.ref a1, .ref a2])), (a1, .inl (E.2.2.1, 8, .inl st)), (a2, .inl (E.2.2.1, 64, .inl wv)), (c0, .inr (0, [.int (nI bo), .int (nI bh)]))] H := hP
      have hD : va_D A [(u0, .inr (3, [.ref e0, .ref s0, .ref h0, .ref c0])), (e0, .inr (1, [.ref eb, .ref es, .int (nI (n + 1))])), (eb, .inl (E.2.1, 1920, .inl f)), (es, .inl (E.2.2.1, 24, .inl sz)), (s0, .inr (5, [.ref m0, .ref d0, .ref h0, .ref x0])), (m0, .inl (E.2.1, 32, .inl mf)), (d0, .inl (E.2.1, 32, .inl df)), (x0, .inl (E.2.1, 112, .inl xf)), (h0, .inr (4, [.ref a1, .ref a2])), (a1, .inl (E.2.2.1, 8, .inl st)), (a2, .inl (E.2.2.1, 64, .inl wv)), (c0, .inr (0, [.int (nI bo), .int (nI bh)]))] := hD
      refine tope (z := b2 true) (congrArg b2 (decide_eq_true h4)) ?_
      refine zb_eq C true rfl d_Run_many_27 rfl (fun hc15 => absurd hc15 (by simp_all)) (fun hc15 => ?_)
      refine lv_iload_n hx hb d_Run_many_30 rfl (lv_at hl 0 rfl) ?_
      refine lv_if_lt hx hb d_Run_many_31 rfl (fun hc16 => ?_) (fun hc16 => ?_)
      · refine lv_iconst (v := nI 0) hx hb d_Run_many_40 (by decide) ?_
        exact kret (nI 0) [(u0, .inr (3, [.ref e0, .ref s0, .ref h0, .ref c0])), (e0, .inr (1, [.ref eb, .ref es, .int (nI (n + 1))])), (eb, .inl (E.2.1, 1920, .inl f)), (es, .inl (E.2.2.1, 24, .inl sz)), (s0, .inr (5, [.ref m0, .ref d0, .ref h0, .ref x0])), (m0, .inl (E.2.1, 32, .inl mf)), (d0, .inl (E.2.1, 32, .inl df)), (x0, .inl (E.2.1, 112, .inl xf)), (h0, .inr (4, [.ref a1, .ref a2])), (a1, .inl (E.2.2.1, 8, .inl st)), (a2, .inl (E.2.2.1, 64, .inl wv)), (c0, .inr (0, [.int (nI bo), .int (nI bh)]))] _ _ _ _ d_Run_many_41 (⟨_, _, _, _, _, _, _, rfl, hB, Or.inr ⟨by exact many_kbad hn h4 (Or.inl hc16), rfl⟩⟩) rfl hP hS
      · refine lv_iload_n hx hb d_Run_many_34 rfl (lv_at hl 0 rfl) ?_
        refine lv_bipush (v := nI 8) hx hb d_Run_many_35 (by decide) ?_
        refine lv_icmp_le hx hb d_Run_many_37 rfl (fun hc17 => ?_) (fun hc17 => ?_)
        · obtain ⟨k, hk8, hk⟩ := nI_of2 (M := nI 8) (n := 8) (by decide) hc16 hc17
          have hl : lv_has ls 8 [(2, .int (nI k)), (1, .int (nI n)), (0, .ref u0)] := by rw [← hk]; exact hl
          rcases Nat.lt_or_ge k n with hkn | hkn
          · have hY := hrep ((n - k) - 1) (by omega)
            rcases Nat.lt_or_ge 4 (el S ((n - k) - 1)).length with hy4 | hy4
            · refine lv_iload_n hx hb d_Run_many_42 rfl (lv_at hl 1 rfl) ?_
              refine lv_iload_n hx hb d_Run_many_43 rfl (lv_at hl 0 rfl) ?_
              refine lv_isub hx hb d_Run_many_44 ?_
              refine tope (z := nI (n - k)) (pk_sub (by omega)) ?_
              refine lv_istore_n (lv' := [(3, .int (nI (n - k))), (2, .int (nI k)), (1, .int (nI n)), (0, .ref u0)]) hx hb d_Run_many_45 rfl hl (by decide) rfl (fun ls hl => ?_)
              refine lv_aload_n hx hb d_Run_many_46 rfl (lv_at hl 3 rfl) ?_
              refine n_get C fg_Run_12 hP 0 rfl rfl d_Run_many_47 ?_
              refine lv_iload_n hx hb d_Run_many_50 rfl (lv_at hl 0 rfl) ?_
              refine lv_iconst (v := nI 1) hx hb d_Run_many_51 (by decide) ?_
              refine lv_isub hx hb d_Run_many_52 ?_
              refine tope (z := nI ((n - k) - 1)) (pk_sub (by omega)) ?_
              refine cal_I (As := [.int (nI ((n - k) - 1))]) (rest := []) C lk_Run_107 (c_El_number_long l E e0 eb es (n + 1) f sz ((n - k) - 1) (el S ((n - k) - 1)) (by omega) (by omega) hY.1 hY.2.1 hY.2.2 hy4) (by decide) hP hD hS 1 1 rfl rfl [1, 2, 3] rfl (by decide) hl.1 rfl (Nat.le_of_ble_eq_true rfl) d_Run_many_53 (fun r18 w1 H locs hp19 hP hD hS => ?_)
              obtain ⟨rfl, rfl⟩ := hp19
              have hP : va_P E.1 clz [(u0, .inr (3, [.ref e0, .ref s0, .ref h0, .ref c0])), (e0, .inr (1, [.ref eb, .ref es, .int (nI (n + 1))])), (eb, .inl (E.2.1, 1920, .inl f)), (es, .inl (E.2.2.1, 24, .inl sz)), (s0, .inr (5, [.ref m0, .ref d0, .ref h0, .ref x0])), (m0, .inl (E.2.1, 32, .inl mf)), (d0, .inl (E.2.1, 32, .inl df)), (x0, .inl (E.2.1, 112, .inl xf)), (h0, .inr (4, [.ref a1, .ref a2])), (a1, .inl (E.2.2.1, 8, .inl st)), (a2, .inl (E.2.2.1, 64, .inl wv)), (c0, .inr (0, [.int (nI bo), .int (nI bh)]))] H := hP
              have hD : va_D A [(u0, .inr (3, [.ref e0, .ref s0, .ref h0, .ref c0])), (e0, .inr (1, [.ref eb, .ref es, .int (nI (n + 1))])), (eb, .inl (E.2.1, 1920, .inl f)), (es, .inl (E.2.2.1, 24, .inl sz)), (s0, .inr (5, [.ref m0, .ref d0, .ref h0, .ref x0])), (m0, .inl (E.2.1, 32, .inl mf)), (d0, .inl (E.2.1, 32, .inl df)), (x0, .inl (E.2.1, 112, .inl xf)), (h0, .inr (4, [.ref a1, .ref a2])), (a1, .inl (E.2.2.1, 8, .inl st)), (a2, .inl (E.2.2.1, 64, .inl wv)), (c0, .inr (0, [.int (nI bo), .int (nI bh)]))] := hD
              refine lv_istore (lv' := [(4, .int (nI 0)), (3, .int (nI (n - k))), (2, .int (nI k)), (1, .int (nI n)), (0, .ref u0)]) hx hb d_Run_many_56 hl (by decide) rfl (fun ls hl => ?_)
              refine lv_aload_n hx hb d_Run_many_58 rfl (lv_at hl 4 rfl) ?_
              refine n_get C fg_Run_12 hP 0 rfl rfl d_Run_many_59 ?_
              refine lv_iload_n hx hb d_Run_many_62 rfl (lv_at hl 1 rfl) ?_
              refine lv_iconst (v := nI 1) hx hb d_Run_many_63 (by decide) ?_
              refine lv_isub hx hb d_Run_many_64 ?_
              refine tope (z := nI ((n - k) - 1)) (pk_sub (by omega)) ?_
              refine cal_I (As := [.int (nI ((n - k) - 1))]) (rest := []) C lk_Run_104 (c_El_isNumber l E e0 eb es (n + 1) f sz ((n - k) - 1) (el S ((n - k) - 1)).length (by omega) (by omega) hY.1 hY.2.1) (by decide) hP hD hS 1 1 rfl rfl [1, 2, 3] rfl (by decide) hl.1 rfl (Nat.le_of_ble_eq_true rfl) d_Run_many_65 (fun r20 w1 H locs hp21 hP hD hS => ?_)
              obtain ⟨rfl, rfl⟩ := hp21
              have hP : va_P E.1 clz [(u0, .inr (3, [.ref e0, .ref s0, .ref h0, .ref c0])), (e0, .inr (1, [.ref eb, .ref es, .int (nI (n + 1))])), (eb, .inl (E.2.1, 1920, .inl f)), (es, .inl (E.2.2.1, 24, .inl sz)), (s0, .inr (5, [.ref m0, .ref d0, .ref h0, .ref x0])), (m0, .inl (E.2.1, 32, .inl mf)), (d0, .inl (E.2.1, 32, .inl df)), (x0, .inl (E.2.1, 112, .inl xf)), (h0, .inr (4, [.ref a1, .ref a2])), (a1, .inl (E.2.2.1, 8, .inl st)), (a2, .inl (E.2.2.1, 64, .inl wv)), (c0, .inr (0, [.int (nI bo), .int (nI bh)]))] H := hP
              have hD : va_D A [(u0, .inr (3, [.ref e0, .ref s0, .ref h0, .ref c0])), (e0, .inr (1, [.ref eb, .ref es, .int (nI (n + 1))])), (eb, .inl (E.2.1, 1920, .inl f)), (es, .inl (E.2.2.1, 24, .inl sz)), (s0, .inr (5, [.ref m0, .ref d0, .ref h0, .ref x0])), (m0, .inl (E.2.1, 32, .inl mf)), (d0, .inl (E.2.1, 32, .inl df)), (x0, .inl (E.2.1, 112, .inl xf)), (h0, .inr (4, [.ref a1, .ref a2])), (a1, .inl (E.2.2.1, 8, .inl st)), (a2, .inl (E.2.2.1, 64, .inl wv)), (c0, .inr (0, [.int (nI bo), .int (nI bh)]))] := hD
              refine tope (z := b2 false) (congrArg b2 (decide_eq_false (by omega))) ?_
              refine zb_eq C false rfl d_Run_many_68 rfl (fun hc22 => ?_) (fun hc22 => absurd hc22 (by simp_all))
              refine lv_iconst (v := nI 0) hx hb d_Run_many_82 (by decide) ?_
              exact kret (nI 0) [(u0, .inr (3, [.ref e0, .ref s0, .ref h0, .ref c0])), (e0, .inr (1, [.ref eb, .ref es, .int (nI (n + 1))])), (eb, .inl (E.2.1, 1920, .inl f)), (es, .inl (E.2.2.1, 24, .inl sz)), (s0, .inr (5, [.ref m0, .ref d0, .ref h0, .ref x0])), (m0, .inl (E.2.1, 32, .inl mf)), (d0, .inl (E.2.1, 32, .inl df)), (x0, .inl (E.2.1, 112, .inl xf)), (h0, .inr (4, [.ref a1, .ref a2])), (a1, .inl (E.2.2.1, 8, .inl st)), (a2, .inl (E.2.2.1, 64, .inl wv)), (c0, .inr (0, [.int (nI bo), .int (nI bh)]))] _ _ _ _ d_Run_many_83 (⟨_, _, _, _, _, _, _, rfl, hB, Or.inr ⟨many_kn hn h4 hk hk8 (Or.inr hy4), rfl⟩⟩) rfl hP hS
            · refine lv_iload_n hx hb d_Run_many_42 rfl (lv_at hl 1 rfl) ?_
              refine lv_iload_n hx hb d_Run_many_43 rfl (lv_at hl 0 rfl) ?_
              refine lv_isub hx hb d_Run_many_44 ?_
              refine tope (z := nI (n - k)) (pk_sub (by omega)) ?_
              refine lv_istore_n (lv' := [(3, .int (nI (n - k))), (2, .int (nI k)), (1, .int (nI n)), (0, .ref u0)]) hx hb d_Run_many_45 rfl hl (by decide) rfl (fun ls hl => ?_)
              refine lv_aload_n hx hb d_Run_many_46 rfl (lv_at hl 3 rfl) ?_
              refine n_get C fg_Run_12 hP 0 rfl rfl d_Run_many_47 ?_
              refine lv_iload_n hx hb d_Run_many_50 rfl (lv_at hl 0 rfl) ?_
              refine lv_iconst (v := nI 1) hx hb d_Run_many_51 (by decide) ?_
              refine lv_isub hx hb d_Run_many_52 ?_
              refine tope (z := nI ((n - k) - 1)) (pk_sub (by omega)) ?_
              refine cal_I (As := [.int (nI ((n - k) - 1))]) (rest := []) C lk_Run_107 (c_El_number l E e0 eb es (n + 1) f sz ((n - k) - 1) (el S ((n - k) - 1)) (by omega) (by omega) hY.1 hY.2.1 hY.2.2 hy4) (by decide) hP hD hS 1 1 rfl rfl [1, 2, 3] rfl (by decide) hl.1 rfl (Nat.le_of_ble_eq_true rfl) d_Run_many_53 (fun r23 w1 H locs hp24 hP hD hS => ?_)
              obtain ⟨rfl, rfl⟩ := hp24
              have hP : va_P E.1 clz [(u0, .inr (3, [.ref e0, .ref s0, .ref h0, .ref c0])), (e0, .inr (1, [.ref eb, .ref es, .int (nI (n + 1))])), (eb, .inl (E.2.1, 1920, .inl f)), (es, .inl (E.2.2.1, 24, .inl sz)), (s0, .inr (5, [.ref m0, .ref d0, .ref h0, .ref x0])), (m0, .inl (E.2.1, 32, .inl mf)), (d0, .inl (E.2.1, 32, .inl df)), (x0, .inl (E.2.1, 112, .inl xf)), (h0, .inr (4, [.ref a1, .ref a2])), (a1, .inl (E.2.2.1, 8, .inl st)), (a2, .inl (E.2.2.1, 64, .inl wv)), (c0, .inr (0, [.int (nI bo), .int (nI bh)]))] H := hP
              have hD : va_D A [(u0, .inr (3, [.ref e0, .ref s0, .ref h0, .ref c0])), (e0, .inr (1, [.ref eb, .ref es, .int (nI (n + 1))])), (eb, .inl (E.2.1, 1920, .inl f)), (es, .inl (E.2.2.1, 24, .inl sz)), (s0, .inr (5, [.ref m0, .ref d0, .ref h0, .ref x0])), (m0, .inl (E.2.1, 32, .inl mf)), (d0, .inl (E.2.1, 32, .inl df)), (x0, .inl (E.2.1, 112, .inl xf)), (h0, .inr (4, [.ref a1, .ref a2])), (a1, .inl (E.2.2.1, 8, .inl st)), (a2, .inl (E.2.2.1, 64, .inl wv)), (c0, .inr (0, [.int (nI bo), .int (nI bh)]))] := hD
              refine lv_istore (lv' := [(4, .int (numL (el S ((n - k) - 1)))), (3, .int (nI (n - k))), (2, .int (nI k)), (1, .int (nI n)), (0, .ref u0)]) hx hb d_Run_many_56 hl (by decide) rfl (fun ls hl => ?_)
              refine lv_aload_n hx hb d_Run_many_58 rfl (lv_at hl 4 rfl) ?_
              refine n_get C fg_Run_12 hP 0 rfl rfl d_Run_many_59 ?_
              refine lv_iload_n hx hb d_Run_many_62 rfl (lv_at hl 1 rfl) ?_
              refine lv_iconst (v := nI 1) hx hb d_Run_many_63 (by decide) ?_
              refine lv_isub hx hb d_Run_many_64 ?_
              refine tope (z := nI ((n - k) - 1)) (pk_sub (by omega)) ?_
              refine cal_I (As := [.int (nI ((n - k) - 1))]) (rest := []) C lk_Run_104 (c_El_isNumber l E e0 eb es (n + 1) f sz ((n - k) - 1) (el S ((n - k) - 1)).length (by omega) (by omega) hY.1 hY.2.1) (by decide) hP hD hS 1 1 rfl rfl [1, 2, 3] rfl (by decide) hl.1 rfl (Nat.le_of_ble_eq_true rfl) d_Run_many_65 (fun r25 w1 H locs hp26 hP hD hS => ?_)
              obtain ⟨rfl, rfl⟩ := hp26
              have hP : va_P E.1 clz [(u0, .inr (3, [.ref e0, .ref s0, .ref h0, .ref c0])), (e0, .inr (1, [.ref eb, .ref es, .int (nI (n + 1))])), (eb, .inl (E.2.1, 1920, .inl f)), (es, .inl (E.2.2.1, 24, .inl sz)), (s0, .inr (5, [.ref m0, .ref d0, .ref h0, .ref x0])), (m0, .inl (E.2.1, 32, .inl mf)), (d0, .inl (E.2.1, 32, .inl df)), (x0, .inl (E.2.1, 112, .inl xf)), (h0, .inr (4, [.ref a1, .ref a2])), (a1, .inl (E.2.2.1, 8, .inl st)), (a2, .inl (E.2.2.1, 64, .inl wv)), (c0, .inr (0, [.int (nI bo), .int (nI bh)]))] H := hP
              have hD : va_D A [(u0, .inr (3, [.ref e0, .ref s0, .ref h0, .ref c0])), (e0, .inr (1, [.ref eb, .ref es, .int (nI (n + 1))])), (eb, .inl (E.2.1, 1920, .inl f)), (es, .inl (E.2.2.1, 24, .inl sz)), (s0, .inr (5, [.ref m0, .ref d0, .ref h0, .ref x0])), (m0, .inl (E.2.1, 32, .inl mf)), (d0, .inl (E.2.1, 32, .inl df)), (x0, .inl (E.2.1, 112, .inl xf)), (h0, .inr (4, [.ref a1, .ref a2])), (a1, .inl (E.2.2.1, 8, .inl st)), (a2, .inl (E.2.2.1, 64, .inl wv)), (c0, .inr (0, [.int (nI bo), .int (nI bh)]))] := hD
              refine tope (z := b2 true) (congrArg b2 (decide_eq_true hy4)) ?_
              refine zb_eq C true rfl d_Run_many_68 rfl (fun hc27 => absurd hc27 (by simp_all)) (fun hc27 => ?_)
              refine lv_iload hx hb d_Run_many_71 (lv_at hl 0 rfl) ?_
              refine lv_if_lt hx hb d_Run_many_73 rfl (fun hc28 => ?_) (fun hc28 => ?_)
              · refine lv_iconst (v := nI 0) hx hb d_Run_many_82 (by decide) ?_
                exact kret (nI 0) [(u0, .inr (3, [.ref e0, .ref s0, .ref h0, .ref c0])), (e0, .inr (1, [.ref eb, .ref es, .int (nI (n + 1))])), (eb, .inl (E.2.1, 1920, .inl f)), (es, .inl (E.2.2.1, 24, .inl sz)), (s0, .inr (5, [.ref m0, .ref d0, .ref h0, .ref x0])), (m0, .inl (E.2.1, 32, .inl mf)), (d0, .inl (E.2.1, 32, .inl df)), (x0, .inl (E.2.1, 112, .inl xf)), (h0, .inr (4, [.ref a1, .ref a2])), (a1, .inl (E.2.2.1, 8, .inl st)), (a2, .inl (E.2.2.1, 64, .inl wv)), (c0, .inr (0, [.int (nI bo), .int (nI bh)]))] _ _ _ _ d_Run_many_83 (⟨_, _, _, _, _, _, _, rfl, hB, Or.inr ⟨many_mbad hn h4 hk hk8 hkn hy4 (Or.inl hc28), rfl⟩⟩) rfl hP hS
              · refine lv_iload hx hb d_Run_many_76 (lv_at hl 0 rfl) ?_
                refine lv_iload_n hx hb d_Run_many_78 rfl (lv_at hl 2 rfl) ?_
                refine lv_icmp_le hx hb d_Run_many_79 rfl (fun hc29 => ?_) (fun hc29 => ?_)
                · obtain ⟨m9, hmk, hm9⟩ := nI_of2 (M := nI k) (n := k) (nI_toInt (by omega)) hc28 hc29
                  have hl : lv_has ls 8 [(4, .int (nI m9)), (3, .int (nI (n - k))), (2, .int (nI k)), (1, .int (nI n)), (0, .ref u0)] := by rw [← hm9]; exact hl
                  rcases Nat.lt_or_ge ((n - k) - 1) m9 with hq | hq
                  · refine lv_iload_n hx hb d_Run_many_84 rfl (lv_at hl 1 rfl) ?_
                    refine lv_iconst (v := nI 1) hx hb d_Run_many_85 (by decide) ?_
                    refine lv_isub hx hb d_Run_many_86 ?_
                    refine tope (z := nI ((n - k) - 1)) (pk_sub (by omega)) ?_
                    refine lv_iload hx hb d_Run_many_87 (lv_at hl 0 rfl) ?_
                    refine lv_isub hx hb d_Run_many_89 ?_
                    refine lv_istore (lv' := [(5, .int ((nI ((n - k) - 1)) - (nI m9))), (4, .int (nI m9)), (3, .int (nI (n - k))), (2, .int (nI k)), (1, .int (nI n)), (0, .ref u0)]) hx hb d_Run_many_90 hl (by decide) rfl (fun ls hl => ?_)
                    refine lv_iload hx hb d_Run_many_92 (lv_at hl 0 rfl) ?_
                    refine lv_if_ge hx hb d_Run_many_94 rfl (fun hc30 => ?_) (fun hc30 => ?_)
                    · exact absurd hc30 (Int32.not_le.mpr (pk_sneg (by omega) (by omega)))
                    · refine lv_iconst (v := nI 0) hx hb d_Run_many_97 (by decide) ?_
                      exact kret (nI 0) [(u0, .inr (3, [.ref e0, .ref s0, .ref h0, .ref c0])), (e0, .inr (1, [.ref eb, .ref es, .int (nI (n + 1))])), (eb, .inl (E.2.1, 1920, .inl f)), (es, .inl (E.2.2.1, 24, .inl sz)), (s0, .inr (5, [.ref m0, .ref d0, .ref h0, .ref x0])), (m0, .inl (E.2.1, 32, .inl mf)), (d0, .inl (E.2.1, 32, .inl df)), (x0, .inl (E.2.1, 112, .inl xf)), (h0, .inr (4, [.ref a1, .ref a2])), (a1, .inl (E.2.2.1, 8, .inl st)), (a2, .inl (E.2.2.1, 64, .inl wv)), (c0, .inr (0, [.int (nI bo), .int (nI bh)]))] _ _ _ _ d_Run_many_98 (⟨_, _, _, _, _, _, _, rfl, hB, Or.inr ⟨many_mq hn h4 hk hk8 hkn hy4 hm9 hmk hq, rfl⟩⟩) rfl hP hS
                  · refine lv_iload_n hx hb d_Run_many_84 rfl (lv_at hl 1 rfl) ?_
                    refine lv_iconst (v := nI 1) hx hb d_Run_many_85 (by decide) ?_
                    refine lv_isub hx hb d_Run_many_86 ?_
                    refine tope (z := nI ((n - k) - 1)) (pk_sub (by omega)) ?_
                    refine lv_iload hx hb d_Run_many_87 (lv_at hl 0 rfl) ?_
                    refine lv_isub hx hb d_Run_many_89 ?_
                    refine tope (z := nI (((n - k) - 1) - m9)) (pk_sub (by omega)) ?_
                    refine lv_istore (lv' := [(5, .int (nI (((n - k) - 1) - m9))), (4, .int (nI m9)), (3, .int (nI (n - k))), (2, .int (nI k)), (1, .int (nI n)), (0, .ref u0)]) hx hb d_Run_many_90 hl (by decide) rfl (fun ls hl => ?_)
                    refine lv_iload hx hb d_Run_many_92 (lv_at hl 0 rfl) ?_
                    refine lv_if_ge hx hb d_Run_many_94 rfl (fun hc31 => ?_) (fun hc31 => ?_)
                    · refine lv_iconst (v := nI 0) hx hb d_Run_many_99 (by decide) ?_
                      refine lv_istore (lv' := [(6, .int (nI 0)), (5, .int (nI (((n - k) - 1) - m9))), (4, .int (nI m9)), (3, .int (nI (n - k))), (2, .int (nI k)), (1, .int (nI n)), (0, .ref u0)]) hx hb d_Run_many_100 hl (by decide) rfl (fun ls hl => ?_)
                      refine lv_iload_n hx hb d_Run_many_102 rfl (lv_at hl 3 rfl) ?_
                      refine lv_istore (lv' := [(7, .int (nI (n - k))), (6, .int (nI 0)), (5, .int (nI (((n - k) - 1) - m9))), (4, .int (nI m9)), (3, .int (nI (n - k))), (2, .int (nI k)), (1, .int (nI n)), (0, .ref u0)]) hx hb d_Run_many_103 hl (by decide) rfl (fun ls hl => ?_)
                      have hloop105 : ∀ (dd : Nat) (i : Nat) (mt : Nat) (d9 : Nat → Int32) (x9 : Nat → Int32) (s9 : Nat → Int32) (v9 : Nat → Int32) (H : Heap) (locs : List Loc) (ls : Array Slot), k - i < dd → (i ≤ k) → (mt = mtK (okM msg S n k m9) m9 i) → va_P E.1 clz [(u0, .inr (3, [.ref e0, .ref s0, .ref h0, .ref c0])), (e0, .inr (1, [.ref eb, .ref es, .int (nI (n + 1))])), (eb, .inl (E.2.1, 1920, .inl f)), (es, .inl (E.2.2.1, 24, .inl sz)), (s0, .inr (5, [.ref m0, .ref d0, .ref h0, .ref x0])), (m0, .inl (E.2.1, 32, .inl mf)), (d0, .inl (E.2.1, 32, .inl d9)), (x0, .inl (E.2.1, 112, .inl x9)), (h0, .inr (4, [.ref a1, .ref a2])), (a1, .inl (E.2.2.1, 8, .inl s9)), (a2, .inl (E.2.2.1, 64, .inl v9)), (c0, .inr (0, [.int (nI bo), .int (nI bh)]))] H → va_D A [(u0, .inr (3, [.ref e0, .ref s0, .ref h0, .ref c0])), (e0, .inr (1, [.ref eb, .ref es, .int (nI (n + 1))])), (eb, .inl (E.2.1, 1920, .inl f)), (es, .inl (E.2.2.1, 24, .inl sz)), (s0, .inr (5, [.ref m0, .ref d0, .ref h0, .ref x0])), (m0, .inl (E.2.1, 32, .inl mf)), (d0, .inl (E.2.1, 32, .inl d9)), (x0, .inl (E.2.1, 112, .inl x9)), (h0, .inr (4, [.ref a1, .ref a2])), (a1, .inl (E.2.2.1, 8, .inl s9)), (a2, .inl (E.2.2.1, 64, .inl v9)), (c0, .inr (0, [.int (nI bo), .int (nI bh)]))] → va_S A s.heap H locs → lv_has ls 8 [(7, .int (nI (n - k + i))), (6, .int (nI mt)), (5, .int (nI (((n - k) - 1) - m9))), (4, .int (nI m9)), (3, .int (nI (n - k))), (2, .int (nI k)), (1, .int (nI n)), (0, .ref u0)] → W p l e (rmd 4) s m args below meth c H locs 0 0 Q (F0 m 105 ls []) := by
                        intro dd
                        induction dd with
                        | zero => intro i mt d9 x9 s9 v9 H locs ls hmz; exact absurd hmz (Nat.not_lt_zero _)
                        | succ dd ih105 =>
                          intro i mt d9 x9 s9 v9 H locs ls hmz hi hmt hP hD hS hl
                          have hmle : mt ≤ m9 := by rw [hmt]; exact mtK_le _ _ _
                          refine lv_iload hx hb d_Run_many_105 (lv_at hl 0 rfl) ?_
                          refine lv_iload_n hx hb d_Run_many_107 rfl (lv_at hl 6 rfl) ?_
                          refine j_ge C (n - k + i) n rfl rfl (by omega) (by omega) d_Run_many_108 rfl (fun hc32 => ?_) (fun hc32 => ?_)
                          · refine lv_aload_n hx hb d_Run_many_185 rfl (lv_at hl 7 rfl) ?_
                            refine n_get C fg_Run_12 hP 0 rfl rfl d_Run_many_186 ?_
                            refine lv_aload_n hx hb d_Run_many_189 rfl (lv_at hl 7 rfl) ?_
                            refine n_get C fg_Run_12 hP 0 rfl rfl d_Run_many_190 ?_
                            refine n_get C fg_Run_79 hP 1 rfl rfl d_Run_many_193 ?_
                            refine lv_iload hx hb d_Run_many_196 (lv_at hl 2 rfl) ?_
                            refine lv_isub hx hb d_Run_many_198 ?_
                            refine tope (z := nI ((n + 1) - (((n - k) - 1) - m9))) (pk_sub (by omega)) ?_
                            refine lv_iload hx hb d_Run_many_199 (lv_at hl 1 rfl) ?_
                            refine lv_iload hx hb d_Run_many_201 (lv_at hl 3 rfl) ?_
                            refine j_ne C mt m9 rfl rfl (by omega) (by omega) d_Run_many_203 rfl (fun hc33 => ?_) (fun hc33 => ?_)
                            · refine lv_iconst (v := nI 0) hx hb d_Run_many_210 (by decide) ?_
                              have hcnt : (n + 1) - (((n - k) - 1) - m9) ≤ n + 1 := by omega
                              refine cal_I (As := [.int (nI ((n + 1) - (((n - k) - 1) - m9))), .int (b2 false)]) (rest := []) C lk_Run_111 (c_El_truth l E e0 eb es (n + 1) f sz ((n + 1) - (((n - k) - 1) - m9)) false (by omega) (by omega) (by omega)) (by decide) hP hD hS 1 1 rfl rfl [1, 2, 3] rfl (by decide) hl.1 rfl (Nat.le_of_ble_eq_true rfl) d_Run_many_211 (fun r34 w1 H locs hp35 hP hD hS => ?_)
                              obtain ⟨rfl, rfl⟩ := hp35
                              have hP : va_P E.1 clz [(u0, .inr (3, [.ref e0, .ref s0, .ref h0, .ref c0])), (e0, .inr (1, [.ref eb, .ref es, .int (nI ((n + 1) - ((n + 1) - (((n - k) - 1) - m9)) + 1))])), (eb, .inl (E.2.1, 1920, .inl (pn4 f (((n + 1) - ((n + 1) - (((n - k) - 1) - m9))) * 80) (b2 false)))), (es, .inl (E.2.2.1, 24, .inl (upd sz ((n + 1) - ((n + 1) - (((n - k) - 1) - m9))) (pnz (b2 false))))), (s0, .inr (5, [.ref m0, .ref d0, .ref h0, .ref x0])), (m0, .inl (E.2.1, 32, .inl mf)), (d0, .inl (E.2.1, 32, .inl d9)), (x0, .inl (E.2.1, 112, .inl x9)), (h0, .inr (4, [.ref a1, .ref a2])), (a1, .inl (E.2.2.1, 8, .inl s9)), (a2, .inl (E.2.2.1, 64, .inl v9)), (c0, .inr (0, [.int (nI bo), .int (nI bh)]))] H := hP
                              have hD : va_D A [(u0, .inr (3, [.ref e0, .ref s0, .ref h0, .ref c0])), (e0, .inr (1, [.ref eb, .ref es, .int (nI ((n + 1) - ((n + 1) - (((n - k) - 1) - m9)) + 1))])), (eb, .inl (E.2.1, 1920, .inl (pn4 f (((n + 1) - ((n + 1) - (((n - k) - 1) - m9))) * 80) (b2 false)))), (es, .inl (E.2.2.1, 24, .inl (upd sz ((n + 1) - ((n + 1) - (((n - k) - 1) - m9))) (pnz (b2 false))))), (s0, .inr (5, [.ref m0, .ref d0, .ref h0, .ref x0])), (m0, .inl (E.2.1, 32, .inl mf)), (d0, .inl (E.2.1, 32, .inl d9)), (x0, .inl (E.2.1, 112, .inl x9)), (h0, .inr (4, [.ref a1, .ref a2])), (a1, .inl (E.2.2.1, 8, .inl s9)), (a2, .inl (E.2.2.1, 64, .inl v9)), (c0, .inr (0, [.int (nI bo), .int (nI bh)]))] := hD
                              exact kret (b2 true) [(u0, .inr (3, [.ref e0, .ref s0, .ref h0, .ref c0])), (e0, .inr (1, [.ref eb, .ref es, .int (nI ((n + 1) - ((n + 1) - (((n - k) - 1) - m9)) + 1))])), (eb, .inl (E.2.1, 1920, .inl (pn4 f (((n + 1) - ((n + 1) - (((n - k) - 1) - m9))) * 80) (b2 false)))), (es, .inl (E.2.2.1, 24, .inl (upd sz ((n + 1) - ((n + 1) - (((n - k) - 1) - m9))) (pnz (b2 false))))), (s0, .inr (5, [.ref m0, .ref d0, .ref h0, .ref x0])), (m0, .inl (E.2.1, 32, .inl mf)), (d0, .inl (E.2.1, 32, .inl d9)), (x0, .inl (E.2.1, 112, .inl x9)), (h0, .inr (4, [.ref a1, .ref a2])), (a1, .inl (E.2.2.1, 8, .inl s9)), (a2, .inl (E.2.2.1, 64, .inl v9)), (c0, .inr (0, [.int (nI bo), .int (nI bh)]))] _ _ _ _ d_Run_many_214 (⟨_, _, _, _, _, _, _, rfl, fB_pn4 hB, Or.inl ⟨(numB (b2 false) :: S.drop (S.length - (((n - k) - 1) - m9))), many_ok hn h4 hk hk8 hkn hy4 hm9 hmk hq (decide_eq_false (by have e9 : mtK (okM msg S n k m9) m9 k = mt := (by rw [hmt, show i = k by omega]); omega)), rfl, by simp only [List.length_cons, List.length_drop]; omega, rep_num (rep_drop _ hrep) (by rw [List.length_drop]; omega), by simp only [List.length_cons, List.length_drop]; omega⟩⟩) rfl hP hS
                            · refine lv_iconst (v := nI 1) hx hb d_Run_many_206 (by decide) ?_
                              refine lv_goto hx hb d_Run_many_207 rfl ?_
                              have hcnt : (n + 1) - (((n - k) - 1) - m9) ≤ n + 1 := by omega
                              refine cal_I (As := [.int (nI ((n + 1) - (((n - k) - 1) - m9))), .int (b2 true)]) (rest := []) C lk_Run_111 (c_El_truth l E e0 eb es (n + 1) f sz ((n + 1) - (((n - k) - 1) - m9)) true (by omega) (by omega) (by omega)) (by decide) hP hD hS 1 1 rfl rfl [1, 2, 3] rfl (by decide) hl.1 rfl (Nat.le_of_ble_eq_true rfl) d_Run_many_211 (fun r36 w1 H locs hp37 hP hD hS => ?_)
                              obtain ⟨rfl, rfl⟩ := hp37
                              have hP : va_P E.1 clz [(u0, .inr (3, [.ref e0, .ref s0, .ref h0, .ref c0])), (e0, .inr (1, [.ref eb, .ref es, .int (nI ((n + 1) - ((n + 1) - (((n - k) - 1) - m9)) + 1))])), (eb, .inl (E.2.1, 1920, .inl (pn4 f (((n + 1) - ((n + 1) - (((n - k) - 1) - m9))) * 80) (b2 true)))), (es, .inl (E.2.2.1, 24, .inl (upd sz ((n + 1) - ((n + 1) - (((n - k) - 1) - m9))) (pnz (b2 true))))), (s0, .inr (5, [.ref m0, .ref d0, .ref h0, .ref x0])), (m0, .inl (E.2.1, 32, .inl mf)), (d0, .inl (E.2.1, 32, .inl d9)), (x0, .inl (E.2.1, 112, .inl x9)), (h0, .inr (4, [.ref a1, .ref a2])), (a1, .inl (E.2.2.1, 8, .inl s9)), (a2, .inl (E.2.2.1, 64, .inl v9)), (c0, .inr (0, [.int (nI bo), .int (nI bh)]))] H := hP
                              have hD : va_D A [(u0, .inr (3, [.ref e0, .ref s0, .ref h0, .ref c0])), (e0, .inr (1, [.ref eb, .ref es, .int (nI ((n + 1) - ((n + 1) - (((n - k) - 1) - m9)) + 1))])), (eb, .inl (E.2.1, 1920, .inl (pn4 f (((n + 1) - ((n + 1) - (((n - k) - 1) - m9))) * 80) (b2 true)))), (es, .inl (E.2.2.1, 24, .inl (upd sz ((n + 1) - ((n + 1) - (((n - k) - 1) - m9))) (pnz (b2 true))))), (s0, .inr (5, [.ref m0, .ref d0, .ref h0, .ref x0])), (m0, .inl (E.2.1, 32, .inl mf)), (d0, .inl (E.2.1, 32, .inl d9)), (x0, .inl (E.2.1, 112, .inl x9)), (h0, .inr (4, [.ref a1, .ref a2])), (a1, .inl (E.2.2.1, 8, .inl s9)), (a2, .inl (E.2.2.1, 64, .inl v9)), (c0, .inr (0, [.int (nI bo), .int (nI bh)]))] := hD
                              exact kret (b2 true) [(u0, .inr (3, [.ref e0, .ref s0, .ref h0, .ref c0])), (e0, .inr (1, [.ref eb, .ref es, .int (nI ((n + 1) - ((n + 1) - (((n - k) - 1) - m9)) + 1))])), (eb, .inl (E.2.1, 1920, .inl (pn4 f (((n + 1) - ((n + 1) - (((n - k) - 1) - m9))) * 80) (b2 true)))), (es, .inl (E.2.2.1, 24, .inl (upd sz ((n + 1) - ((n + 1) - (((n - k) - 1) - m9))) (pnz (b2 true))))), (s0, .inr (5, [.ref m0, .ref d0, .ref h0, .ref x0])), (m0, .inl (E.2.1, 32, .inl mf)), (d0, .inl (E.2.1, 32, .inl d9)), (x0, .inl (E.2.1, 112, .inl x9)), (h0, .inr (4, [.ref a1, .ref a2])), (a1, .inl (E.2.2.1, 8, .inl s9)), (a2, .inl (E.2.2.1, 64, .inl v9)), (c0, .inr (0, [.int (nI bo), .int (nI bh)]))] _ _ _ _ d_Run_many_214 (⟨_, _, _, _, _, _, _, rfl, fB_pn4 hB, Or.inl ⟨(numB (b2 true) :: S.drop (S.length - (((n - k) - 1) - m9))), many_ok hn h4 hk hk8 hkn hy4 hm9 hmk hq (decide_eq_true (by have e9 : mtK (okM msg S n k m9) m9 k = mt := (by rw [hmt, show i = k by omega]); omega)), rfl, by simp only [List.length_cons, List.length_drop]; omega, rep_num (rep_drop _ hrep) (by rw [List.length_drop]; omega), by simp only [List.length_cons, List.length_drop]; omega⟩⟩) rfl hP hS
                          · refine lv_iload hx hb d_Run_many_111 (lv_at hl 1 rfl) ?_
                            refine lv_iload hx hb d_Run_many_113 (lv_at hl 3 rfl) ?_
                            refine j_ge C mt m9 rfl rfl (by omega) (by omega) d_Run_many_115 rfl (fun hc38 => ?_) (fun hc38 => ?_)
                            · refine lv_aload_n hx hb d_Run_many_185 rfl (lv_at hl 7 rfl) ?_
                              refine n_get C fg_Run_12 hP 0 rfl rfl d_Run_many_186 ?_
                              refine lv_aload_n hx hb d_Run_many_189 rfl (lv_at hl 7 rfl) ?_
                              refine n_get C fg_Run_12 hP 0 rfl rfl d_Run_many_190 ?_
                              refine n_get C fg_Run_79 hP 1 rfl rfl d_Run_many_193 ?_
                              refine lv_iload hx hb d_Run_many_196 (lv_at hl 2 rfl) ?_
                              refine lv_isub hx hb d_Run_many_198 ?_
                              refine tope (z := nI ((n + 1) - (((n - k) - 1) - m9))) (pk_sub (by omega)) ?_
                              refine lv_iload hx hb d_Run_many_199 (lv_at hl 1 rfl) ?_
                              refine lv_iload hx hb d_Run_many_201 (lv_at hl 3 rfl) ?_
                              refine j_ne C mt m9 rfl rfl (by omega) (by omega) d_Run_many_203 rfl (fun hc39 => ?_) (fun hc39 => ?_)
                              · refine lv_iconst (v := nI 0) hx hb d_Run_many_210 (by decide) ?_
                                have hcnt : (n + 1) - (((n - k) - 1) - m9) ≤ n + 1 := by omega
                                refine cal_I (As := [.int (nI ((n + 1) - (((n - k) - 1) - m9))), .int (b2 false)]) (rest := []) C lk_Run_111 (c_El_truth l E e0 eb es (n + 1) f sz ((n + 1) - (((n - k) - 1) - m9)) false (by omega) (by omega) (by omega)) (by decide) hP hD hS 1 1 rfl rfl [1, 2, 3] rfl (by decide) hl.1 rfl (Nat.le_of_ble_eq_true rfl) d_Run_many_211 (fun r40 w1 H locs hp41 hP hD hS => ?_)
                                obtain ⟨rfl, rfl⟩ := hp41
                                have hP : va_P E.1 clz [(u0, .inr (3, [.ref e0, .ref s0, .ref h0, .ref c0])), (e0, .inr (1, [.ref eb, .ref es, .int (nI ((n + 1) - ((n + 1) - (((n - k) - 1) - m9)) + 1))])), (eb, .inl (E.2.1, 1920, .inl (pn4 f (((n + 1) - ((n + 1) - (((n - k) - 1) - m9))) * 80) (b2 false)))), (es, .inl (E.2.2.1, 24, .inl (upd sz ((n + 1) - ((n + 1) - (((n - k) - 1) - m9))) (pnz (b2 false))))), (s0, .inr (5, [.ref m0, .ref d0, .ref h0, .ref x0])), (m0, .inl (E.2.1, 32, .inl mf)), (d0, .inl (E.2.1, 32, .inl d9)), (x0, .inl (E.2.1, 112, .inl x9)), (h0, .inr (4, [.ref a1, .ref a2])), (a1, .inl (E.2.2.1, 8, .inl s9)), (a2, .inl (E.2.2.1, 64, .inl v9)), (c0, .inr (0, [.int (nI bo), .int (nI bh)]))] H := hP
                                have hD : va_D A [(u0, .inr (3, [.ref e0, .ref s0, .ref h0, .ref c0])), (e0, .inr (1, [.ref eb, .ref es, .int (nI ((n + 1) - ((n + 1) - (((n - k) - 1) - m9)) + 1))])), (eb, .inl (E.2.1, 1920, .inl (pn4 f (((n + 1) - ((n + 1) - (((n - k) - 1) - m9))) * 80) (b2 false)))), (es, .inl (E.2.2.1, 24, .inl (upd sz ((n + 1) - ((n + 1) - (((n - k) - 1) - m9))) (pnz (b2 false))))), (s0, .inr (5, [.ref m0, .ref d0, .ref h0, .ref x0])), (m0, .inl (E.2.1, 32, .inl mf)), (d0, .inl (E.2.1, 32, .inl d9)), (x0, .inl (E.2.1, 112, .inl x9)), (h0, .inr (4, [.ref a1, .ref a2])), (a1, .inl (E.2.2.1, 8, .inl s9)), (a2, .inl (E.2.2.1, 64, .inl v9)), (c0, .inr (0, [.int (nI bo), .int (nI bh)]))] := hD
                                exact kret (b2 true) [(u0, .inr (3, [.ref e0, .ref s0, .ref h0, .ref c0])), (e0, .inr (1, [.ref eb, .ref es, .int (nI ((n + 1) - ((n + 1) - (((n - k) - 1) - m9)) + 1))])), (eb, .inl (E.2.1, 1920, .inl (pn4 f (((n + 1) - ((n + 1) - (((n - k) - 1) - m9))) * 80) (b2 false)))), (es, .inl (E.2.2.1, 24, .inl (upd sz ((n + 1) - ((n + 1) - (((n - k) - 1) - m9))) (pnz (b2 false))))), (s0, .inr (5, [.ref m0, .ref d0, .ref h0, .ref x0])), (m0, .inl (E.2.1, 32, .inl mf)), (d0, .inl (E.2.1, 32, .inl d9)), (x0, .inl (E.2.1, 112, .inl x9)), (h0, .inr (4, [.ref a1, .ref a2])), (a1, .inl (E.2.2.1, 8, .inl s9)), (a2, .inl (E.2.2.1, 64, .inl v9)), (c0, .inr (0, [.int (nI bo), .int (nI bh)]))] _ _ _ _ d_Run_many_214 (⟨_, _, _, _, _, _, _, rfl, fB_pn4 hB, Or.inl ⟨(numB (b2 false) :: S.drop (S.length - (((n - k) - 1) - m9))), many_ok hn h4 hk hk8 hkn hy4 hm9 hmk hq (by exfalso; have := mtK_le (okM msg S n k m9) m9 i; omega), rfl, by simp only [List.length_cons, List.length_drop]; omega, rep_num (rep_drop _ hrep) (by rw [List.length_drop]; omega), by simp only [List.length_cons, List.length_drop]; omega⟩⟩) rfl hP hS
                              · refine lv_iconst (v := nI 1) hx hb d_Run_many_206 (by decide) ?_
                                refine lv_goto hx hb d_Run_many_207 rfl ?_
                                have hcnt : (n + 1) - (((n - k) - 1) - m9) ≤ n + 1 := by omega
                                refine cal_I (As := [.int (nI ((n + 1) - (((n - k) - 1) - m9))), .int (b2 true)]) (rest := []) C lk_Run_111 (c_El_truth l E e0 eb es (n + 1) f sz ((n + 1) - (((n - k) - 1) - m9)) true (by omega) (by omega) (by omega)) (by decide) hP hD hS 1 1 rfl rfl [1, 2, 3] rfl (by decide) hl.1 rfl (Nat.le_of_ble_eq_true rfl) d_Run_many_211 (fun r42 w1 H locs hp43 hP hD hS => ?_)
                                obtain ⟨rfl, rfl⟩ := hp43
                                have hP : va_P E.1 clz [(u0, .inr (3, [.ref e0, .ref s0, .ref h0, .ref c0])), (e0, .inr (1, [.ref eb, .ref es, .int (nI ((n + 1) - ((n + 1) - (((n - k) - 1) - m9)) + 1))])), (eb, .inl (E.2.1, 1920, .inl (pn4 f (((n + 1) - ((n + 1) - (((n - k) - 1) - m9))) * 80) (b2 true)))), (es, .inl (E.2.2.1, 24, .inl (upd sz ((n + 1) - ((n + 1) - (((n - k) - 1) - m9))) (pnz (b2 true))))), (s0, .inr (5, [.ref m0, .ref d0, .ref h0, .ref x0])), (m0, .inl (E.2.1, 32, .inl mf)), (d0, .inl (E.2.1, 32, .inl d9)), (x0, .inl (E.2.1, 112, .inl x9)), (h0, .inr (4, [.ref a1, .ref a2])), (a1, .inl (E.2.2.1, 8, .inl s9)), (a2, .inl (E.2.2.1, 64, .inl v9)), (c0, .inr (0, [.int (nI bo), .int (nI bh)]))] H := hP
                                have hD : va_D A [(u0, .inr (3, [.ref e0, .ref s0, .ref h0, .ref c0])), (e0, .inr (1, [.ref eb, .ref es, .int (nI ((n + 1) - ((n + 1) - (((n - k) - 1) - m9)) + 1))])), (eb, .inl (E.2.1, 1920, .inl (pn4 f (((n + 1) - ((n + 1) - (((n - k) - 1) - m9))) * 80) (b2 true)))), (es, .inl (E.2.2.1, 24, .inl (upd sz ((n + 1) - ((n + 1) - (((n - k) - 1) - m9))) (pnz (b2 true))))), (s0, .inr (5, [.ref m0, .ref d0, .ref h0, .ref x0])), (m0, .inl (E.2.1, 32, .inl mf)), (d0, .inl (E.2.1, 32, .inl d9)), (x0, .inl (E.2.1, 112, .inl x9)), (h0, .inr (4, [.ref a1, .ref a2])), (a1, .inl (E.2.2.1, 8, .inl s9)), (a2, .inl (E.2.2.1, 64, .inl v9)), (c0, .inr (0, [.int (nI bo), .int (nI bh)]))] := hD
                                exact kret (b2 true) [(u0, .inr (3, [.ref e0, .ref s0, .ref h0, .ref c0])), (e0, .inr (1, [.ref eb, .ref es, .int (nI ((n + 1) - ((n + 1) - (((n - k) - 1) - m9)) + 1))])), (eb, .inl (E.2.1, 1920, .inl (pn4 f (((n + 1) - ((n + 1) - (((n - k) - 1) - m9))) * 80) (b2 true)))), (es, .inl (E.2.2.1, 24, .inl (upd sz ((n + 1) - ((n + 1) - (((n - k) - 1) - m9))) (pnz (b2 true))))), (s0, .inr (5, [.ref m0, .ref d0, .ref h0, .ref x0])), (m0, .inl (E.2.1, 32, .inl mf)), (d0, .inl (E.2.1, 32, .inl d9)), (x0, .inl (E.2.1, 112, .inl x9)), (h0, .inr (4, [.ref a1, .ref a2])), (a1, .inl (E.2.2.1, 8, .inl s9)), (a2, .inl (E.2.2.1, 64, .inl v9)), (c0, .inr (0, [.int (nI bo), .int (nI bh)]))] _ _ _ _ d_Run_many_214 (⟨_, _, _, _, _, _, _, rfl, fB_pn4 hB, Or.inl ⟨(numB (b2 true) :: S.drop (S.length - (((n - k) - 1) - m9))), many_ok hn h4 hk hk8 hkn hy4 hm9 hmk hq (decide_eq_true (mtK_all (i := i) (by have := mtK_le (okM msg S n k m9) m9 i; omega) hi)), rfl, by simp only [List.length_cons, List.length_drop]; omega, rep_num (rep_drop _ hrep) (by rw [List.length_drop]; omega), by simp only [List.length_cons, List.length_drop]; omega⟩⟩) rfl hP hS
                            · have hK9 := hrep (n - k + i) (by omega)
                              have hG9 := hrep ((((n - k) - 1) - m9) + mt) (by omega)
                              refine lv_aload_n hx hb d_Run_many_118 rfl (lv_at hl 7 rfl) ?_
                              refine n_get C fg_Run_21 hP 0 rfl rfl d_Run_many_119 ?_
                              refine lv_aload_n hx hb d_Run_many_122 rfl (lv_at hl 7 rfl) ?_
                              refine n_get C fg_Run_12 hP 0 rfl rfl d_Run_many_123 ?_
                              refine n_get C fg_Run_134 hP 1 rfl rfl d_Run_many_126 ?_
                              refine lv_aload_n hx hb d_Run_many_129 rfl (lv_at hl 7 rfl) ?_
                              refine n_get C fg_Run_12 hP 0 rfl rfl d_Run_many_130 ?_
                              refine lv_iload hx hb d_Run_many_133 (lv_at hl 0 rfl) ?_
                              refine cal_I (As := [.int (nI (n - k + i))]) (rest := [.ref eb, .ref s0]) C lk_Run_135 (c_El_place l E e0 (n - k + i)) (by decide) hP hD hS 1 1 rfl rfl [] rfl (by decide) hl.1 rfl (Nat.le_of_ble_eq_true rfl) d_Run_many_135 (fun r44 w1 H locs hp45 hP hD hS => ?_)
                              obtain ⟨rfl, rfl⟩ := hp45
                              have hP : va_P E.1 clz [(u0, .inr (3, [.ref e0, .ref s0, .ref h0, .ref c0])), (e0, .inr (1, [.ref eb, .ref es, .int (nI (n + 1))])), (eb, .inl (E.2.1, 1920, .inl f)), (es, .inl (E.2.2.1, 24, .inl sz)), (s0, .inr (5, [.ref m0, .ref d0, .ref h0, .ref x0])), (m0, .inl (E.2.1, 32, .inl mf)), (d0, .inl (E.2.1, 32, .inl d9)), (x0, .inl (E.2.1, 112, .inl x9)), (h0, .inr (4, [.ref a1, .ref a2])), (a1, .inl (E.2.2.1, 8, .inl s9)), (a2, .inl (E.2.2.1, 64, .inl v9)), (c0, .inr (0, [.int (nI bo), .int (nI bh)]))] H := hP
                              have hD : va_D A [(u0, .inr (3, [.ref e0, .ref s0, .ref h0, .ref c0])), (e0, .inr (1, [.ref eb, .ref es, .int (nI (n + 1))])), (eb, .inl (E.2.1, 1920, .inl f)), (es, .inl (E.2.2.1, 24, .inl sz)), (s0, .inr (5, [.ref m0, .ref d0, .ref h0, .ref x0])), (m0, .inl (E.2.1, 32, .inl mf)), (d0, .inl (E.2.1, 32, .inl d9)), (x0, .inl (E.2.1, 112, .inl x9)), (h0, .inr (4, [.ref a1, .ref a2])), (a1, .inl (E.2.2.1, 8, .inl s9)), (a2, .inl (E.2.2.1, 64, .inl v9)), (c0, .inr (0, [.int (nI bo), .int (nI bh)]))] := hD
                              refine lv_aload_n hx hb d_Run_many_138 rfl (lv_at hl 7 rfl) ?_
                              refine n_get C fg_Run_12 hP 0 rfl rfl d_Run_many_139 ?_
                              refine n_get C fg_Run_97 hP 1 rfl rfl d_Run_many_142 ?_
                              refine lv_iload hx hb d_Run_many_145 (lv_at hl 0 rfl) ?_
                              refine n_iald C hP 3 rfl (n - k + i) rfl (by omega) (by omega) d_Run_many_147 ?_
                              refine tope (z := nI ((el S (n - k + i)).length)) (hK9.1) ?_
                              refine cal_V (As := [.ref eb, .int (nI ((n - k + i) * 80)), .int (nI ((el S (n - k + i)).length))]) (rest := []) C lk_Run_151 (c_Sig_make l E s0 m0 d0 x0 h0 a1 a2 eb 1920 ((n - k + i) * 80) ((el S (n - k + i)).length) mf d9 x9 s9 v9 f (by omega) (by omega) (by omega) (hB) hBm) (by decide) hP hD hS 4 5 rfl rfl [4, 5, 6, 7, 8, 9, 10, 2] rfl (by decide) hl.1 rfl (Nat.le_of_ble_eq_true rfl) d_Run_many_148 (fun w1 H locs hp49 hP hD hS => ?_)
                              obtain ⟨sv46, wy47, rfl⟩ := hp49
                              have hP : va_P E.1 clz [(u0, .inr (3, [.ref e0, .ref s0, .ref h0, .ref c0])), (e0, .inr (1, [.ref eb, .ref es, .int (nI (n + 1))])), (eb, .inl (E.2.1, 1920, .inl f)), (es, .inl (E.2.2.1, 24, .inl sz)), (s0, .inr (5, [.ref m0, .ref d0, .ref h0, .ref x0])), (m0, .inl (E.2.1, 32, .inl mf)), (d0, .inl (E.2.1, 32, .inl (va_cpy (hashF (fun q => (va_cpy mf (va_cpy f x9 ((n - k + i) * 80) 0 ((el S (n - k + i)).length)) 0 ((el S (n - k + i)).length) 32) (0 + q)) (((el S (n - k + i)).length) + 32)) d9 0 0 32))), (x0, .inl (E.2.1, 112, .inl (va_cpy mf (va_cpy f x9 ((n - k + i) * 80) 0 ((el S (n - k + i)).length)) 0 ((el S (n - k + i)).length) 32))), (h0, .inr (4, [.ref a1, .ref a2])), (a1, .inl (E.2.2.1, 8, .inl sv46)), (a2, .inl (E.2.2.1, 64, .inl wy47)), (c0, .inr (0, [.int (nI bo), .int (nI bh)]))] H := hP
                              have hD : va_D A [(u0, .inr (3, [.ref e0, .ref s0, .ref h0, .ref c0])), (e0, .inr (1, [.ref eb, .ref es, .int (nI (n + 1))])), (eb, .inl (E.2.1, 1920, .inl f)), (es, .inl (E.2.2.1, 24, .inl sz)), (s0, .inr (5, [.ref m0, .ref d0, .ref h0, .ref x0])), (m0, .inl (E.2.1, 32, .inl mf)), (d0, .inl (E.2.1, 32, .inl (va_cpy (hashF (fun q => (va_cpy mf (va_cpy f x9 ((n - k + i) * 80) 0 ((el S (n - k + i)).length)) 0 ((el S (n - k + i)).length) 32) (0 + q)) (((el S (n - k + i)).length) + 32)) d9 0 0 32))), (x0, .inl (E.2.1, 112, .inl (va_cpy mf (va_cpy f x9 ((n - k + i) * 80) 0 ((el S (n - k + i)).length)) 0 ((el S (n - k + i)).length) 32))), (h0, .inr (4, [.ref a1, .ref a2])), (a1, .inl (E.2.2.1, 8, .inl sv46)), (a2, .inl (E.2.2.1, 64, .inl wy47)), (c0, .inr (0, [.int (nI bo), .int (nI bh)]))] := hD
                              refine lv_aload_n hx hb d_Run_many_151 rfl (lv_at hl 7 rfl) ?_
                              refine n_get C fg_Run_12 hP 0 rfl rfl d_Run_many_152 ?_
                              refine lv_iload hx hb d_Run_many_155 (lv_at hl 2 rfl) ?_
                              refine lv_iload hx hb d_Run_many_157 (lv_at hl 1 rfl) ?_
                              refine lv_iadd hx hb d_Run_many_159 ?_
                              refine tope (z := nI ((((n - k) - 1) - m9) + mt)) (nI_add _ _) ?_
                              refine lv_aload_n hx hb d_Run_many_160 rfl (lv_at hl 7 rfl) ?_
                              refine n_get C fg_Run_21 hP 0 rfl rfl d_Run_many_161 ?_
                              refine n_get C fg_Run_155 hP 4 rfl rfl d_Run_many_164 ?_
                              refine lv_iconst (v := nI 0) hx hb d_Run_many_167 (by decide) ?_
                              refine lv_bipush (v := nI 8) hx hb d_Run_many_168 (by decide) ?_
                              refine tope (z := nI ((sigL msg (el S (n - k + i))).length)) (congrArg nI (sigL_len msg _).symm) ?_
                              refine cal_I (As := [.int (nI ((((n - k) - 1) - m9) + mt)), .ref d0, .int (nI 0), .int (nI ((sigL msg (el S (n - k + i))).length))]) (rest := []) C lk_Run_138 (c_El_holds l E e0 eb es (n + 1) f sz ((((n - k) - 1) - m9) + mt) (el S ((((n - k) - 1) - m9) + mt)) (by omega) (by omega) hG9.1 hG9.2.1 hG9.2.2 (sigL msg (el S (n - k + i))) 0 d0 32 (va_cpy (hashF (fun q => (va_cpy mf (va_cpy f x9 ((n - k + i) * 80) 0 ((el S (n - k + i)).length)) 0 ((el S (n - k + i)).length) 32) (0 + q)) (((el S (n - k + i)).length) + 32)) d9 0 0 32) (sig_lay hK9.2.2 rfl hm hm32) (by rw [sigL_len]; omega) (by omega)) (by decide) hP hD hS 1 1 rfl rfl [1, 2, 3, 6] rfl (by decide) hl.1 rfl (Nat.le_of_ble_eq_true rfl) d_Run_many_170 (fun r50 w1 H locs hp51 hP hD hS => ?_)
                              obtain ⟨rfl, rfl⟩ := hp51
                              have hP : va_P E.1 clz [(u0, .inr (3, [.ref e0, .ref s0, .ref h0, .ref c0])), (e0, .inr (1, [.ref eb, .ref es, .int (nI (n + 1))])), (eb, .inl (E.2.1, 1920, .inl f)), (es, .inl (E.2.2.1, 24, .inl sz)), (s0, .inr (5, [.ref m0, .ref d0, .ref h0, .ref x0])), (m0, .inl (E.2.1, 32, .inl mf)), (d0, .inl (E.2.1, 32, .inl (va_cpy (hashF (fun q => (va_cpy mf (va_cpy f x9 ((n - k + i) * 80) 0 ((el S (n - k + i)).length)) 0 ((el S (n - k + i)).length) 32) (0 + q)) (((el S (n - k + i)).length) + 32)) d9 0 0 32))), (x0, .inl (E.2.1, 112, .inl (va_cpy mf (va_cpy f x9 ((n - k + i) * 80) 0 ((el S (n - k + i)).length)) 0 ((el S (n - k + i)).length) 32))), (h0, .inr (4, [.ref a1, .ref a2])), (a1, .inl (E.2.2.1, 8, .inl sv46)), (a2, .inl (E.2.2.1, 64, .inl wy47)), (c0, .inr (0, [.int (nI bo), .int (nI bh)]))] H := hP
                              have hD : va_D A [(u0, .inr (3, [.ref e0, .ref s0, .ref h0, .ref c0])), (e0, .inr (1, [.ref eb, .ref es, .int (nI (n + 1))])), (eb, .inl (E.2.1, 1920, .inl f)), (es, .inl (E.2.2.1, 24, .inl sz)), (s0, .inr (5, [.ref m0, .ref d0, .ref h0, .ref x0])), (m0, .inl (E.2.1, 32, .inl mf)), (d0, .inl (E.2.1, 32, .inl (va_cpy (hashF (fun q => (va_cpy mf (va_cpy f x9 ((n - k + i) * 80) 0 ((el S (n - k + i)).length)) 0 ((el S (n - k + i)).length) 32) (0 + q)) (((el S (n - k + i)).length) + 32)) d9 0 0 32))), (x0, .inl (E.2.1, 112, .inl (va_cpy mf (va_cpy f x9 ((n - k + i) * 80) 0 ((el S (n - k + i)).length)) 0 ((el S (n - k + i)).length) 32))), (h0, .inr (4, [.ref a1, .ref a2])), (a1, .inl (E.2.2.1, 8, .inl sv46)), (a2, .inl (E.2.2.1, 64, .inl wy47)), (c0, .inr (0, [.int (nI bo), .int (nI bh)]))] := hD
                              refine zb_eq C (decide ((el S ((((n - k) - 1) - m9) + mt)) = sigL msg (el S (n - k + i)))) rfl d_Run_many_173 rfl (fun hc52 => ?_) (fun hc52 => ?_)
                              · refine lv_iinc (k := 0) (v := nI (n - k + i + 1)) (lv' := [(7, .int (nI (n - k + i + 1))), (6, .int (nI mt)), (5, .int (nI (((n - k) - 1) - m9))), (4, .int (nI m9)), (3, .int (nI (n - k))), (2, .int (nI k)), (1, .int (nI n)), (0, .ref u0)]) hx hb d_Run_many_179 hl rfl (iincK (n - k + i) 1) (by decide) rfl (fun ls hl => ?_)
                                refine lv_goto hx hb d_Run_many_182 rfl ?_
                                exact ih105 (i + 1) mt (va_cpy (hashF (fun q => (va_cpy mf (va_cpy f x9 ((n - k + i) * 80) 0 ((el S (n - k + i)).length)) 0 ((el S (n - k + i)).length) 32) (0 + q)) (((el S (n - k + i)).length) + 32)) d9 0 0 32) (va_cpy mf (va_cpy f x9 ((n - k + i) * 80) 0 ((el S (n - k + i)).length)) 0 ((el S (n - k + i)).length) 32) sv46 wy47 H locs ls (by omega) (by omega) (by rw [show mtK (okM msg S n k m9) m9 (i + 1) = (if mtK (okM msg S n k m9) m9 i < m9 ∧ (okM msg S n k m9) (mtK (okM msg S n k m9) m9 i) i = true then mtK (okM msg S n k m9) m9 i + 1 else mtK (okM msg S n k m9) m9 i) from rfl, ← hmt, if_neg (fun q => absurd (q.2.symm.trans hc52) (by decide))]) hP hD hS (lv_sub hl [0, 1, 2, 3, 4, 5, 6, 7] rfl)
                              · refine lv_iinc (k := 1) (v := nI (mt + 1)) (lv' := [(6, .int (nI (mt + 1))), (7, .int (nI (n - k + i))), (5, .int (nI (((n - k) - 1) - m9))), (4, .int (nI m9)), (3, .int (nI (n - k))), (2, .int (nI k)), (1, .int (nI n)), (0, .ref u0)]) hx hb d_Run_many_176 hl rfl (iincK mt 1) (by decide) rfl (fun ls hl => ?_)
                                refine lv_iinc (k := 1) (v := nI (n - k + i + 1)) (lv' := [(7, .int (nI (n - k + i + 1))), (6, .int (nI (mt + 1))), (5, .int (nI (((n - k) - 1) - m9))), (4, .int (nI m9)), (3, .int (nI (n - k))), (2, .int (nI k)), (1, .int (nI n)), (0, .ref u0)]) hx hb d_Run_many_179 hl rfl (iincK (n - k + i) 1) (by decide) rfl (fun ls hl => ?_)
                                refine lv_goto hx hb d_Run_many_182 rfl ?_
                                exact ih105 (i + 1) (mt + 1) (va_cpy (hashF (fun q => (va_cpy mf (va_cpy f x9 ((n - k + i) * 80) 0 ((el S (n - k + i)).length)) 0 ((el S (n - k + i)).length) 32) (0 + q)) (((el S (n - k + i)).length) + 32)) d9 0 0 32) (va_cpy mf (va_cpy f x9 ((n - k + i) * 80) 0 ((el S (n - k + i)).length)) 0 ((el S (n - k + i)).length) 32) sv46 wy47 H locs ls (by omega) (by omega) (by rw [show mtK (okM msg S n k m9) m9 (i + 1) = (if mtK (okM msg S n k m9) m9 i < m9 ∧ (okM msg S n k m9) (mtK (okM msg S n k m9) m9 i) i = true then mtK (okM msg S n k m9) m9 i + 1 else mtK (okM msg S n k m9) m9 i) from rfl, ← hmt, if_pos ⟨by omega, hc52⟩]) hP hD hS (lv_sub hl [0, 1, 2, 3, 4, 5, 6, 7] rfl)
                      exact hloop105 (k + 1) 0 0 df xf st wv H locs ls (by omega) (by omega) (rfl) hP hD hS (lv_sub hl [0, 1, 2, 3, 4, 5, 6, 7] rfl)
                    · exact absurd (nI_pos' (by omega)) hc31
                · refine lv_iconst (v := nI 0) hx hb d_Run_many_82 (by decide) ?_
                  exact kret (nI 0) [(u0, .inr (3, [.ref e0, .ref s0, .ref h0, .ref c0])), (e0, .inr (1, [.ref eb, .ref es, .int (nI (n + 1))])), (eb, .inl (E.2.1, 1920, .inl f)), (es, .inl (E.2.2.1, 24, .inl sz)), (s0, .inr (5, [.ref m0, .ref d0, .ref h0, .ref x0])), (m0, .inl (E.2.1, 32, .inl mf)), (d0, .inl (E.2.1, 32, .inl df)), (x0, .inl (E.2.1, 112, .inl xf)), (h0, .inr (4, [.ref a1, .ref a2])), (a1, .inl (E.2.2.1, 8, .inl st)), (a2, .inl (E.2.2.1, 64, .inl wv)), (c0, .inr (0, [.int (nI bo), .int (nI bh)]))] _ _ _ _ d_Run_many_83 (⟨_, _, _, _, _, _, _, rfl, hB, Or.inr ⟨many_mbad hn h4 hk hk8 hkn hy4 (Or.inr (Int32.not_le.mp hc29)), rfl⟩⟩) rfl hP hS
          · refine lv_iload_n hx hb d_Run_many_42 rfl (lv_at hl 1 rfl) ?_
            refine lv_iload_n hx hb d_Run_many_43 rfl (lv_at hl 0 rfl) ?_
            refine lv_isub hx hb d_Run_many_44 ?_
            refine lv_istore_n (lv' := [(3, .int ((nI n) - (nI k))), (2, .int (nI k)), (1, .int (nI n)), (0, .ref u0)]) hx hb d_Run_many_45 rfl hl (by decide) rfl (fun ls hl => ?_)
            refine lv_aload_n hx hb d_Run_many_46 rfl (lv_at hl 3 rfl) ?_
            refine n_get C fg_Run_12 hP 0 rfl rfl d_Run_many_47 ?_
            refine lv_iload_n hx hb d_Run_many_50 rfl (lv_at hl 0 rfl) ?_
            refine lv_iconst (v := nI 1) hx hb d_Run_many_51 (by decide) ?_
            refine lv_isub hx hb d_Run_many_52 ?_
            refine cal_I (As := [.int (((nI n) - (nI k)) - (nI 1))]) (rest := []) C lk_Run_107 (c_El_number_no l E e0 eb es (n + 1) f sz (((nI n) - (nI k)) - (nI 1)) (hasB_neg (by omega) (by omega))) (by decide) hP hD hS 1 1 rfl rfl [1, 2, 3] rfl (by decide) hl.1 rfl (Nat.le_of_ble_eq_true rfl) d_Run_many_53 (fun r53 w1 H locs hp54 hP hD hS => ?_)
            obtain ⟨rfl, rfl⟩ := hp54
            have hP : va_P E.1 clz [(u0, .inr (3, [.ref e0, .ref s0, .ref h0, .ref c0])), (e0, .inr (1, [.ref eb, .ref es, .int (nI (n + 1))])), (eb, .inl (E.2.1, 1920, .inl f)), (es, .inl (E.2.2.1, 24, .inl sz)), (s0, .inr (5, [.ref m0, .ref d0, .ref h0, .ref x0])), (m0, .inl (E.2.1, 32, .inl mf)), (d0, .inl (E.2.1, 32, .inl df)), (x0, .inl (E.2.1, 112, .inl xf)), (h0, .inr (4, [.ref a1, .ref a2])), (a1, .inl (E.2.2.1, 8, .inl st)), (a2, .inl (E.2.2.1, 64, .inl wv)), (c0, .inr (0, [.int (nI bo), .int (nI bh)]))] H := hP
            have hD : va_D A [(u0, .inr (3, [.ref e0, .ref s0, .ref h0, .ref c0])), (e0, .inr (1, [.ref eb, .ref es, .int (nI (n + 1))])), (eb, .inl (E.2.1, 1920, .inl f)), (es, .inl (E.2.2.1, 24, .inl sz)), (s0, .inr (5, [.ref m0, .ref d0, .ref h0, .ref x0])), (m0, .inl (E.2.1, 32, .inl mf)), (d0, .inl (E.2.1, 32, .inl df)), (x0, .inl (E.2.1, 112, .inl xf)), (h0, .inr (4, [.ref a1, .ref a2])), (a1, .inl (E.2.2.1, 8, .inl st)), (a2, .inl (E.2.2.1, 64, .inl wv)), (c0, .inr (0, [.int (nI bo), .int (nI bh)]))] := hD
            refine lv_istore (lv' := [(4, .int (nI 0)), (3, .int ((nI n) - (nI k))), (2, .int (nI k)), (1, .int (nI n)), (0, .ref u0)]) hx hb d_Run_many_56 hl (by decide) rfl (fun ls hl => ?_)
            refine lv_aload_n hx hb d_Run_many_58 rfl (lv_at hl 4 rfl) ?_
            refine n_get C fg_Run_12 hP 0 rfl rfl d_Run_many_59 ?_
            refine lv_iload_n hx hb d_Run_many_62 rfl (lv_at hl 1 rfl) ?_
            refine lv_iconst (v := nI 1) hx hb d_Run_many_63 (by decide) ?_
            refine lv_isub hx hb d_Run_many_64 ?_
            refine cal_I (As := [.int (((nI n) - (nI k)) - (nI 1))]) (rest := []) C lk_Run_104 (c_El_isNumber_no l E e0 eb es (n + 1) f sz (((nI n) - (nI k)) - (nI 1)) (hasB_neg (by omega) (by omega))) (by decide) hP hD hS 1 1 rfl rfl [1, 2, 3] rfl (by decide) hl.1 rfl (Nat.le_of_ble_eq_true rfl) d_Run_many_65 (fun r55 w1 H locs hp56 hP hD hS => ?_)
            obtain ⟨rfl, rfl⟩ := hp56
            have hP : va_P E.1 clz [(u0, .inr (3, [.ref e0, .ref s0, .ref h0, .ref c0])), (e0, .inr (1, [.ref eb, .ref es, .int (nI (n + 1))])), (eb, .inl (E.2.1, 1920, .inl f)), (es, .inl (E.2.2.1, 24, .inl sz)), (s0, .inr (5, [.ref m0, .ref d0, .ref h0, .ref x0])), (m0, .inl (E.2.1, 32, .inl mf)), (d0, .inl (E.2.1, 32, .inl df)), (x0, .inl (E.2.1, 112, .inl xf)), (h0, .inr (4, [.ref a1, .ref a2])), (a1, .inl (E.2.2.1, 8, .inl st)), (a2, .inl (E.2.2.1, 64, .inl wv)), (c0, .inr (0, [.int (nI bo), .int (nI bh)]))] H := hP
            have hD : va_D A [(u0, .inr (3, [.ref e0, .ref s0, .ref h0, .ref c0])), (e0, .inr (1, [.ref eb, .ref es, .int (nI (n + 1))])), (eb, .inl (E.2.1, 1920, .inl f)), (es, .inl (E.2.2.1, 24, .inl sz)), (s0, .inr (5, [.ref m0, .ref d0, .ref h0, .ref x0])), (m0, .inl (E.2.1, 32, .inl mf)), (d0, .inl (E.2.1, 32, .inl df)), (x0, .inl (E.2.1, 112, .inl xf)), (h0, .inr (4, [.ref a1, .ref a2])), (a1, .inl (E.2.2.1, 8, .inl st)), (a2, .inl (E.2.2.1, 64, .inl wv)), (c0, .inr (0, [.int (nI bo), .int (nI bh)]))] := hD
            refine zb_eq C false rfl d_Run_many_68 rfl (fun hc57 => ?_) (fun hc57 => absurd hc57 (by simp_all))
            refine lv_iconst (v := nI 0) hx hb d_Run_many_82 (by decide) ?_
            exact kret (nI 0) [(u0, .inr (3, [.ref e0, .ref s0, .ref h0, .ref c0])), (e0, .inr (1, [.ref eb, .ref es, .int (nI (n + 1))])), (eb, .inl (E.2.1, 1920, .inl f)), (es, .inl (E.2.2.1, 24, .inl sz)), (s0, .inr (5, [.ref m0, .ref d0, .ref h0, .ref x0])), (m0, .inl (E.2.1, 32, .inl mf)), (d0, .inl (E.2.1, 32, .inl df)), (x0, .inl (E.2.1, 112, .inl xf)), (h0, .inr (4, [.ref a1, .ref a2])), (a1, .inl (E.2.2.1, 8, .inl st)), (a2, .inl (E.2.2.1, 64, .inl wv)), (c0, .inr (0, [.int (nI bo), .int (nI bh)]))] _ _ _ _ d_Run_many_83 (⟨_, _, _, _, _, _, _, rfl, hB, Or.inr ⟨many_kn hn h4 hk hk8 (Or.inl hkn), rfl⟩⟩) rfl hP hS
        · refine lv_iconst (v := nI 0) hx hb d_Run_many_40 (by decide) ?_
          exact kret (nI 0) [(u0, .inr (3, [.ref e0, .ref s0, .ref h0, .ref c0])), (e0, .inr (1, [.ref eb, .ref es, .int (nI (n + 1))])), (eb, .inl (E.2.1, 1920, .inl f)), (es, .inl (E.2.2.1, 24, .inl sz)), (s0, .inr (5, [.ref m0, .ref d0, .ref h0, .ref x0])), (m0, .inl (E.2.1, 32, .inl mf)), (d0, .inl (E.2.1, 32, .inl df)), (x0, .inl (E.2.1, 112, .inl xf)), (h0, .inr (4, [.ref a1, .ref a2])), (a1, .inl (E.2.2.1, 8, .inl st)), (a2, .inl (E.2.2.1, 64, .inl wv)), (c0, .inr (0, [.int (nI bo), .int (nI bh)]))] _ _ _ _ d_Run_many_41 (⟨_, _, _, _, _, _, _, rfl, hB, Or.inr ⟨by exact many_kbad hn h4 (Or.inr (Int32.not_le.mp hc17)), rfl⟩⟩) rfl hP hS
