theorem wds_last {b : Nat → Int32} {n j : Nat} {w : Nat → Int32} (h : j = (n + 8) / 64) : ∀ k, k < 16 → upd (ldW b n j w 64) 15 (nI (n * 8)) k = wds b n j k := by
  intro k hk
  unfold upd wds
  by_cases h2 : k = 15
  · rw [if_pos h2, if_pos ⟨h, h2⟩]
  · rw [if_neg h2, if_neg (fun q => h2 q.2)]
    exact ldW_all hk
theorem wds_not {b : Nat → Int32} {n j : Nat} {w : Nat → Int32} (h : ¬ j = (n + 8) / 64) : ∀ k, k < 16 → ldW b n j w 64 k = wds b n j k := by
  intro k hk
  unfold wds
  rw [if_neg (fun q => h q.1)]
  exact ldW_all hk
theorem st_step {b X st : Nat → Int32} {n j : Nat} (hX : ∀ k, k < 16 → X k = wds b n j k) (h : ∀ k, k < 8 → st k = stN b n j k) : ∀ k, k < 8 → blkF (exW X 48) st k = stN b n (j + 1) k :=
  blkF_congr (fun k hk => exW_congr hX 48 k hk) h
theorem st_0 {b st : Nat → Int32} {n : Nat} : ∀ k, k < 8 → va_cpy shS st 0 0 8 k = stN b n 0 k := by
  intro k hk
  rw [pk_cpy_in (by omega) (by omega), Nat.zero_add, Nat.sub_zero]
  rfl
theorem cpy_step {S t : Nat → Int32} {d i : Nat} {v : Int32} (h : v = S i) : upd (va_cpy S t 0 d i) (d + i) v = va_cpy S t 0 d (i + 1) := by
  have := cpy_succ S t 0 d i
  rw [Nat.zero_add] at this
  rw [h]; exact this
theorem cpy_cpy (f f' g : Nat → Int32) (d n : Nat) : va_cpy f (va_cpy f' g 0 d n) 0 d n = va_cpy f g 0 d n := by
  funext j
  unfold va_cpy
  split
  · rfl
  · rfl
def hashF (b : Nat → Int32) (n : Nat) : Nat → Int32 := shaF (shaF b n) 32
theorem hashF_B (b : Nat → Int32) (n : Nat) : fB (hashF b n) := shaF_B _ _
theorem hash_back (S t : Nat → Int32) (d : Nat) : va_cpy (shaF (fun q => va_cpy S t 0 d 32 (d + q)) 32) (va_cpy S t 0 d 32) 0 d 32 = va_cpy (shaF S 32) t 0 d 32 := by
  rw [cpy_cpy, shaF_congr (b' := S)]
  intro j hj
  rw [pk_cpy_in (by omega) (by omega)]
  congr 1
  omega

set_option maxHeartbeats 4000000 in
set_option maxRecDepth 100000 in
theorem c_Sha_digest (l : Launch) (E : En) (h0 a1 a2 g0 Mg o n ta : Nat) (st wv g : Nat → Int32) (t0 Mt : Nat) (t : Nat → Int32) (hn : o + n ≤ Mg) (hM : Mg < 2 ^ 20) (hta : ta + 32 ≤ Mt) (hMt : Mt < 2 ^ 20) : CtV l y_Sha_digest b_Sha_digest 8 (rmd 1) E [.ref h0, .ref g0, .int (nI o), .int (nI n), .ref t0, .int (nI ta)] [(h0, .inr (4, [.ref a1, .ref a2])), (a1, .inl (E.2.2.1, 8, .inl st)), (a2, .inl (E.2.2.1, 64, .inl wv)), (g0, .inl (E.2.1, Mg, .inl g)), (t0, .inl (E.2.1, Mt, .inl t))] (fun w => ∃ (s1 w1 : Nat → Int32), w = [(h0, .inr (4, [.ref a1, .ref a2])), (a1, .inl (E.2.2.1, 8, .inl s1)), (a2, .inl (E.2.2.1, 64, .inl w1)), (g0, .inl (E.2.1, Mg, .inl g)), (t0, .inl (E.2.1, Mt, .inl (va_cpy (shaF (fun q => g (o + q)) n) t 0 ta 32)))]) := by
  refine CtV.of (by decide) (Nat.le_of_ble_eq_true rfl) ?_
  intro p e s m args below meth c A Q H locs ls C hP hD hS hl kret
  have hx := C.1
  have hb := C.2.1
  have hl : lv_has ls 8 [(0, .ref h0), (1, .ref g0), (2, .int (nI o)), (3, .int (nI n)), (4, .ref t0), (5, .int (nI ta))] := hl
  refine n_gets C fl_Sha_22 C.2.2.2.2.2.2.1.1.1 hS d_Sha_digest_0 ?_
  refine lv_iconst (v := nI 0) hx hb d_Sha_digest_3 (by decide) ?_
  refine lv_aload_n hx hb d_Sha_digest_4 rfl (lv_at hl 0 rfl) ?_
  refine n_get C fg_Sha_9 hP 0 rfl rfl d_Sha_digest_5 ?_
  refine lv_iconst (v := nI 0) hx hb d_Sha_digest_8 (by decide) ?_
  refine lv_aload_n hx hb d_Sha_digest_9 rfl (lv_at hl 0 rfl) ?_
  refine n_get C fg_Sha_9 hP 0 rfl rfl d_Sha_digest_10 ?_
  refine n_alenI C hP 1 rfl d_Sha_digest_13 ?_
  refine n_cpyT C lk_Sha_25 hP hD hS (C.2.2.2.2.2.2.1.1.2) 1 rfl 8 rfl rfl rfl (by omega) (by omega) (by omega) hl.1 (by decide) (by decide) d_Sha_digest_14 (fun H locs hP hD hS => ?_)
  have hP : va_P E.1 clz [(h0, .inr (4, [.ref a1, .ref a2])), (a1, .inl (E.2.2.1, 8, .inl (va_cpy shS st 0 0 8))), (a2, .inl (E.2.2.1, 64, .inl wv)), (g0, .inl (E.2.1, Mg, .inl g)), (t0, .inl (E.2.1, Mt, .inl t))] H := hP
  have hD : va_D A [(h0, .inr (4, [.ref a1, .ref a2])), (a1, .inl (E.2.2.1, 8, .inl (va_cpy shS st 0 0 8))), (a2, .inl (E.2.2.1, 64, .inl wv)), (g0, .inl (E.2.1, Mg, .inl g)), (t0, .inl (E.2.1, Mt, .inl t))] := hD
  refine lv_iload_n hx hb d_Sha_digest_17 rfl (lv_at hl 3 rfl) ?_
  refine lv_bipush (v := nI 8) hx hb d_Sha_digest_18 (by decide) ?_
  refine lv_iadd hx hb d_Sha_digest_20 ?_
  refine tope (z := nI (n + 8)) (nI_add _ _) ?_
  refine lv_bipush (v := nI 64) hx hb d_Sha_digest_21 (by decide) ?_
  refine lv_idiv hx hb d_Sha_digest_23 (nI_ne0 (by omega) (by omega)) ?_
  refine tope (z := nI ((n + 8) / 64)) (pk_div (by omega) (by omega) (by omega)) ?_
  refine lv_istore (lv' := [(6, .int (nI ((n + 8) / 64))), (0, .ref h0), (1, .ref g0), (2, .int (nI o)), (3, .int (nI n)), (4, .ref t0), (5, .int (nI ta))]) hx hb d_Sha_digest_24 hl (by decide) rfl (fun ls hl => ?_)
  refine lv_iconst (v := nI 0) hx hb d_Sha_digest_26 (by decide) ?_
  refine lv_istore (lv' := [(7, .int (nI 0)), (6, .int (nI ((n + 8) / 64))), (0, .ref h0), (1, .ref g0), (2, .int (nI o)), (3, .int (nI n)), (4, .ref t0), (5, .int (nI ta))]) hx hb d_Sha_digest_27 hl (by decide) rfl (fun ls hl => ?_)
  have hloop29 : ∀ (dd : Nat) (j : Nat) (sv : Nat → Int32) (wy : Nat → Int32) (H : Heap) (locs : List Loc) (ls : Array Slot), (n + 8) / 64 + 1 - j < dd → (j ≤ (n + 8) / 64 + 1) → (∀ k, k < 8 → sv k = stN (fun q => g (o + q)) n j k) → va_P E.1 clz [(h0, .inr (4, [.ref a1, .ref a2])), (a1, .inl (E.2.2.1, 8, .inl sv)), (a2, .inl (E.2.2.1, 64, .inl wy)), (g0, .inl (E.2.1, Mg, .inl g)), (t0, .inl (E.2.1, Mt, .inl t))] H → va_D A [(h0, .inr (4, [.ref a1, .ref a2])), (a1, .inl (E.2.2.1, 8, .inl sv)), (a2, .inl (E.2.2.1, 64, .inl wy)), (g0, .inl (E.2.1, Mg, .inl g)), (t0, .inl (E.2.1, Mt, .inl t))] → va_S A s.heap H locs → lv_has ls 8 [(7, .int (nI j)), (6, .int (nI ((n + 8) / 64))), (5, .int (nI ta)), (4, .ref t0), (3, .int (nI n)), (2, .int (nI o)), (1, .ref g0), (0, .ref h0)] → W p l e (rmd 1) s m args below meth c H locs 0 0 Q (F0 m 29 ls []) := by
    intro dd
    induction dd with
    | zero => intro j sv wy H locs ls hmz; exact absurd hmz (Nat.not_lt_zero _)
    | succ dd ih29 =>
      intro j sv wy H locs ls hmz hj hst hP hD hS hl
      refine lv_iload hx hb d_Sha_digest_29 (lv_at hl 0 rfl) ?_
      refine lv_iload hx hb d_Sha_digest_31 (lv_at hl 1 rfl) ?_
      refine j_gt C j ((n + 8) / 64) rfl rfl (by omega) (by omega) d_Sha_digest_33 rfl (fun hc1 => ?_) (fun hc1 => ?_)
      · refine lv_iconst (v := nI 0) hx hb d_Sha_digest_77 (by decide) ?_
        refine lv_istore (lv' := [(7, .int (nI 0)), (6, .int (nI ((n + 8) / 64))), (5, .int (nI ta)), (4, .ref t0), (3, .int (nI n)), (2, .int (nI o)), (1, .ref g0), (0, .ref h0)]) hx hb d_Sha_digest_78 hl (by decide) rfl (fun ls hl => ?_)
        have hst : ∀ k, k < 8 → sv k = stN (fun q => g (o + q)) n (lstB n + 1) k := by rw [show lstB n + 1 = j by unfold lstB; omega]; exact hst
        rw [← cpy_zero (shaF (fun q => g (o + q)) n) t 0 ta] at hP hD
        have hloop80 : ∀ (dd : Nat) (i : Nat) (H : Heap) (locs : List Loc) (ls : Array Slot), 32 - i < dd → (i ≤ 32) → va_P E.1 clz [(h0, .inr (4, [.ref a1, .ref a2])), (a1, .inl (E.2.2.1, 8, .inl sv)), (a2, .inl (E.2.2.1, 64, .inl wy)), (g0, .inl (E.2.1, Mg, .inl g)), (t0, .inl (E.2.1, Mt, .inl (va_cpy (shaF (fun q => g (o + q)) n) t 0 ta i)))] H → va_D A [(h0, .inr (4, [.ref a1, .ref a2])), (a1, .inl (E.2.2.1, 8, .inl sv)), (a2, .inl (E.2.2.1, 64, .inl wy)), (g0, .inl (E.2.1, Mg, .inl g)), (t0, .inl (E.2.1, Mt, .inl (va_cpy (shaF (fun q => g (o + q)) n) t 0 ta i)))] → va_S A s.heap H locs → lv_has ls 8 [(7, .int (nI i)), (5, .int (nI ta)), (4, .ref t0), (3, .int (nI n)), (2, .int (nI o)), (1, .ref g0), (0, .ref h0)] → W p l e (rmd 1) s m args below meth c H locs 0 0 Q (F0 m 80 ls []) := by
          intro dd
          induction dd with
          | zero => intro i H locs ls hmz; exact absurd hmz (Nat.not_lt_zero _)
          | succ dd ih80 =>
            intro i H locs ls hmz hi hP hD hS hl
            refine lv_iload hx hb d_Sha_digest_80 (lv_at hl 0 rfl) ?_
            refine lv_bipush (v := nI 32) hx hb d_Sha_digest_82 (by decide) ?_
            refine j_ge C i 32 rfl rfl (by omega) (by omega) d_Sha_digest_84 rfl (fun hc2 => ?_) (fun hc2 => ?_)
            · obtain rfl : i = 32 := by omega
              exact kret [(h0, .inr (4, [.ref a1, .ref a2])), (a1, .inl (E.2.2.1, 8, .inl sv)), (a2, .inl (E.2.2.1, 64, .inl wy)), (g0, .inl (E.2.1, Mg, .inl g)), (t0, .inl (E.2.1, Mt, .inl (va_cpy (shaF (fun q => g (o + q)) n) t 0 ta 32)))] _ _ _ _ d_Sha_digest_122 (⟨_, _, rfl⟩) rfl hP hS
            · refine lv_aload hx hb d_Sha_digest_87 (lv_at hl 2 rfl) ?_
              refine lv_iload hx hb d_Sha_digest_89 (lv_at hl 1 rfl) ?_
              refine lv_iload hx hb d_Sha_digest_91 (lv_at hl 0 rfl) ?_
              refine lv_iadd hx hb d_Sha_digest_93 ?_
              refine tope (z := nI (ta + i)) (nI_add _ _) ?_
              refine lv_aload_n hx hb d_Sha_digest_94 rfl (lv_at hl 6 rfl) ?_
              refine n_get C fg_Sha_9 hP 0 rfl rfl d_Sha_digest_95 ?_
              refine lv_iload hx hb d_Sha_digest_98 (lv_at hl 0 rfl) ?_
              refine lv_iconst (v := nI 4) hx hb d_Sha_digest_100 (by decide) ?_
              refine lv_idiv hx hb d_Sha_digest_101 (nI_ne0 (by omega) (by omega)) ?_
              refine tope (z := nI (i / 4)) (pk_div (by omega) (by omega) (by omega)) ?_
              refine n_iald C hP 1 rfl (i / 4) rfl (by omega) (by omega) d_Sha_digest_102 ?_
              refine lv_bipush (v := nI 24) hx hb d_Sha_digest_103 (by decide) ?_
              refine lv_iload hx hb d_Sha_digest_105 (lv_at hl 0 rfl) ?_
              refine lv_iconst (v := nI 4) hx hb d_Sha_digest_107 (by decide) ?_
              refine lv_irem hx hb d_Sha_digest_108 (nI_ne0 (by omega) (by omega)) ?_
              refine tope (z := nI (i % 4)) (pk_rem (by omega) (by omega) (by omega)) ?_
              refine lv_bipush (v := nI 8) hx hb d_Sha_digest_109 (by decide) ?_
              refine lv_imul hx hb d_Sha_digest_111 ?_
              refine tope (z := nI ((i % 4) * 8)) (pk_mul _ _) ?_
              refine lv_isub hx hb d_Sha_digest_112 ?_
              refine tope (z := nI (24 - ((i % 4) * 8))) (pk_sub (by omega)) ?_
              refine lv_iushr (v := us (sv (i / 4)) (nI (24 - ((i % 4) * 8)))) hx hb d_Sha_digest_113 rfl ?_
              refine lv_i2b (v := nb (us (sv (i / 4)) (nI (24 - ((i % 4) * 8))))) hx hb d_Sha_digest_114 rfl ?_
              refine n_bast (z := nb (us (sv (i / 4)) (nI (24 - ((i % 4) * 8))))) C hP hD hS 4 rfl (ta + i) rfl (nb_nb _) (by omega) (by omega) d_Sha_digest_115 (fun H locs hP hD hS => ?_)
              have hP : va_P E.1 clz [(h0, .inr (4, [.ref a1, .ref a2])), (a1, .inl (E.2.2.1, 8, .inl sv)), (a2, .inl (E.2.2.1, 64, .inl wy)), (g0, .inl (E.2.1, Mg, .inl g)), (t0, .inl (E.2.1, Mt, .inl (upd (va_cpy (shaF (fun q => g (o + q)) n) t 0 ta i) (ta + i) (nb (us (sv (i / 4)) (nI (24 - ((i % 4) * 8))))))))] H := hP
              have hD : va_D A [(h0, .inr (4, [.ref a1, .ref a2])), (a1, .inl (E.2.2.1, 8, .inl sv)), (a2, .inl (E.2.2.1, 64, .inl wy)), (g0, .inl (E.2.1, Mg, .inl g)), (t0, .inl (E.2.1, Mt, .inl (upd (va_cpy (shaF (fun q => g (o + q)) n) t 0 ta i) (ta + i) (nb (us (sv (i / 4)) (nI (24 - ((i % 4) * 8))))))))] := hD
              rw [cpy_step (S := shaF (fun q => g (o + q)) n) (t := t) (d := ta) (i := i) (by show nb _ = nb _; rw [← hst (i / 4) (by omega)])] at hP hD
              have hP : va_P E.1 clz [(h0, .inr (4, [.ref a1, .ref a2])), (a1, .inl (E.2.2.1, 8, .inl sv)), (a2, .inl (E.2.2.1, 64, .inl wy)), (g0, .inl (E.2.1, Mg, .inl g)), (t0, .inl (E.2.1, Mt, .inl (va_cpy (shaF (fun q => g (o + q)) n) t 0 ta (i + 1))))] H := hP
              have hD : va_D A [(h0, .inr (4, [.ref a1, .ref a2])), (a1, .inl (E.2.2.1, 8, .inl sv)), (a2, .inl (E.2.2.1, 64, .inl wy)), (g0, .inl (E.2.1, Mg, .inl g)), (t0, .inl (E.2.1, Mt, .inl (va_cpy (shaF (fun q => g (o + q)) n) t 0 ta (i + 1))))] := hD
              refine lv_iinc (k := 0) (v := nI (i + 1)) (lv' := [(7, .int (nI (i + 1))), (5, .int (nI ta)), (4, .ref t0), (3, .int (nI n)), (2, .int (nI o)), (1, .ref g0), (0, .ref h0)]) hx hb d_Sha_digest_116 hl rfl (iincK i 1) (by decide) rfl (fun ls hl => ?_)
              refine lv_goto hx hb d_Sha_digest_119 rfl ?_
              exact ih80 (i + 1) H locs ls (by omega) (by omega) hP hD hS (lv_sub hl [0, 1, 2, 3, 4, 5, 6] rfl)
        exact hloop80 (32 + 1) 0 H locs ls (by omega) (by omega) hP hD hS (lv_sub hl [0, 2, 3, 4, 5, 6, 7] rfl)
      · refine lv_aload_n hx hb d_Sha_digest_36 rfl (lv_at hl 7 rfl) ?_
        refine lv_aload_n hx hb d_Sha_digest_37 rfl (lv_at hl 6 rfl) ?_
        refine lv_iload_n hx hb d_Sha_digest_38 rfl (lv_at hl 5 rfl) ?_
        refine lv_iload_n hx hb d_Sha_digest_39 rfl (lv_at hl 4 rfl) ?_
        refine lv_iload hx hb d_Sha_digest_40 (lv_at hl 0 rfl) ?_
        refine cal_V (As := [.ref g0, .int (nI o), .int (nI n), .int (nI j)]) (rest := []) C lk_Sha_31 (c_Sha_load l E h0 a1 a2 g0 Mg o n j wy g (by omega) (by omega) (by omega)) (by decide) hP hD hS 0 4 rfl rfl [0, 2, 3] rfl (by decide) hl.1 rfl (Nat.le_of_ble_eq_true rfl) d_Sha_digest_42 (fun w1 H locs hp4 hP hD hS => ?_)
        obtain rfl := hp4
        have hP : va_P E.1 clz [(h0, .inr (4, [.ref a1, .ref a2])), (a1, .inl (E.2.2.1, 8, .inl sv)), (a2, .inl (E.2.2.1, 64, .inl (ldW (fun q => g (o + q)) n j wy 64))), (g0, .inl (E.2.1, Mg, .inl g)), (t0, .inl (E.2.1, Mt, .inl t))] H := hP
        have hD : va_D A [(h0, .inr (4, [.ref a1, .ref a2])), (a1, .inl (E.2.2.1, 8, .inl sv)), (a2, .inl (E.2.2.1, 64, .inl (ldW (fun q => g (o + q)) n j wy 64))), (g0, .inl (E.2.1, Mg, .inl g)), (t0, .inl (E.2.1, Mt, .inl t))] := hD
        refine lv_iload hx hb d_Sha_digest_45 (lv_at hl 0 rfl) ?_
        refine lv_iload hx hb d_Sha_digest_47 (lv_at hl 1 rfl) ?_
        refine j_ne C j ((n + 8) / 64) rfl rfl (by omega) (by omega) d_Sha_digest_49 rfl (fun hc5 => ?_) (fun hc5 => ?_)
        · refine lv_aload_n hx hb d_Sha_digest_63 rfl (lv_at hl 7 rfl) ?_
          refine cal_V (As := []) (rest := []) C lk_Sha_35 (c_Sha_extend l E h0 a1 a2 (ldW (fun q => g (o + q)) n j wy 64)) (by decide) hP hD hS 0 4 rfl rfl [0, 2] rfl (by decide) hl.1 rfl (Nat.le_of_ble_eq_true rfl) d_Sha_digest_64 (fun w1 H locs hp7 hP hD hS => ?_)
          obtain rfl := hp7
          have hP : va_P E.1 clz [(h0, .inr (4, [.ref a1, .ref a2])), (a1, .inl (E.2.2.1, 8, .inl sv)), (a2, .inl (E.2.2.1, 64, .inl (exW (ldW (fun q => g (o + q)) n j wy 64) 48))), (g0, .inl (E.2.1, Mg, .inl g)), (t0, .inl (E.2.1, Mt, .inl t))] H := hP
          have hD : va_D A [(h0, .inr (4, [.ref a1, .ref a2])), (a1, .inl (E.2.2.1, 8, .inl sv)), (a2, .inl (E.2.2.1, 64, .inl (exW (ldW (fun q => g (o + q)) n j wy 64) 48))), (g0, .inl (E.2.1, Mg, .inl g)), (t0, .inl (E.2.1, Mt, .inl t))] := hD
          refine lv_aload_n hx hb d_Sha_digest_67 rfl (lv_at hl 7 rfl) ?_
          refine cal_V (As := []) (rest := []) C lk_Sha_38 (c_Sha_mix l E h0 a1 a2 sv (exW (ldW (fun q => g (o + q)) n j wy 64) 48)) (by decide) hP hD hS 0 4 rfl rfl [0, 1, 2] rfl (by decide) hl.1 rfl (Nat.le_of_ble_eq_true rfl) d_Sha_digest_68 (fun w1 H locs hp9 hP hD hS => ?_)
          obtain rfl := hp9
          have hP : va_P E.1 clz [(h0, .inr (4, [.ref a1, .ref a2])), (a1, .inl (E.2.2.1, 8, .inl (blkF (exW (ldW (fun q => g (o + q)) n j wy 64) 48) sv))), (a2, .inl (E.2.2.1, 64, .inl (exW (ldW (fun q => g (o + q)) n j wy 64) 48))), (g0, .inl (E.2.1, Mg, .inl g)), (t0, .inl (E.2.1, Mt, .inl t))] H := hP
          have hD : va_D A [(h0, .inr (4, [.ref a1, .ref a2])), (a1, .inl (E.2.2.1, 8, .inl (blkF (exW (ldW (fun q => g (o + q)) n j wy 64) 48) sv))), (a2, .inl (E.2.2.1, 64, .inl (exW (ldW (fun q => g (o + q)) n j wy 64) 48))), (g0, .inl (E.2.1, Mg, .inl g)), (t0, .inl (E.2.1, Mt, .inl t))] := hD
          refine lv_iinc (k := 0) (v := nI (j + 1)) (lv' := [(7, .int (nI (j + 1))), (6, .int (nI ((n + 8) / 64))), (5, .int (nI ta)), (4, .ref t0), (3, .int (nI n)), (2, .int (nI o)), (1, .ref g0), (0, .ref h0)]) hx hb d_Sha_digest_71 hl rfl (iincK j 1) (by decide) rfl (fun ls hl => ?_)
          refine lv_goto hx hb d_Sha_digest_74 rfl ?_
          exact ih29 (j + 1) (blkF (exW (ldW (fun q => g (o + q)) n j wy 64) 48) sv) (exW (ldW (fun q => g (o + q)) n j wy 64) 48) H locs ls (by omega) (by omega) (st_step (wds_not (by omega)) hst) hP hD hS (lv_sub hl [0, 1, 2, 3, 4, 5, 6, 7] rfl)
        · refine lv_aload_n hx hb d_Sha_digest_52 rfl (lv_at hl 7 rfl) ?_
          refine n_get C fg_Sha_15 hP 0 rfl rfl d_Sha_digest_53 ?_
          refine lv_bipush (v := nI 15) hx hb d_Sha_digest_56 (by decide) ?_
          refine lv_iload_n hx hb d_Sha_digest_58 rfl (lv_at hl 4 rfl) ?_
          refine lv_bipush (v := nI 8) hx hb d_Sha_digest_59 (by decide) ?_
          refine lv_imul hx hb d_Sha_digest_61 ?_
          refine tope (z := nI (n * 8)) (pk_mul _ _) ?_
          refine n_iast C hP hD hS 2 rfl 15 rfl (by omega) (by omega) d_Sha_digest_62 (fun H locs hP hD hS => ?_)
          have hP : va_P E.1 clz [(h0, .inr (4, [.ref a1, .ref a2])), (a1, .inl (E.2.2.1, 8, .inl sv)), (a2, .inl (E.2.2.1, 64, .inl (upd (ldW (fun q => g (o + q)) n j wy 64) 15 (nI (n * 8))))), (g0, .inl (E.2.1, Mg, .inl g)), (t0, .inl (E.2.1, Mt, .inl t))] H := hP
          have hD : va_D A [(h0, .inr (4, [.ref a1, .ref a2])), (a1, .inl (E.2.2.1, 8, .inl sv)), (a2, .inl (E.2.2.1, 64, .inl (upd (ldW (fun q => g (o + q)) n j wy 64) 15 (nI (n * 8))))), (g0, .inl (E.2.1, Mg, .inl g)), (t0, .inl (E.2.1, Mt, .inl t))] := hD
          refine lv_aload_n hx hb d_Sha_digest_63 rfl (lv_at hl 7 rfl) ?_
          refine cal_V (As := []) (rest := []) C lk_Sha_35 (c_Sha_extend l E h0 a1 a2 (upd (ldW (fun q => g (o + q)) n j wy 64) 15 (nI (n * 8)))) (by decide) hP hD hS 0 4 rfl rfl [0, 2] rfl (by decide) hl.1 rfl (Nat.le_of_ble_eq_true rfl) d_Sha_digest_64 (fun w1 H locs hp11 hP hD hS => ?_)
          obtain rfl := hp11
          have hP : va_P E.1 clz [(h0, .inr (4, [.ref a1, .ref a2])), (a1, .inl (E.2.2.1, 8, .inl sv)), (a2, .inl (E.2.2.1, 64, .inl (exW (upd (ldW (fun q => g (o + q)) n j wy 64) 15 (nI (n * 8))) 48))), (g0, .inl (E.2.1, Mg, .inl g)), (t0, .inl (E.2.1, Mt, .inl t))] H := hP
          have hD : va_D A [(h0, .inr (4, [.ref a1, .ref a2])), (a1, .inl (E.2.2.1, 8, .inl sv)), (a2, .inl (E.2.2.1, 64, .inl (exW (upd (ldW (fun q => g (o + q)) n j wy 64) 15 (nI (n * 8))) 48))), (g0, .inl (E.2.1, Mg, .inl g)), (t0, .inl (E.2.1, Mt, .inl t))] := hD
          refine lv_aload_n hx hb d_Sha_digest_67 rfl (lv_at hl 7 rfl) ?_
          refine cal_V (As := []) (rest := []) C lk_Sha_38 (c_Sha_mix l E h0 a1 a2 sv (exW (upd (ldW (fun q => g (o + q)) n j wy 64) 15 (nI (n * 8))) 48)) (by decide) hP hD hS 0 4 rfl rfl [0, 1, 2] rfl (by decide) hl.1 rfl (Nat.le_of_ble_eq_true rfl) d_Sha_digest_68 (fun w1 H locs hp13 hP hD hS => ?_)
          obtain rfl := hp13
          have hP : va_P E.1 clz [(h0, .inr (4, [.ref a1, .ref a2])), (a1, .inl (E.2.2.1, 8, .inl (blkF (exW (upd (ldW (fun q => g (o + q)) n j wy 64) 15 (nI (n * 8))) 48) sv))), (a2, .inl (E.2.2.1, 64, .inl (exW (upd (ldW (fun q => g (o + q)) n j wy 64) 15 (nI (n * 8))) 48))), (g0, .inl (E.2.1, Mg, .inl g)), (t0, .inl (E.2.1, Mt, .inl t))] H := hP
          have hD : va_D A [(h0, .inr (4, [.ref a1, .ref a2])), (a1, .inl (E.2.2.1, 8, .inl (blkF (exW (upd (ldW (fun q => g (o + q)) n j wy 64) 15 (nI (n * 8))) 48) sv))), (a2, .inl (E.2.2.1, 64, .inl (exW (upd (ldW (fun q => g (o + q)) n j wy 64) 15 (nI (n * 8))) 48))), (g0, .inl (E.2.1, Mg, .inl g)), (t0, .inl (E.2.1, Mt, .inl t))] := hD
          refine lv_iinc (k := 0) (v := nI (j + 1)) (lv' := [(7, .int (nI (j + 1))), (6, .int (nI ((n + 8) / 64))), (5, .int (nI ta)), (4, .ref t0), (3, .int (nI n)), (2, .int (nI o)), (1, .ref g0), (0, .ref h0)]) hx hb d_Sha_digest_71 hl rfl (iincK j 1) (by decide) rfl (fun ls hl => ?_)
          refine lv_goto hx hb d_Sha_digest_74 rfl ?_
          exact ih29 (j + 1) (blkF (exW (upd (ldW (fun q => g (o + q)) n j wy 64) 15 (nI (n * 8))) 48) sv) (exW (upd (ldW (fun q => g (o + q)) n j wy 64) 15 (nI (n * 8))) 48) H locs ls (by omega) (by omega) (st_step (wds_last (by omega)) hst) hP hD hS (lv_sub hl [0, 1, 2, 3, 4, 5, 6, 7] rfl)
  exact hloop29 ((n + 8) / 64 + 1 + 1) 0 (va_cpy shS st 0 0 8) wv H locs ls (by omega) (by omega) (st_0) hP hD hS (lv_sub hl [0, 1, 7, 6, 5, 4, 3, 2] rfl)

set_option maxHeartbeats 4000000 in
set_option maxRecDepth 100000 in
theorem c_Sha_digestA (l : Launch) (E : En) (h0 a1 a2 g0 Mg o n ta : Nat) (st wv g : Nat → Int32) (hn : o + n ≤ Mg) (hM : Mg < 2 ^ 20) (hta : ta + 32 ≤ Mg) : CtV l y_Sha_digest b_Sha_digest 8 (rmd 1) E [.ref h0, .ref g0, .int (nI o), .int (nI n), .ref g0, .int (nI ta)] [(h0, .inr (4, [.ref a1, .ref a2])), (a1, .inl (E.2.2.1, 8, .inl st)), (a2, .inl (E.2.2.1, 64, .inl wv)), (g0, .inl (E.2.1, Mg, .inl g))] (fun w => ∃ (s1 w1 : Nat → Int32), w = [(h0, .inr (4, [.ref a1, .ref a2])), (a1, .inl (E.2.2.1, 8, .inl s1)), (a2, .inl (E.2.2.1, 64, .inl w1)), (g0, .inl (E.2.1, Mg, .inl (va_cpy (shaF (fun q => g (o + q)) n) g 0 ta 32)))]) := by
  refine CtV.of (by decide) (Nat.le_of_ble_eq_true rfl) ?_
  intro p e s m args below meth c A Q H locs ls C hP hD hS hl kret
  have hx := C.1
  have hb := C.2.1
  have hl : lv_has ls 8 [(0, .ref h0), (1, .ref g0), (2, .int (nI o)), (3, .int (nI n)), (4, .ref g0), (5, .int (nI ta))] := hl
  refine n_gets C fl_Sha_22 C.2.2.2.2.2.2.1.1.1 hS d_Sha_digest_0 ?_
  refine lv_iconst (v := nI 0) hx hb d_Sha_digest_3 (by decide) ?_
  refine lv_aload_n hx hb d_Sha_digest_4 rfl (lv_at hl 0 rfl) ?_
  refine n_get C fg_Sha_9 hP 0 rfl rfl d_Sha_digest_5 ?_
  refine lv_iconst (v := nI 0) hx hb d_Sha_digest_8 (by decide) ?_
  refine lv_aload_n hx hb d_Sha_digest_9 rfl (lv_at hl 0 rfl) ?_
  refine n_get C fg_Sha_9 hP 0 rfl rfl d_Sha_digest_10 ?_
  refine n_alenI C hP 1 rfl d_Sha_digest_13 ?_
  refine n_cpyT C lk_Sha_25 hP hD hS (C.2.2.2.2.2.2.1.1.2) 1 rfl 8 rfl rfl rfl (by omega) (by omega) (by omega) hl.1 (by decide) (by decide) d_Sha_digest_14 (fun H locs hP hD hS => ?_)
  have hP : va_P E.1 clz [(h0, .inr (4, [.ref a1, .ref a2])), (a1, .inl (E.2.2.1, 8, .inl (va_cpy shS st 0 0 8))), (a2, .inl (E.2.2.1, 64, .inl wv)), (g0, .inl (E.2.1, Mg, .inl g))] H := hP
  have hD : va_D A [(h0, .inr (4, [.ref a1, .ref a2])), (a1, .inl (E.2.2.1, 8, .inl (va_cpy shS st 0 0 8))), (a2, .inl (E.2.2.1, 64, .inl wv)), (g0, .inl (E.2.1, Mg, .inl g))] := hD
  refine lv_iload_n hx hb d_Sha_digest_17 rfl (lv_at hl 3 rfl) ?_
  refine lv_bipush (v := nI 8) hx hb d_Sha_digest_18 (by decide) ?_
  refine lv_iadd hx hb d_Sha_digest_20 ?_
  refine tope (z := nI (n + 8)) (nI_add _ _) ?_
  refine lv_bipush (v := nI 64) hx hb d_Sha_digest_21 (by decide) ?_
  refine lv_idiv hx hb d_Sha_digest_23 (nI_ne0 (by omega) (by omega)) ?_
  refine tope (z := nI ((n + 8) / 64)) (pk_div (by omega) (by omega) (by omega)) ?_
  refine lv_istore (lv' := [(6, .int (nI ((n + 8) / 64))), (0, .ref h0), (1, .ref g0), (2, .int (nI o)), (3, .int (nI n)), (4, .ref g0), (5, .int (nI ta))]) hx hb d_Sha_digest_24 hl (by decide) rfl (fun ls hl => ?_)
  refine lv_iconst (v := nI 0) hx hb d_Sha_digest_26 (by decide) ?_
  refine lv_istore (lv' := [(7, .int (nI 0)), (6, .int (nI ((n + 8) / 64))), (0, .ref h0), (1, .ref g0), (2, .int (nI o)), (3, .int (nI n)), (4, .ref g0), (5, .int (nI ta))]) hx hb d_Sha_digest_27 hl (by decide) rfl (fun ls hl => ?_)
  have hloop29 : ∀ (dd : Nat) (j : Nat) (sv : Nat → Int32) (wy : Nat → Int32) (H : Heap) (locs : List Loc) (ls : Array Slot), (n + 8) / 64 + 1 - j < dd → (j ≤ (n + 8) / 64 + 1) → (∀ k, k < 8 → sv k = stN (fun q => g (o + q)) n j k) → va_P E.1 clz [(h0, .inr (4, [.ref a1, .ref a2])), (a1, .inl (E.2.2.1, 8, .inl sv)), (a2, .inl (E.2.2.1, 64, .inl wy)), (g0, .inl (E.2.1, Mg, .inl g))] H → va_D A [(h0, .inr (4, [.ref a1, .ref a2])), (a1, .inl (E.2.2.1, 8, .inl sv)), (a2, .inl (E.2.2.1, 64, .inl wy)), (g0, .inl (E.2.1, Mg, .inl g))] → va_S A s.heap H locs → lv_has ls 8 [(7, .int (nI j)), (6, .int (nI ((n + 8) / 64))), (5, .int (nI ta)), (4, .ref g0), (3, .int (nI n)), (2, .int (nI o)), (1, .ref g0), (0, .ref h0)] → W p l e (rmd 1) s m args below meth c H locs 0 0 Q (F0 m 29 ls []) := by
    intro dd
    induction dd with
    | zero => intro j sv wy H locs ls hmz; exact absurd hmz (Nat.not_lt_zero _)
    | succ dd ih29 =>
      intro j sv wy H locs ls hmz hj hst hP hD hS hl
      refine lv_iload hx hb d_Sha_digest_29 (lv_at hl 0 rfl) ?_
      refine lv_iload hx hb d_Sha_digest_31 (lv_at hl 1 rfl) ?_
      refine j_gt C j ((n + 8) / 64) rfl rfl (by omega) (by omega) d_Sha_digest_33 rfl (fun hc1 => ?_) (fun hc1 => ?_)
      · refine lv_iconst (v := nI 0) hx hb d_Sha_digest_77 (by decide) ?_
        refine lv_istore (lv' := [(7, .int (nI 0)), (6, .int (nI ((n + 8) / 64))), (5, .int (nI ta)), (4, .ref g0), (3, .int (nI n)), (2, .int (nI o)), (1, .ref g0), (0, .ref h0)]) hx hb d_Sha_digest_78 hl (by decide) rfl (fun ls hl => ?_)
        have hst : ∀ k, k < 8 → sv k = stN (fun q => g (o + q)) n (lstB n + 1) k := by rw [show lstB n + 1 = j by unfold lstB; omega]; exact hst
        rw [← cpy_zero (shaF (fun q => g (o + q)) n) g 0 ta] at hP hD
        have hloop80 : ∀ (dd : Nat) (i : Nat) (H : Heap) (locs : List Loc) (ls : Array Slot), 32 - i < dd → (i ≤ 32) → va_P E.1 clz [(h0, .inr (4, [.ref a1, .ref a2])), (a1, .inl (E.2.2.1, 8, .inl sv)), (a2, .inl (E.2.2.1, 64, .inl wy)), (g0, .inl (E.2.1, Mg, .inl (va_cpy (shaF (fun q => g (o + q)) n) g 0 ta i)))] H → va_D A [(h0, .inr (4, [.ref a1, .ref a2])), (a1, .inl (E.2.2.1, 8, .inl sv)), (a2, .inl (E.2.2.1, 64, .inl wy)), (g0, .inl (E.2.1, Mg, .inl (va_cpy (shaF (fun q => g (o + q)) n) g 0 ta i)))] → va_S A s.heap H locs → lv_has ls 8 [(7, .int (nI i)), (5, .int (nI ta)), (4, .ref g0), (3, .int (nI n)), (2, .int (nI o)), (1, .ref g0), (0, .ref h0)] → W p l e (rmd 1) s m args below meth c H locs 0 0 Q (F0 m 80 ls []) := by
          intro dd
          induction dd with
          | zero => intro i H locs ls hmz; exact absurd hmz (Nat.not_lt_zero _)
          | succ dd ih80 =>
            intro i H locs ls hmz hi hP hD hS hl
            refine lv_iload hx hb d_Sha_digest_80 (lv_at hl 0 rfl) ?_
            refine lv_bipush (v := nI 32) hx hb d_Sha_digest_82 (by decide) ?_
            refine j_ge C i 32 rfl rfl (by omega) (by omega) d_Sha_digest_84 rfl (fun hc2 => ?_) (fun hc2 => ?_)
            · obtain rfl : i = 32 := by omega
              exact kret [(h0, .inr (4, [.ref a1, .ref a2])), (a1, .inl (E.2.2.1, 8, .inl sv)), (a2, .inl (E.2.2.1, 64, .inl wy)), (g0, .inl (E.2.1, Mg, .inl (va_cpy (shaF (fun q => g (o + q)) n) g 0 ta 32)))] _ _ _ _ d_Sha_digest_122 (⟨_, _, rfl⟩) rfl hP hS
            · refine lv_aload hx hb d_Sha_digest_87 (lv_at hl 2 rfl) ?_
              refine lv_iload hx hb d_Sha_digest_89 (lv_at hl 1 rfl) ?_
              refine lv_iload hx hb d_Sha_digest_91 (lv_at hl 0 rfl) ?_
              refine lv_iadd hx hb d_Sha_digest_93 ?_
              refine tope (z := nI (ta + i)) (nI_add _ _) ?_
              refine lv_aload_n hx hb d_Sha_digest_94 rfl (lv_at hl 6 rfl) ?_
              refine n_get C fg_Sha_9 hP 0 rfl rfl d_Sha_digest_95 ?_
              refine lv_iload hx hb d_Sha_digest_98 (lv_at hl 0 rfl) ?_
              refine lv_iconst (v := nI 4) hx hb d_Sha_digest_100 (by decide) ?_
              refine lv_idiv hx hb d_Sha_digest_101 (nI_ne0 (by omega) (by omega)) ?_
              refine tope (z := nI (i / 4)) (pk_div (by omega) (by omega) (by omega)) ?_
              refine n_iald C hP 1 rfl (i / 4) rfl (by omega) (by omega) d_Sha_digest_102 ?_
              refine lv_bipush (v := nI 24) hx hb d_Sha_digest_103 (by decide) ?_
              refine lv_iload hx hb d_Sha_digest_105 (lv_at hl 0 rfl) ?_
              refine lv_iconst (v := nI 4) hx hb d_Sha_digest_107 (by decide) ?_
              refine lv_irem hx hb d_Sha_digest_108 (nI_ne0 (by omega) (by omega)) ?_
              refine tope (z := nI (i % 4)) (pk_rem (by omega) (by omega) (by omega)) ?_
              refine lv_bipush (v := nI 8) hx hb d_Sha_digest_109 (by decide) ?_
              refine lv_imul hx hb d_Sha_digest_111 ?_
              refine tope (z := nI ((i % 4) * 8)) (pk_mul _ _) ?_
              refine lv_isub hx hb d_Sha_digest_112 ?_
              refine tope (z := nI (24 - ((i % 4) * 8))) (pk_sub (by omega)) ?_
              refine lv_iushr (v := us (sv (i / 4)) (nI (24 - ((i % 4) * 8)))) hx hb d_Sha_digest_113 rfl ?_
              refine lv_i2b (v := nb (us (sv (i / 4)) (nI (24 - ((i % 4) * 8))))) hx hb d_Sha_digest_114 rfl ?_
              refine n_bast (z := nb (us (sv (i / 4)) (nI (24 - ((i % 4) * 8))))) C hP hD hS 3 rfl (ta + i) rfl (nb_nb _) (by omega) (by omega) d_Sha_digest_115 (fun H locs hP hD hS => ?_)
              have hP : va_P E.1 clz [(h0, .inr (4, [.ref a1, .ref a2])), (a1, .inl (E.2.2.1, 8, .inl sv)), (a2, .inl (E.2.2.1, 64, .inl wy)), (g0, .inl (E.2.1, Mg, .inl (upd (va_cpy (shaF (fun q => g (o + q)) n) g 0 ta i) (ta + i) (nb (us (sv (i / 4)) (nI (24 - ((i % 4) * 8))))))))] H := hP
              have hD : va_D A [(h0, .inr (4, [.ref a1, .ref a2])), (a1, .inl (E.2.2.1, 8, .inl sv)), (a2, .inl (E.2.2.1, 64, .inl wy)), (g0, .inl (E.2.1, Mg, .inl (upd (va_cpy (shaF (fun q => g (o + q)) n) g 0 ta i) (ta + i) (nb (us (sv (i / 4)) (nI (24 - ((i % 4) * 8))))))))] := hD
              rw [cpy_step (S := shaF (fun q => g (o + q)) n) (t := g) (d := ta) (i := i) (by show nb _ = nb _; rw [← hst (i / 4) (by omega)])] at hP hD
              have hP : va_P E.1 clz [(h0, .inr (4, [.ref a1, .ref a2])), (a1, .inl (E.2.2.1, 8, .inl sv)), (a2, .inl (E.2.2.1, 64, .inl wy)), (g0, .inl (E.2.1, Mg, .inl (va_cpy (shaF (fun q => g (o + q)) n) g 0 ta (i + 1))))] H := hP
              have hD : va_D A [(h0, .inr (4, [.ref a1, .ref a2])), (a1, .inl (E.2.2.1, 8, .inl sv)), (a2, .inl (E.2.2.1, 64, .inl wy)), (g0, .inl (E.2.1, Mg, .inl (va_cpy (shaF (fun q => g (o + q)) n) g 0 ta (i + 1))))] := hD
              refine lv_iinc (k := 0) (v := nI (i + 1)) (lv' := [(7, .int (nI (i + 1))), (5, .int (nI ta)), (4, .ref g0), (3, .int (nI n)), (2, .int (nI o)), (1, .ref g0), (0, .ref h0)]) hx hb d_Sha_digest_116 hl rfl (iincK i 1) (by decide) rfl (fun ls hl => ?_)
              refine lv_goto hx hb d_Sha_digest_119 rfl ?_
              exact ih80 (i + 1) H locs ls (by omega) (by omega) hP hD hS (lv_sub hl [0, 1, 2, 3, 4, 5, 6] rfl)
        exact hloop80 (32 + 1) 0 H locs ls (by omega) (by omega) hP hD hS (lv_sub hl [0, 2, 3, 4, 5, 6, 7] rfl)
      · refine lv_aload_n hx hb d_Sha_digest_36 rfl (lv_at hl 7 rfl) ?_
        refine lv_aload_n hx hb d_Sha_digest_37 rfl (lv_at hl 6 rfl) ?_
        refine lv_iload_n hx hb d_Sha_digest_38 rfl (lv_at hl 5 rfl) ?_
        refine lv_iload_n hx hb d_Sha_digest_39 rfl (lv_at hl 4 rfl) ?_
        refine lv_iload hx hb d_Sha_digest_40 (lv_at hl 0 rfl) ?_
        refine cal_V (As := [.ref g0, .int (nI o), .int (nI n), .int (nI j)]) (rest := []) C lk_Sha_31 (c_Sha_load l E h0 a1 a2 g0 Mg o n j wy g (by omega) (by omega) (by omega)) (by decide) hP hD hS 0 4 rfl rfl [0, 2, 3] rfl (by decide) hl.1 rfl (Nat.le_of_ble_eq_true rfl) d_Sha_digest_42 (fun w1 H locs hp4 hP hD hS => ?_)
        obtain rfl := hp4
        have hP : va_P E.1 clz [(h0, .inr (4, [.ref a1, .ref a2])), (a1, .inl (E.2.2.1, 8, .inl sv)), (a2, .inl (E.2.2.1, 64, .inl (ldW (fun q => g (o + q)) n j wy 64))), (g0, .inl (E.2.1, Mg, .inl g))] H := hP
        have hD : va_D A [(h0, .inr (4, [.ref a1, .ref a2])), (a1, .inl (E.2.2.1, 8, .inl sv)), (a2, .inl (E.2.2.1, 64, .inl (ldW (fun q => g (o + q)) n j wy 64))), (g0, .inl (E.2.1, Mg, .inl g))] := hD
        refine lv_iload hx hb d_Sha_digest_45 (lv_at hl 0 rfl) ?_
        refine lv_iload hx hb d_Sha_digest_47 (lv_at hl 1 rfl) ?_
        refine j_ne C j ((n + 8) / 64) rfl rfl (by omega) (by omega) d_Sha_digest_49 rfl (fun hc5 => ?_) (fun hc5 => ?_)
        · refine lv_aload_n hx hb d_Sha_digest_63 rfl (lv_at hl 7 rfl) ?_
          refine cal_V (As := []) (rest := []) C lk_Sha_35 (c_Sha_extend l E h0 a1 a2 (ldW (fun q => g (o + q)) n j wy 64)) (by decide) hP hD hS 0 4 rfl rfl [0, 2] rfl (by decide) hl.1 rfl (Nat.le_of_ble_eq_true rfl) d_Sha_digest_64 (fun w1 H locs hp7 hP hD hS => ?_)
          obtain rfl := hp7
          have hP : va_P E.1 clz [(h0, .inr (4, [.ref a1, .ref a2])), (a1, .inl (E.2.2.1, 8, .inl sv)), (a2, .inl (E.2.2.1, 64, .inl (exW (ldW (fun q => g (o + q)) n j wy 64) 48))), (g0, .inl (E.2.1, Mg, .inl g))] H := hP
          have hD : va_D A [(h0, .inr (4, [.ref a1, .ref a2])), (a1, .inl (E.2.2.1, 8, .inl sv)), (a2, .inl (E.2.2.1, 64, .inl (exW (ldW (fun q => g (o + q)) n j wy 64) 48))), (g0, .inl (E.2.1, Mg, .inl g))] := hD
          refine lv_aload_n hx hb d_Sha_digest_67 rfl (lv_at hl 7 rfl) ?_
          refine cal_V (As := []) (rest := []) C lk_Sha_38 (c_Sha_mix l E h0 a1 a2 sv (exW (ldW (fun q => g (o + q)) n j wy 64) 48)) (by decide) hP hD hS 0 4 rfl rfl [0, 1, 2] rfl (by decide) hl.1 rfl (Nat.le_of_ble_eq_true rfl) d_Sha_digest_68 (fun w1 H locs hp9 hP hD hS => ?_)
          obtain rfl := hp9
          have hP : va_P E.1 clz [(h0, .inr (4, [.ref a1, .ref a2])), (a1, .inl (E.2.2.1, 8, .inl (blkF (exW (ldW (fun q => g (o + q)) n j wy 64) 48) sv))), (a2, .inl (E.2.2.1, 64, .inl (exW (ldW (fun q => g (o + q)) n j wy 64) 48))), (g0, .inl (E.2.1, Mg, .inl g))] H := hP
          have hD : va_D A [(h0, .inr (4, [.ref a1, .ref a2])), (a1, .inl (E.2.2.1, 8, .inl (blkF (exW (ldW (fun q => g (o + q)) n j wy 64) 48) sv))), (a2, .inl (E.2.2.1, 64, .inl (exW (ldW (fun q => g (o + q)) n j wy 64) 48))), (g0, .inl (E.2.1, Mg, .inl g))] := hD
          refine lv_iinc (k := 0) (v := nI (j + 1)) (lv' := [(7, .int (nI (j + 1))), (6, .int (nI ((n + 8) / 64))), (5, .int (nI ta)), (4, .ref g0), (3, .int (nI n)), (2, .int (nI o)), (1, .ref g0), (0, .ref h0)]) hx hb d_Sha_digest_71 hl rfl (iincK j 1) (by decide) rfl (fun ls hl => ?_)
          refine lv_goto hx hb d_Sha_digest_74 rfl ?_
          exact ih29 (j + 1) (blkF (exW (ldW (fun q => g (o + q)) n j wy 64) 48) sv) (exW (ldW (fun q => g (o + q)) n j wy 64) 48) H locs ls (by omega) (by omega) (st_step (wds_not (by omega)) hst) hP hD hS (lv_sub hl [0, 1, 2, 3, 4, 5, 6, 7] rfl)
        · refine lv_aload_n hx hb d_Sha_digest_52 rfl (lv_at hl 7 rfl) ?_
          refine n_get C fg_Sha_15 hP 0 rfl rfl d_Sha_digest_53 ?_
          refine lv_bipush (v := nI 15) hx hb d_Sha_digest_56 (by decide) ?_
          refine lv_iload_n hx hb d_Sha_digest_58 rfl (lv_at hl 4 rfl) ?_
          refine lv_bipush (v := nI 8) hx hb d_Sha_digest_59 (by decide) ?_
          refine lv_imul hx hb d_Sha_digest_61 ?_
          refine tope (z := nI (n * 8)) (pk_mul _ _) ?_
          refine n_iast C hP hD hS 2 rfl 15 rfl (by omega) (by omega) d_Sha_digest_62 (fun H locs hP hD hS => ?_)
          have hP : va_P E.1 clz [(h0, .inr (4, [.ref a1, .ref a2])), (a1, .inl (E.2.2.1, 8, .inl sv)), (a2, .inl (E.2.2.1, 64, .inl (upd (ldW (fun q => g (o + q)) n j wy 64) 15 (nI (n * 8))))), (g0, .inl (E.2.1, Mg, .inl g))] H := hP
          have hD : va_D A [(h0, .inr (4, [.ref a1, .ref a2])), (a1, .inl (E.2.2.1, 8, .inl sv)), (a2, .inl (E.2.2.1, 64, .inl (upd (ldW (fun q => g (o + q)) n j wy 64) 15 (nI (n * 8))))), (g0, .inl (E.2.1, Mg, .inl g))] := hD
          refine lv_aload_n hx hb d_Sha_digest_63 rfl (lv_at hl 7 rfl) ?_
          refine cal_V (As := []) (rest := []) C lk_Sha_35 (c_Sha_extend l E h0 a1 a2 (upd (ldW (fun q => g (o + q)) n j wy 64) 15 (nI (n * 8)))) (by decide) hP hD hS 0 4 rfl rfl [0, 2] rfl (by decide) hl.1 rfl (Nat.le_of_ble_eq_true rfl) d_Sha_digest_64 (fun w1 H locs hp11 hP hD hS => ?_)
          obtain rfl := hp11
          have hP : va_P E.1 clz [(h0, .inr (4, [.ref a1, .ref a2])), (a1, .inl (E.2.2.1, 8, .inl sv)), (a2, .inl (E.2.2.1, 64, .inl (exW (upd (ldW (fun q => g (o + q)) n j wy 64) 15 (nI (n * 8))) 48))), (g0, .inl (E.2.1, Mg, .inl g))] H := hP
          have hD : va_D A [(h0, .inr (4, [.ref a1, .ref a2])), (a1, .inl (E.2.2.1, 8, .inl sv)), (a2, .inl (E.2.2.1, 64, .inl (exW (upd (ldW (fun q => g (o + q)) n j wy 64) 15 (nI (n * 8))) 48))), (g0, .inl (E.2.1, Mg, .inl g))] := hD
          refine lv_aload_n hx hb d_Sha_digest_67 rfl (lv_at hl 7 rfl) ?_
          refine cal_V (As := []) (rest := []) C lk_Sha_38 (c_Sha_mix l E h0 a1 a2 sv (exW (upd (ldW (fun q => g (o + q)) n j wy 64) 15 (nI (n * 8))) 48)) (by decide) hP hD hS 0 4 rfl rfl [0, 1, 2] rfl (by decide) hl.1 rfl (Nat.le_of_ble_eq_true rfl) d_Sha_digest_68 (fun w1 H locs hp13 hP hD hS => ?_)
          obtain rfl := hp13
          have hP : va_P E.1 clz [(h0, .inr (4, [.ref a1, .ref a2])), (a1, .inl (E.2.2.1, 8, .inl (blkF (exW (upd (ldW (fun q => g (o + q)) n j wy 64) 15 (nI (n * 8))) 48) sv))), (a2, .inl (E.2.2.1, 64, .inl (exW (upd (ldW (fun q => g (o + q)) n j wy 64) 15 (nI (n * 8))) 48))), (g0, .inl (E.2.1, Mg, .inl g))] H := hP
          have hD : va_D A [(h0, .inr (4, [.ref a1, .ref a2])), (a1, .inl (E.2.2.1, 8, .inl (blkF (exW (upd (ldW (fun q => g (o + q)) n j wy 64) 15 (nI (n * 8))) 48) sv))), (a2, .inl (E.2.2.1, 64, .inl (exW (upd (ldW (fun q => g (o + q)) n j wy 64) 15 (nI (n * 8))) 48))), (g0, .inl (E.2.1, Mg, .inl g))] := hD
          refine lv_iinc (k := 0) (v := nI (j + 1)) (lv' := [(7, .int (nI (j + 1))), (6, .int (nI ((n + 8) / 64))), (5, .int (nI ta)), (4, .ref g0), (3, .int (nI n)), (2, .int (nI o)), (1, .ref g0), (0, .ref h0)]) hx hb d_Sha_digest_71 hl rfl (iincK j 1) (by decide) rfl (fun ls hl => ?_)
          refine lv_goto hx hb d_Sha_digest_74 rfl ?_
          exact ih29 (j + 1) (blkF (exW (upd (ldW (fun q => g (o + q)) n j wy 64) 15 (nI (n * 8))) 48) sv) (exW (upd (ldW (fun q => g (o + q)) n j wy 64) 15 (nI (n * 8))) 48) H locs ls (by omega) (by omega) (st_step (wds_last (by omega)) hst) hP hD hS (lv_sub hl [0, 1, 2, 3, 4, 5, 6, 7] rfl)
  exact hloop29 ((n + 8) / 64 + 1 + 1) 0 (va_cpy shS st 0 0 8) wv H locs ls (by omega) (by omega) (st_0) hP hD hS (lv_sub hl [0, 1, 7, 6, 5, 4, 3, 2] rfl)

set_option maxHeartbeats 4000000 in
set_option maxRecDepth 100000 in
theorem c_Sha_hash (l : Launch) (E : En) (h0 a1 a2 g0 Mg o n ta : Nat) (st wv g : Nat → Int32) (t0 Mt : Nat) (t : Nat → Int32) (hn : o + n ≤ Mg) (hM : Mg < 2 ^ 20) (hta : ta + 32 ≤ Mt) (hMt : Mt < 2 ^ 20) : CtV l y_Sha_hash b_Sha_hash 6 (rmd 2) E [.ref h0, .ref g0, .int (nI o), .int (nI n), .ref t0, .int (nI ta)] [(h0, .inr (4, [.ref a1, .ref a2])), (a1, .inl (E.2.2.1, 8, .inl st)), (a2, .inl (E.2.2.1, 64, .inl wv)), (g0, .inl (E.2.1, Mg, .inl g)), (t0, .inl (E.2.1, Mt, .inl t))] (fun w => ∃ (s1 w1 : Nat → Int32), w = [(h0, .inr (4, [.ref a1, .ref a2])), (a1, .inl (E.2.2.1, 8, .inl s1)), (a2, .inl (E.2.2.1, 64, .inl w1)), (g0, .inl (E.2.1, Mg, .inl g)), (t0, .inl (E.2.1, Mt, .inl (va_cpy (hashF (fun q => g (o + q)) n) t 0 ta 32)))]) := by
  refine CtV.of (by decide) (Nat.le_of_ble_eq_true rfl) ?_
  intro p e s m args below meth c A Q H locs ls C hP hD hS hl kret
  have hx := C.1
  have hb := C.2.1
  have hl : lv_has ls 6 [(0, .ref h0), (1, .ref g0), (2, .int (nI o)), (3, .int (nI n)), (4, .ref t0), (5, .int (nI ta))] := hl
  refine lv_aload_n hx hb d_Sha_hash_0 rfl (lv_at hl 0 rfl) ?_
  refine lv_aload_n hx hb d_Sha_hash_1 rfl (lv_at hl 1 rfl) ?_
  refine lv_iload_n hx hb d_Sha_hash_2 rfl (lv_at hl 2 rfl) ?_
  refine lv_iload_n hx hb d_Sha_hash_3 rfl (lv_at hl 3 rfl) ?_
  refine lv_aload hx hb d_Sha_hash_4 (lv_at hl 4 rfl) ?_
  refine lv_iload hx hb d_Sha_hash_6 (lv_at hl 5 rfl) ?_
  refine cal_V (As := [.ref g0, .int (nI o), .int (nI n), .ref t0, .int (nI ta)]) (rest := []) C lk_Sha_18 (c_Sha_digest l E h0 a1 a2 g0 Mg o n ta st wv g t0 Mt t (by omega) (by omega) (by omega) (by omega)) (by decide) hP hD hS 0 4 rfl rfl [0, 1, 2, 3, 4] rfl (by decide) hl.1 rfl (Nat.le_of_ble_eq_true rfl) d_Sha_hash_8 (fun w1 H locs hp4 hP hD hS => ?_)
  obtain ⟨sv1, wy2, rfl⟩ := hp4
  have hP : va_P E.1 clz [(h0, .inr (4, [.ref a1, .ref a2])), (a1, .inl (E.2.2.1, 8, .inl sv1)), (a2, .inl (E.2.2.1, 64, .inl wy2)), (g0, .inl (E.2.1, Mg, .inl g)), (t0, .inl (E.2.1, Mt, .inl (va_cpy (shaF (fun q => g (o + q)) n) t 0 ta 32)))] H := hP
  have hD : va_D A [(h0, .inr (4, [.ref a1, .ref a2])), (a1, .inl (E.2.2.1, 8, .inl sv1)), (a2, .inl (E.2.2.1, 64, .inl wy2)), (g0, .inl (E.2.1, Mg, .inl g)), (t0, .inl (E.2.1, Mt, .inl (va_cpy (shaF (fun q => g (o + q)) n) t 0 ta 32)))] := hD
  refine lv_aload_n hx hb d_Sha_hash_11 rfl (lv_at hl 0 rfl) ?_
  refine lv_aload hx hb d_Sha_hash_12 (lv_at hl 4 rfl) ?_
  refine lv_iload hx hb d_Sha_hash_14 (lv_at hl 5 rfl) ?_
  refine lv_bipush (v := nI 32) hx hb d_Sha_hash_16 (by decide) ?_
  refine lv_aload hx hb d_Sha_hash_18 (lv_at hl 4 rfl) ?_
  refine lv_iload hx hb d_Sha_hash_20 (lv_at hl 5 rfl) ?_
  refine cal_V (As := [.ref t0, .int (nI ta), .int (nI 32), .ref t0, .int (nI ta)]) (rest := []) C lk_Sha_18 (c_Sha_digestA l E h0 a1 a2 t0 Mt ta 32 ta sv1 wy2 (va_cpy (shaF (fun q => g (o + q)) n) t 0 ta 32) (by omega) (by omega) (by omega)) (by decide) hP hD hS 0 4 rfl rfl [0, 1, 2, 4] rfl (by decide) hl.1 rfl (Nat.le_of_ble_eq_true rfl) d_Sha_hash_22 (fun w1 H locs hp8 hP hD hS => ?_)
  obtain ⟨sv5, wy6, rfl⟩ := hp8
  have hP : va_P E.1 clz [(h0, .inr (4, [.ref a1, .ref a2])), (a1, .inl (E.2.2.1, 8, .inl sv5)), (a2, .inl (E.2.2.1, 64, .inl wy6)), (g0, .inl (E.2.1, Mg, .inl g)), (t0, .inl (E.2.1, Mt, .inl (va_cpy (shaF (fun q => (va_cpy (shaF (fun q => g (o + q)) n) t 0 ta 32) (ta + q)) 32) (va_cpy (shaF (fun q => g (o + q)) n) t 0 ta 32) 0 ta 32)))] H := hP
  have hD : va_D A [(h0, .inr (4, [.ref a1, .ref a2])), (a1, .inl (E.2.2.1, 8, .inl sv5)), (a2, .inl (E.2.2.1, 64, .inl wy6)), (g0, .inl (E.2.1, Mg, .inl g)), (t0, .inl (E.2.1, Mt, .inl (va_cpy (shaF (fun q => (va_cpy (shaF (fun q => g (o + q)) n) t 0 ta 32) (ta + q)) 32) (va_cpy (shaF (fun q => g (o + q)) n) t 0 ta 32) 0 ta 32)))] := hD
  rw [hash_back (shaF (fun q => g (o + q)) n) t ta] at hP hD
  have hP : va_P E.1 clz [(h0, .inr (4, [.ref a1, .ref a2])), (a1, .inl (E.2.2.1, 8, .inl sv5)), (a2, .inl (E.2.2.1, 64, .inl wy6)), (g0, .inl (E.2.1, Mg, .inl g)), (t0, .inl (E.2.1, Mt, .inl (va_cpy (hashF (fun q => g (o + q)) n) t 0 ta 32)))] H := hP
  have hD : va_D A [(h0, .inr (4, [.ref a1, .ref a2])), (a1, .inl (E.2.2.1, 8, .inl sv5)), (a2, .inl (E.2.2.1, 64, .inl wy6)), (g0, .inl (E.2.1, Mg, .inl g)), (t0, .inl (E.2.1, Mt, .inl (va_cpy (hashF (fun q => g (o + q)) n) t 0 ta 32)))] := hD
  exact kret [(h0, .inr (4, [.ref a1, .ref a2])), (a1, .inl (E.2.2.1, 8, .inl sv5)), (a2, .inl (E.2.2.1, 64, .inl wy6)), (g0, .inl (E.2.1, Mg, .inl g)), (t0, .inl (E.2.1, Mt, .inl (va_cpy (hashF (fun q => g (o + q)) n) t 0 ta 32)))] _ _ _ _ d_Sha_hash_25 (⟨_, _, rfl⟩) rfl hP hS

set_option maxHeartbeats 4000000 in
set_option maxRecDepth 100000 in
theorem c_Sha_hashA (l : Launch) (E : En) (h0 a1 a2 g0 Mg o n ta : Nat) (st wv g : Nat → Int32) (hn : o + n ≤ Mg) (hM : Mg < 2 ^ 20) (hta : ta + 32 ≤ Mg) : CtV l y_Sha_hash b_Sha_hash 6 (rmd 2) E [.ref h0, .ref g0, .int (nI o), .int (nI n), .ref g0, .int (nI ta)] [(h0, .inr (4, [.ref a1, .ref a2])), (a1, .inl (E.2.2.1, 8, .inl st)), (a2, .inl (E.2.2.1, 64, .inl wv)), (g0, .inl (E.2.1, Mg, .inl g))] (fun w => ∃ (s1 w1 : Nat → Int32), w = [(h0, .inr (4, [.ref a1, .ref a2])), (a1, .inl (E.2.2.1, 8, .inl s1)), (a2, .inl (E.2.2.1, 64, .inl w1)), (g0, .inl (E.2.1, Mg, .inl (va_cpy (hashF (fun q => g (o + q)) n) g 0 ta 32)))]) := by
  refine CtV.of (by decide) (Nat.le_of_ble_eq_true rfl) ?_
  intro p e s m args below meth c A Q H locs ls C hP hD hS hl kret
  have hx := C.1
  have hb := C.2.1
  have hl : lv_has ls 6 [(0, .ref h0), (1, .ref g0), (2, .int (nI o)), (3, .int (nI n)), (4, .ref g0), (5, .int (nI ta))] := hl
  refine lv_aload_n hx hb d_Sha_hash_0 rfl (lv_at hl 0 rfl) ?_
  refine lv_aload_n hx hb d_Sha_hash_1 rfl (lv_at hl 1 rfl) ?_
  refine lv_iload_n hx hb d_Sha_hash_2 rfl (lv_at hl 2 rfl) ?_
  refine lv_iload_n hx hb d_Sha_hash_3 rfl (lv_at hl 3 rfl) ?_
  refine lv_aload hx hb d_Sha_hash_4 (lv_at hl 4 rfl) ?_
  refine lv_iload hx hb d_Sha_hash_6 (lv_at hl 5 rfl) ?_
  refine cal_V (As := [.ref g0, .int (nI o), .int (nI n), .ref g0, .int (nI ta)]) (rest := []) C lk_Sha_18 (c_Sha_digestA l E h0 a1 a2 g0 Mg o n ta st wv g (by omega) (by omega) (by omega)) (by decide) hP hD hS 0 4 rfl rfl [0, 1, 2, 3] rfl (by decide) hl.1 rfl (Nat.le_of_ble_eq_true rfl) d_Sha_hash_8 (fun w1 H locs hp4 hP hD hS => ?_)
  obtain ⟨sv1, wy2, rfl⟩ := hp4
  have hP : va_P E.1 clz [(h0, .inr (4, [.ref a1, .ref a2])), (a1, .inl (E.2.2.1, 8, .inl sv1)), (a2, .inl (E.2.2.1, 64, .inl wy2)), (g0, .inl (E.2.1, Mg, .inl (va_cpy (shaF (fun q => g (o + q)) n) g 0 ta 32)))] H := hP
  have hD : va_D A [(h0, .inr (4, [.ref a1, .ref a2])), (a1, .inl (E.2.2.1, 8, .inl sv1)), (a2, .inl (E.2.2.1, 64, .inl wy2)), (g0, .inl (E.2.1, Mg, .inl (va_cpy (shaF (fun q => g (o + q)) n) g 0 ta 32)))] := hD
  refine lv_aload_n hx hb d_Sha_hash_11 rfl (lv_at hl 0 rfl) ?_
  refine lv_aload hx hb d_Sha_hash_12 (lv_at hl 4 rfl) ?_
  refine lv_iload hx hb d_Sha_hash_14 (lv_at hl 5 rfl) ?_
  refine lv_bipush (v := nI 32) hx hb d_Sha_hash_16 (by decide) ?_
  refine lv_aload hx hb d_Sha_hash_18 (lv_at hl 4 rfl) ?_
  refine lv_iload hx hb d_Sha_hash_20 (lv_at hl 5 rfl) ?_
  refine cal_V (As := [.ref g0, .int (nI ta), .int (nI 32), .ref g0, .int (nI ta)]) (rest := []) C lk_Sha_18 (c_Sha_digestA l E h0 a1 a2 g0 Mg ta 32 ta sv1 wy2 (va_cpy (shaF (fun q => g (o + q)) n) g 0 ta 32) (by omega) (by omega) (by omega)) (by decide) hP hD hS 0 4 rfl rfl [0, 1, 2, 3] rfl (by decide) hl.1 rfl (Nat.le_of_ble_eq_true rfl) d_Sha_hash_22 (fun w1 H locs hp8 hP hD hS => ?_)
  obtain ⟨sv5, wy6, rfl⟩ := hp8
  have hP : va_P E.1 clz [(h0, .inr (4, [.ref a1, .ref a2])), (a1, .inl (E.2.2.1, 8, .inl sv5)), (a2, .inl (E.2.2.1, 64, .inl wy6)), (g0, .inl (E.2.1, Mg, .inl (va_cpy (shaF (fun q => (va_cpy (shaF (fun q => g (o + q)) n) g 0 ta 32) (ta + q)) 32) (va_cpy (shaF (fun q => g (o + q)) n) g 0 ta 32) 0 ta 32)))] H := hP
  have hD : va_D A [(h0, .inr (4, [.ref a1, .ref a2])), (a1, .inl (E.2.2.1, 8, .inl sv5)), (a2, .inl (E.2.2.1, 64, .inl wy6)), (g0, .inl (E.2.1, Mg, .inl (va_cpy (shaF (fun q => (va_cpy (shaF (fun q => g (o + q)) n) g 0 ta 32) (ta + q)) 32) (va_cpy (shaF (fun q => g (o + q)) n) g 0 ta 32) 0 ta 32)))] := hD
  rw [hash_back (shaF (fun q => g (o + q)) n) g ta] at hP hD
  have hP : va_P E.1 clz [(h0, .inr (4, [.ref a1, .ref a2])), (a1, .inl (E.2.2.1, 8, .inl sv5)), (a2, .inl (E.2.2.1, 64, .inl wy6)), (g0, .inl (E.2.1, Mg, .inl (va_cpy (hashF (fun q => g (o + q)) n) g 0 ta 32)))] H := hP
  have hD : va_D A [(h0, .inr (4, [.ref a1, .ref a2])), (a1, .inl (E.2.2.1, 8, .inl sv5)), (a2, .inl (E.2.2.1, 64, .inl wy6)), (g0, .inl (E.2.1, Mg, .inl (va_cpy (hashF (fun q => g (o + q)) n) g 0 ta 32)))] := hD
  exact kret [(h0, .inr (4, [.ref a1, .ref a2])), (a1, .inl (E.2.2.1, 8, .inl sv5)), (a2, .inl (E.2.2.1, 64, .inl wy6)), (g0, .inl (E.2.1, Mg, .inl (va_cpy (hashF (fun q => g (o + q)) n) g 0 ta 32)))] _ _ _ _ d_Sha_hash_25 (⟨_, _, rfl⟩) rfl hP hS

set_option maxHeartbeats 4000000 in
set_option maxRecDepth 100000 in
theorem c_Sig_make (l : Launch) (E : En) (s0 m0 d0 x0 h0 a1 a2 g0 Mg o n : Nat) (mf df xf st wv g : Nat → Int32) (hn : o + n ≤ Mg) (hM : Mg < 2 ^ 20) (hn80 : n ≤ 80) (hB : fB g) (hBm : fB mf) : CtV l y_Sig_make b_Sig_make 4 (rmd 3) E [.ref s0, .ref g0, .int (nI o), .int (nI n)] [(s0, .inr (5, [.ref m0, .ref d0, .ref h0, .ref x0])), (m0, .inl (E.2.1, 32, .inl mf)), (d0, .inl (E.2.1, 32, .inl df)), (x0, .inl (E.2.1, 112, .inl xf)), (h0, .inr (4, [.ref a1, .ref a2])), (a1, .inl (E.2.2.1, 8, .inl st)), (a2, .inl (E.2.2.1, 64, .inl wv)), (g0, .inl (E.2.1, Mg, .inl g))] (fun w => ∃ (s1 w1 : Nat → Int32), w = [(s0, .inr (5, [.ref m0, .ref d0, .ref h0, .ref x0])), (m0, .inl (E.2.1, 32, .inl mf)), (d0, .inl (E.2.1, 32, .inl (va_cpy (hashF (fun q => (va_cpy mf (va_cpy g xf o 0 n) 0 n 32) (0 + q)) (n + 32)) df 0 0 32))), (x0, .inl (E.2.1, 112, .inl (va_cpy mf (va_cpy g xf o 0 n) 0 n 32))), (h0, .inr (4, [.ref a1, .ref a2])), (a1, .inl (E.2.2.1, 8, .inl s1)), (a2, .inl (E.2.2.1, 64, .inl w1)), (g0, .inl (E.2.1, Mg, .inl g))]) := by
  refine CtV.of (by decide) (Nat.le_of_ble_eq_true rfl) ?_
  intro p e s m args below meth c A Q H locs ls C hP hD hS hl kret
  have hx := C.1
  have hb := C.2.1
  have hl : lv_has ls 4 [(0, .ref s0), (1, .ref g0), (2, .int (nI o)), (3, .int (nI n))] := hl
  refine lv_aload_n hx hb d_Sig_make_0 rfl (lv_at hl 1 rfl) ?_
  refine lv_iload_n hx hb d_Sig_make_1 rfl (lv_at hl 2 rfl) ?_
  refine lv_aload_n hx hb d_Sig_make_2 rfl (lv_at hl 0 rfl) ?_
  refine n_get C fg_Sig_25 hP 0 rfl rfl d_Sig_make_3 ?_
  refine lv_iconst (v := nI 0) hx hb d_Sig_make_6 (by decide) ?_
  refine lv_iload_n hx hb d_Sig_make_7 rfl (lv_at hl 3 rfl) ?_
  refine n_cpy C lk_Sig_28 hP hD hS 7 3 rfl rfl o 0 n rfl rfl rfl (by omega) (by omega) ⟨by omega, by omega⟩ (hB) hl.1 (by decide) (by decide) d_Sig_make_8 (fun H locs hP hD hS => ?_)
  have hP : va_P E.1 clz [(s0, .inr (5, [.ref m0, .ref d0, .ref h0, .ref x0])), (m0, .inl (E.2.1, 32, .inl mf)), (d0, .inl (E.2.1, 32, .inl df)), (x0, .inl (E.2.1, 112, .inl (va_cpy g xf o 0 n))), (h0, .inr (4, [.ref a1, .ref a2])), (a1, .inl (E.2.2.1, 8, .inl st)), (a2, .inl (E.2.2.1, 64, .inl wv)), (g0, .inl (E.2.1, Mg, .inl g))] H := hP
  have hD : va_D A [(s0, .inr (5, [.ref m0, .ref d0, .ref h0, .ref x0])), (m0, .inl (E.2.1, 32, .inl mf)), (d0, .inl (E.2.1, 32, .inl df)), (x0, .inl (E.2.1, 112, .inl (va_cpy g xf o 0 n))), (h0, .inr (4, [.ref a1, .ref a2])), (a1, .inl (E.2.2.1, 8, .inl st)), (a2, .inl (E.2.2.1, 64, .inl wv)), (g0, .inl (E.2.1, Mg, .inl g))] := hD
  refine lv_aload_n hx hb d_Sig_make_11 rfl (lv_at hl 0 rfl) ?_
  refine n_get C fg_Sig_18 hP 0 rfl rfl d_Sig_make_12 ?_
  refine lv_iconst (v := nI 0) hx hb d_Sig_make_15 (by decide) ?_
  refine lv_aload_n hx hb d_Sig_make_16 rfl (lv_at hl 0 rfl) ?_
  refine n_get C fg_Sig_25 hP 0 rfl rfl d_Sig_make_17 ?_
  refine lv_iload_n hx hb d_Sig_make_20 rfl (lv_at hl 3 rfl) ?_
  refine lv_bipush (v := nI 32) hx hb d_Sig_make_21 (by decide) ?_
  refine n_cpy C lk_Sig_28 hP hD hS 1 3 rfl rfl 0 n 32 rfl rfl rfl (by omega) (by omega) ⟨by omega, by omega⟩ (hBm) hl.1 (by decide) (by decide) d_Sig_make_23 (fun H locs hP hD hS => ?_)
  have hP : va_P E.1 clz [(s0, .inr (5, [.ref m0, .ref d0, .ref h0, .ref x0])), (m0, .inl (E.2.1, 32, .inl mf)), (d0, .inl (E.2.1, 32, .inl df)), (x0, .inl (E.2.1, 112, .inl (va_cpy mf (va_cpy g xf o 0 n) 0 n 32))), (h0, .inr (4, [.ref a1, .ref a2])), (a1, .inl (E.2.2.1, 8, .inl st)), (a2, .inl (E.2.2.1, 64, .inl wv)), (g0, .inl (E.2.1, Mg, .inl g))] H := hP
  have hD : va_D A [(s0, .inr (5, [.ref m0, .ref d0, .ref h0, .ref x0])), (m0, .inl (E.2.1, 32, .inl mf)), (d0, .inl (E.2.1, 32, .inl df)), (x0, .inl (E.2.1, 112, .inl (va_cpy mf (va_cpy g xf o 0 n) 0 n 32))), (h0, .inr (4, [.ref a1, .ref a2])), (a1, .inl (E.2.2.1, 8, .inl st)), (a2, .inl (E.2.2.1, 64, .inl wv)), (g0, .inl (E.2.1, Mg, .inl g))] := hD
  refine lv_aload_n hx hb d_Sig_make_26 rfl (lv_at hl 0 rfl) ?_
  refine n_get C fg_Sig_12 hP 0 rfl rfl d_Sig_make_27 ?_
  refine lv_aload_n hx hb d_Sig_make_30 rfl (lv_at hl 0 rfl) ?_
  refine n_get C fg_Sig_25 hP 0 rfl rfl d_Sig_make_31 ?_
  refine lv_iconst (v := nI 0) hx hb d_Sig_make_34 (by decide) ?_
  refine lv_iload_n hx hb d_Sig_make_35 rfl (lv_at hl 3 rfl) ?_
  refine lv_bipush (v := nI 32) hx hb d_Sig_make_36 (by decide) ?_
  refine lv_iadd hx hb d_Sig_make_38 ?_
  refine tope (z := nI (n + 32)) (nI_add _ _) ?_
  refine lv_aload_n hx hb d_Sig_make_39 rfl (lv_at hl 0 rfl) ?_
  refine n_get C fg_Sig_22 hP 0 rfl rfl d_Sig_make_40 ?_
  refine lv_iconst (v := nI 0) hx hb d_Sig_make_43 (by decide) ?_
  refine cal_V (As := [.ref x0, .int (nI 0), .int (nI (n + 32)), .ref d0, .int (nI 0)]) (rest := []) C lk_Sig_34 (c_Sha_hash l E h0 a1 a2 x0 112 0 (n + 32) 0 st wv (va_cpy mf (va_cpy g xf o 0 n) 0 n 32) d0 32 df (by omega) (by omega) (by omega) (by omega)) (by decide) hP hD hS 4 4 rfl rfl [4, 5, 6, 3, 2] rfl (by decide) hl.1 rfl (Nat.le_of_ble_eq_true rfl) d_Sig_make_44 (fun w1 H locs hp4 hP hD hS => ?_)
  obtain ⟨sv1, wy2, rfl⟩ := hp4
  have hP : va_P E.1 clz [(s0, .inr (5, [.ref m0, .ref d0, .ref h0, .ref x0])), (m0, .inl (E.2.1, 32, .inl mf)), (d0, .inl (E.2.1, 32, .inl (va_cpy (hashF (fun q => (va_cpy mf (va_cpy g xf o 0 n) 0 n 32) (0 + q)) (n + 32)) df 0 0 32))), (x0, .inl (E.2.1, 112, .inl (va_cpy mf (va_cpy g xf o 0 n) 0 n 32))), (h0, .inr (4, [.ref a1, .ref a2])), (a1, .inl (E.2.2.1, 8, .inl sv1)), (a2, .inl (E.2.2.1, 64, .inl wy2)), (g0, .inl (E.2.1, Mg, .inl g))] H := hP
  have hD : va_D A [(s0, .inr (5, [.ref m0, .ref d0, .ref h0, .ref x0])), (m0, .inl (E.2.1, 32, .inl mf)), (d0, .inl (E.2.1, 32, .inl (va_cpy (hashF (fun q => (va_cpy mf (va_cpy g xf o 0 n) 0 n 32) (0 + q)) (n + 32)) df 0 0 32))), (x0, .inl (E.2.1, 112, .inl (va_cpy mf (va_cpy g xf o 0 n) 0 n 32))), (h0, .inr (4, [.ref a1, .ref a2])), (a1, .inl (E.2.2.1, 8, .inl sv1)), (a2, .inl (E.2.2.1, 64, .inl wy2)), (g0, .inl (E.2.1, Mg, .inl g))] := hD
  exact kret [(s0, .inr (5, [.ref m0, .ref d0, .ref h0, .ref x0])), (m0, .inl (E.2.1, 32, .inl mf)), (d0, .inl (E.2.1, 32, .inl (va_cpy (hashF (fun q => (va_cpy mf (va_cpy g xf o 0 n) 0 n 32) (0 + q)) (n + 32)) df 0 0 32))), (x0, .inl (E.2.1, 112, .inl (va_cpy mf (va_cpy g xf o 0 n) 0 n 32))), (h0, .inr (4, [.ref a1, .ref a2])), (a1, .inl (E.2.2.1, 8, .inl sv1)), (a2, .inl (E.2.2.1, 64, .inl wy2)), (g0, .inl (E.2.1, Mg, .inl g))] _ _ _ _ d_Sig_make_47 (⟨_, _, rfl⟩) rfl hP hS
