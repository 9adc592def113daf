set_option maxHeartbeats 4000000 in
set_option maxRecDepth 100000 in
theorem c_Mod_many (l : Launch) (E : En) (y0 ya yo ym yl yg yw yh yc yd yb yk yz yr nt no : Nat) (fl : Bool) (k5 k6 k7 k8 k9 kb f sz : Nat → Int32) (S : Stk) (msg : Byl) (hrep : rep f sz S) (hB : fB f) (hB5 : fB k5) (hlen : S.length ≤ 24) (hm : lay k5 0 msg) (hm32 : msg.length = 32) (ht : Int32) : CtI l y_Mod_many b_Mod_many 9 .boolean (rmd 4) E [.ref y0] [(y0, .inr (7, [.ref ya, .int (nI nt), .ref yo, .int (nI no), .ref ym, .ref yl, .ref yg, .ref yw, .ref yh, .ref yc, .ref yd, .ref yb, .ref yk, .ref yz, .int (nI S.length), .int (b2 fl), .ref yr])), (yg, .inl (E.2.1, 32, .inl k5)), (yw, .inl (E.2.2.1, 64, .inl k6)), (yh, .inl (E.2.2.1, 8, .inl k7)), (yc, .inl (E.2.1, 32, .inl k8)), (yd, .inl (E.2.1, 32, .inl k9)), (yb, .inl (E.2.1, 512, .inl kb)), (yk, .inl (E.2.1, 1920, .inl f)), (yz, .inl (E.2.2.1, 24, .inl sz))] (stepM E y0 ya yo ym yl yg yw yh yc yd yb yk yz yr nt no fl k5 (manyS msg S)) := by
  refine CtI.of (by decide) (Nat.le_of_ble_eq_true rfl) (stepM_nar) ?_
  intro p e s m args below meth c A Q H locs ls C hP hD hS hl kret
  have hx := C.1
  have hb := C.2.1
  have hl : lv_has ls 9 [(0, .ref y0)] := hl
  rcases Nat.eq_zero_or_pos S.length with hs0 | hs0
  · rw [hs0] at hP hD
    have hP : va_P E.1 clz [(y0, .inr (7, [.ref ya, .int (nI nt), .ref yo, .int (nI no), .ref ym, .ref yl, .ref yg, .ref yw, .ref yh, .ref yc, .ref yd, .ref yb, .ref yk, .ref yz, .int (nI 0), .int (b2 fl), .ref yr])), (yg, .inl (E.2.1, 32, .inl k5)), (yw, .inl (E.2.2.1, 64, .inl k6)), (yh, .inl (E.2.2.1, 8, .inl k7)), (yc, .inl (E.2.1, 32, .inl k8)), (yd, .inl (E.2.1, 32, .inl k9)), (yb, .inl (E.2.1, 512, .inl kb)), (yk, .inl (E.2.1, 1920, .inl f)), (yz, .inl (E.2.2.1, 24, .inl sz))] H := hP
    have hD : va_D A [(y0, .inr (7, [.ref ya, .int (nI nt), .ref yo, .int (nI no), .ref ym, .ref yl, .ref yg, .ref yw, .ref yh, .ref yc, .ref yd, .ref yb, .ref yk, .ref yz, .int (nI 0), .int (b2 fl), .ref yr])), (yg, .inl (E.2.1, 32, .inl k5)), (yw, .inl (E.2.2.1, 64, .inl k6)), (yh, .inl (E.2.2.1, 8, .inl k7)), (yc, .inl (E.2.1, 32, .inl k8)), (yd, .inl (E.2.1, 32, .inl k9)), (yb, .inl (E.2.1, 512, .inl kb)), (yk, .inl (E.2.1, 1920, .inl f)), (yz, .inl (E.2.2.1, 24, .inl sz))] := hD
    refine lv_aload_n hx hb d_Mod_many_0 rfl (lv_at hl 0 rfl) ?_
    refine n_get C fg_Mod_66 hP 0 rfl rfl d_Mod_many_1 ?_
    refine lv_iconst (v := nI 1) hx hb d_Mod_many_4 (by decide) ?_
    refine j_lt C 0 1 rfl rfl (by decide) (by decide) d_Mod_many_5 rfl (fun hc1 => ?_) (fun hc1 => absurd hc1 (by decide))
    refine lv_iconst (v := nI 0) hx hb d_Mod_many_23 (by decide) ?_
    exact kret (nI 0) [(y0, .inr (7, [.ref ya, .int (nI nt), .ref yo, .int (nI no), .ref ym, .ref yl, .ref yg, .ref yw, .ref yh, .ref yc, .ref yd, .ref yb, .ref yk, .ref yz, .int (nI 0), .int (b2 fl), .ref yr])), (yg, .inl (E.2.1, 32, .inl k5)), (yw, .inl (E.2.2.1, 64, .inl k6)), (yh, .inl (E.2.2.1, 8, .inl k7)), (yc, .inl (E.2.1, 32, .inl k8)), (yd, .inl (E.2.1, 32, .inl k9)), (yb, .inl (E.2.1, 512, .inl kb)), (yk, .inl (E.2.1, 1920, .inl f)), (yz, .inl (E.2.2.1, 24, .inl sz))] _ _ _ _ d_Mod_many_24 (⟨_, _, _, _, _, _, _, _, rfl, hB, Or.inr ⟨many_0 hs0, rfl⟩⟩) rfl hP hS
  · obtain ⟨n, hn⟩ : ∃ n, S.length = n + 1 := ⟨S.length - 1, by omega⟩
    rw [hn] at hP hD
    have hP : va_P E.1 clz [(y0, .inr (7, [.ref ya, .int (nI nt), .ref yo, .int (nI no), .ref ym, .ref yl, .ref yg, .ref yw, .ref yh, .ref yc, .ref yd, .ref yb, .ref yk, .ref yz, .int (nI (n + 1)), .int (b2 fl), .ref yr])), (yg, .inl (E.2.1, 32, .inl k5)), (yw, .inl (E.2.2.1, 64, .inl k6)), (yh, .inl (E.2.2.1, 8, .inl k7)), (yc, .inl (E.2.1, 32, .inl k8)), (yd, .inl (E.2.1, 32, .inl k9)), (yb, .inl (E.2.1, 512, .inl kb)), (yk, .inl (E.2.1, 1920, .inl f)), (yz, .inl (E.2.2.1, 24, .inl sz))] H := hP
    have hD : va_D A [(y0, .inr (7, [.ref ya, .int (nI nt), .ref yo, .int (nI no), .ref ym, .ref yl, .ref yg, .ref yw, .ref yh, .ref yc, .ref yd, .ref yb, .ref yk, .ref yz, .int (nI (n + 1)), .int (b2 fl), .ref yr])), (yg, .inl (E.2.1, 32, .inl k5)), (yw, .inl (E.2.2.1, 64, .inl k6)), (yh, .inl (E.2.2.1, 8, .inl k7)), (yc, .inl (E.2.1, 32, .inl k8)), (yd, .inl (E.2.1, 32, .inl k9)), (yb, .inl (E.2.1, 512, .inl kb)), (yk, .inl (E.2.1, 1920, .inl f)), (yz, .inl (E.2.2.1, 24, .inl sz))] := hD
    have hX := hrep n (by omega)
    refine lv_aload_n hx hb d_Mod_many_0 rfl (lv_at hl 0 rfl) ?_
    refine n_get C fg_Mod_66 hP 0 rfl rfl d_Mod_many_1 ?_
    refine lv_iconst (v := nI 1) hx hb d_Mod_many_4 (by decide) ?_
    refine j_lt C (n + 1) 1 rfl rfl (by omega) (by omega) d_Mod_many_5 rfl (fun hc2 => absurd hc2 (by omega)) (fun hc2 => ?_)
    refine lv_aload_n hx hb d_Mod_many_8 rfl (lv_at hl 0 rfl) ?_
    refine n_get C fg_Mod_44 hP 0 rfl rfl d_Mod_many_9 ?_
    refine lv_aload_n hx hb d_Mod_many_12 rfl (lv_at hl 0 rfl) ?_
    refine n_get C fg_Mod_66 hP 0 rfl rfl d_Mod_many_13 ?_
    refine lv_iconst (v := nI 1) hx hb d_Mod_many_16 (by decide) ?_
    refine lv_isub hx hb d_Mod_many_17 ?_
    refine tope (z := nI n) ((pk_sub (by omega)).trans (congrArg nI (by omega))) ?_
    refine n_iald C hP 8 rfl n rfl (by omega) (by omega) d_Mod_many_18 ?_
    refine tope (z := nI ((el S n).length)) (hX.1) ?_
    refine lv_iconst (v := nI 4) hx hb d_Mod_many_19 (by decide) ?_
    refine j_le C ((el S n).length) 4 rfl rfl (by omega) (by omega) d_Mod_many_20 rfl (fun hc3 => ?_) (fun hc3 => ?_)
    · have h4 : (el S n).length ≤ 4 := by omega
      refine lv_aload_n hx hb d_Mod_many_25 rfl (lv_at hl 0 rfl) ?_
      refine lv_aload_n hx hb d_Mod_many_26 rfl (lv_at hl 0 rfl) ?_
      refine n_get C fg_Mod_66 hP 0 rfl rfl d_Mod_many_27 ?_
      refine lv_iconst (v := nI 1) hx hb d_Mod_many_30 (by decide) ?_
      refine lv_isub hx hb d_Mod_many_31 ?_
      refine tope (z := nI n) ((pk_sub (by omega)).trans (congrArg nI (by omega))) ?_
      refine cal_I (As := [.int (nI n)]) (rest := []) C lk_Mod_81 (c_Mod_numberOf l E y0 ya yo ym yl yg yw yh yc yd yb yk yz yr nt no (n + 1) fl f sz n (el S n) (by omega) hX.1 hX.2.1 hX.2.2 hB) (by decide) hP hD hS 0 7 rfl rfl [0, 7, 8] rfl (by decide) hl.1 rfl (Nat.le_of_ble_eq_true rfl) d_Mod_many_32 (fun r4 w1 H locs hp5 hP hD hS => ?_)
      obtain ⟨rfl, rfl⟩ := hp5
      have hP : va_P E.1 clz [(y0, .inr (7, [.ref ya, .int (nI nt), .ref yo, .int (nI no), .ref ym, .ref yl, .ref yg, .ref yw, .ref yh, .ref yc, .ref yd, .ref yb, .ref yk, .ref yz, .int (nI (n + 1)), .int (b2 fl), .ref yr])), (yg, .inl (E.2.1, 32, .inl k5)), (yw, .inl (E.2.2.1, 64, .inl k6)), (yh, .inl (E.2.2.1, 8, .inl k7)), (yc, .inl (E.2.1, 32, .inl k8)), (yd, .inl (E.2.1, 32, .inl k9)), (yb, .inl (E.2.1, 512, .inl kb)), (yk, .inl (E.2.1, 1920, .inl f)), (yz, .inl (E.2.2.1, 24, .inl sz))] H := hP
      have hD : va_D A [(y0, .inr (7, [.ref ya, .int (nI nt), .ref yo, .int (nI no), .ref ym, .ref yl, .ref yg, .ref yw, .ref yh, .ref yc, .ref yd, .ref yb, .ref yk, .ref yz, .int (nI (n + 1)), .int (b2 fl), .ref yr])), (yg, .inl (E.2.1, 32, .inl k5)), (yw, .inl (E.2.2.1, 64, .inl k6)), (yh, .inl (E.2.2.1, 8, .inl k7)), (yc, .inl (E.2.1, 32, .inl k8)), (yd, .inl (E.2.1, 32, .inl k9)), (yb, .inl (E.2.1, 512, .inl kb)), (yk, .inl (E.2.1, 1920, .inl f)), (yz, .inl (E.2.2.1, 24, .inl sz))] := hD
      refine lv_istore_n (lv' := [(1, .int (numL (el S n))), (0, .ref y0)]) hx hb d_Mod_many_35 rfl hl (by decide) rfl (fun ls hl => ?_)
      refine lv_iload_n hx hb d_Mod_many_36 rfl (lv_at hl 0 rfl) ?_
      refine lv_if_lt hx hb d_Mod_many_37 rfl (fun hc6 => ?_) (fun hc6 => ?_)
      · refine lv_iconst (v := nI 0) hx hb d_Mod_many_56 (by decide) ?_
        exact kret (nI 0) [(y0, .inr (7, [.ref ya, .int (nI nt), .ref yo, .int (nI no), .ref ym, .ref yl, .ref yg, .ref yw, .ref yh, .ref yc, .ref yd, .ref yb, .ref yk, .ref yz, .int (nI (n + 1)), .int (b2 fl), .ref yr])), (yg, .inl (E.2.1, 32, .inl k5)), (yw, .inl (E.2.2.1, 64, .inl k6)), (yh, .inl (E.2.2.1, 8, .inl k7)), (yc, .inl (E.2.1, 32, .inl k8)), (yd, .inl (E.2.1, 32, .inl k9)), (yb, .inl (E.2.1, 512, .inl kb)), (yk, .inl (E.2.1, 1920, .inl f)), (yz, .inl (E.2.2.1, 24, .inl sz))] _ _ _ _ d_Mod_many_57 (⟨_, _, _, _, _, _, _, _, rfl, hB, Or.inr ⟨many_kbad hn h4 (Or.inl hc6), rfl⟩⟩) rfl hP hS
      · refine lv_iload_n hx hb d_Mod_many_40 rfl (lv_at hl 0 rfl) ?_
        refine lv_bipush (v := nI 8) hx hb d_Mod_many_41 (by decide) ?_
        refine lv_icmp_gt hx hb d_Mod_many_43 rfl (fun hc7 => ?_) (fun hc7 => ?_)
        · refine lv_iconst (v := nI 0) hx hb d_Mod_many_56 (by decide) ?_
          exact kret (nI 0) [(y0, .inr (7, [.ref ya, .int (nI nt), .ref yo, .int (nI no), .ref ym, .ref yl, .ref yg, .ref yw, .ref yh, .ref yc, .ref yd, .ref yb, .ref yk, .ref yz, .int (nI (n + 1)), .int (b2 fl), .ref yr])), (yg, .inl (E.2.1, 32, .inl k5)), (yw, .inl (E.2.2.1, 64, .inl k6)), (yh, .inl (E.2.2.1, 8, .inl k7)), (yc, .inl (E.2.1, 32, .inl k8)), (yd, .inl (E.2.1, 32, .inl k9)), (yb, .inl (E.2.1, 512, .inl kb)), (yk, .inl (E.2.1, 1920, .inl f)), (yz, .inl (E.2.2.1, 24, .inl sz))] _ _ _ _ d_Mod_many_57 (⟨_, _, _, _, _, _, _, _, rfl, hB, Or.inr ⟨many_kbad hn h4 (Or.inr hc7), rfl⟩⟩) rfl hP hS
        · obtain ⟨k, hk8, hk⟩ := nI_of2 (M := nI 8) (n := 8) (by decide) hc6 (Int32.not_lt.mp hc7)
          have hl : lv_has ls 9 [(1, .int (nI k)), (0, .ref y0)] := by rw [← hk]; exact hl
          refine lv_aload_n hx hb d_Mod_many_46 rfl (lv_at hl 1 rfl) ?_
          refine n_get C fg_Mod_66 hP 0 rfl rfl d_Mod_many_47 ?_
          refine lv_iload_n hx hb d_Mod_many_50 rfl (lv_at hl 0 rfl) ?_
          refine lv_iconst (v := nI 2) hx hb d_Mod_many_51 (by decide) ?_
          refine lv_iadd hx hb d_Mod_many_52 ?_
          refine tope (z := nI (k + 2)) (nI_add _ _) ?_
          refine j_ge C (n + 1) (k + 2) rfl rfl (by omega) (by omega) d_Mod_many_53 rfl (fun hc8 => ?_) (fun hc8 => ?_)
          · have hkn : k < n := by omega
            have hY := hrep ((n - k) - 1) (by omega)
            refine lv_aload_n hx hb d_Mod_many_58 rfl (lv_at hl 1 rfl) ?_
            refine n_get C fg_Mod_66 hP 0 rfl rfl d_Mod_many_59 ?_
            refine lv_iconst (v := nI 1) hx hb d_Mod_many_62 (by decide) ?_
            refine lv_isub hx hb d_Mod_many_63 ?_
            refine tope (z := nI n) ((pk_sub (by omega)).trans (congrArg nI (by omega))) ?_
            refine lv_iload_n hx hb d_Mod_many_64 rfl (lv_at hl 0 rfl) ?_
            refine lv_isub hx hb d_Mod_many_65 ?_
            refine tope (z := nI (n - k)) (pk_sub (by omega)) ?_
            refine lv_istore_n (lv' := [(2, .int (nI (n - k))), (1, .int (nI k)), (0, .ref y0)]) hx hb d_Mod_many_66 rfl hl (by decide) rfl (fun ls hl => ?_)
            refine lv_aload_n hx hb d_Mod_many_67 rfl (lv_at hl 2 rfl) ?_
            refine n_get C fg_Mod_44 hP 0 rfl rfl d_Mod_many_68 ?_
            refine lv_iload_n hx hb d_Mod_many_71 rfl (lv_at hl 0 rfl) ?_
            refine lv_iconst (v := nI 1) hx hb d_Mod_many_72 (by decide) ?_
            refine lv_isub hx hb d_Mod_many_73 ?_
            refine tope (z := nI ((n - k) - 1)) (pk_sub (by omega)) ?_
            refine n_iald C hP 8 rfl ((n - k) - 1) rfl (by omega) (by omega) d_Mod_many_74 ?_
            refine tope (z := nI ((el S ((n - k) - 1)).length)) (hY.1) ?_
            refine lv_iconst (v := nI 4) hx hb d_Mod_many_75 (by decide) ?_
            refine j_le C ((el S ((n - k) - 1)).length) 4 rfl rfl (by omega) (by omega) d_Mod_many_76 rfl (fun hc9 => ?_) (fun hc9 => ?_)
            · have hy4 : (el S ((n - k) - 1)).length ≤ 4 := by omega
              refine lv_aload_n hx hb d_Mod_many_81 rfl (lv_at hl 2 rfl) ?_
              refine lv_iload_n hx hb d_Mod_many_82 rfl (lv_at hl 0 rfl) ?_
              refine lv_iconst (v := nI 1) hx hb d_Mod_many_83 (by decide) ?_
              refine lv_isub hx hb d_Mod_many_84 ?_
              refine tope (z := nI ((n - k) - 1)) (pk_sub (by omega)) ?_
              refine cal_I (As := [.int (nI ((n - k) - 1))]) (rest := []) C lk_Mod_81 (c_Mod_numberOf l E y0 ya yo ym yl yg yw yh yc yd yb yk yz yr nt no (n + 1) fl f sz ((n - k) - 1) (el S ((n - k) - 1)) (by omega) hY.1 hY.2.1 hY.2.2 hB) (by decide) hP hD hS 0 7 rfl rfl [0, 7, 8] rfl (by decide) hl.1 rfl (Nat.le_of_ble_eq_true rfl) d_Mod_many_85 (fun r10 w1 H locs hp11 hP hD hS => ?_)
              obtain ⟨rfl, rfl⟩ := hp11
              have hP : va_P E.1 clz [(y0, .inr (7, [.ref ya, .int (nI nt), .ref yo, .int (nI no), .ref ym, .ref yl, .ref yg, .ref yw, .ref yh, .ref yc, .ref yd, .ref yb, .ref yk, .ref yz, .int (nI (n + 1)), .int (b2 fl), .ref yr])), (yg, .inl (E.2.1, 32, .inl k5)), (yw, .inl (E.2.2.1, 64, .inl k6)), (yh, .inl (E.2.2.1, 8, .inl k7)), (yc, .inl (E.2.1, 32, .inl k8)), (yd, .inl (E.2.1, 32, .inl k9)), (yb, .inl (E.2.1, 512, .inl kb)), (yk, .inl (E.2.1, 1920, .inl f)), (yz, .inl (E.2.2.1, 24, .inl sz))] H := hP
              have hD : va_D A [(y0, .inr (7, [.ref ya, .int (nI nt), .ref yo, .int (nI no), .ref ym, .ref yl, .ref yg, .ref yw, .ref yh, .ref yc, .ref yd, .ref yb, .ref yk, .ref yz, .int (nI (n + 1)), .int (b2 fl), .ref yr])), (yg, .inl (E.2.1, 32, .inl k5)), (yw, .inl (E.2.2.1, 64, .inl k6)), (yh, .inl (E.2.2.1, 8, .inl k7)), (yc, .inl (E.2.1, 32, .inl k8)), (yd, .inl (E.2.1, 32, .inl k9)), (yb, .inl (E.2.1, 512, .inl kb)), (yk, .inl (E.2.1, 1920, .inl f)), (yz, .inl (E.2.2.1, 24, .inl sz))] := hD
              refine lv_istore_n (lv' := [(3, .int (numL (el S ((n - k) - 1)))), (2, .int (nI (n - k))), (1, .int (nI k)), (0, .ref y0)]) hx hb d_Mod_many_88 rfl hl (by decide) rfl (fun ls hl => ?_)
              refine lv_iload_n hx hb d_Mod_many_89 rfl (lv_at hl 0 rfl) ?_
              refine lv_if_lt hx hb d_Mod_many_90 rfl (fun hc12 => ?_) (fun hc12 => ?_)
              · refine lv_iconst (v := nI 0) hx hb d_Mod_many_105 (by decide) ?_
                exact kret (nI 0) [(y0, .inr (7, [.ref ya, .int (nI nt), .ref yo, .int (nI no), .ref ym, .ref yl, .ref yg, .ref yw, .ref yh, .ref yc, .ref yd, .ref yb, .ref yk, .ref yz, .int (nI (n + 1)), .int (b2 fl), .ref yr])), (yg, .inl (E.2.1, 32, .inl k5)), (yw, .inl (E.2.2.1, 64, .inl k6)), (yh, .inl (E.2.2.1, 8, .inl k7)), (yc, .inl (E.2.1, 32, .inl k8)), (yd, .inl (E.2.1, 32, .inl k9)), (yb, .inl (E.2.1, 512, .inl kb)), (yk, .inl (E.2.1, 1920, .inl f)), (yz, .inl (E.2.2.1, 24, .inl sz))] _ _ _ _ d_Mod_many_106 (⟨_, _, _, _, _, _, _, _, rfl, hB, Or.inr ⟨many_mbad hn h4 hk hk8 hkn hy4 (Or.inl hc12), rfl⟩⟩) rfl hP hS
              · refine lv_iload_n hx hb d_Mod_many_93 rfl (lv_at hl 0 rfl) ?_
                refine lv_iload_n hx hb d_Mod_many_94 rfl (lv_at hl 2 rfl) ?_
                refine lv_icmp_gt hx hb d_Mod_many_95 rfl (fun hc13 => ?_) (fun hc13 => ?_)
                · refine lv_iconst (v := nI 0) hx hb d_Mod_many_105 (by decide) ?_
                  exact kret (nI 0) [(y0, .inr (7, [.ref ya, .int (nI nt), .ref yo, .int (nI no), .ref ym, .ref yl, .ref yg, .ref yw, .ref yh, .ref yc, .ref yd, .ref yb, .ref yk, .ref yz, .int (nI (n + 1)), .int (b2 fl), .ref yr])), (yg, .inl (E.2.1, 32, .inl k5)), (yw, .inl (E.2.2.1, 64, .inl k6)), (yh, .inl (E.2.2.1, 8, .inl k7)), (yc, .inl (E.2.1, 32, .inl k8)), (yd, .inl (E.2.1, 32, .inl k9)), (yb, .inl (E.2.1, 512, .inl kb)), (yk, .inl (E.2.1, 1920, .inl f)), (yz, .inl (E.2.2.1, 24, .inl sz))] _ _ _ _ d_Mod_many_106 (⟨_, _, _, _, _, _, _, _, rfl, hB, Or.inr ⟨many_mbad hn h4 hk hk8 hkn hy4 (Or.inr hc13), rfl⟩⟩) rfl hP hS
                · obtain ⟨m9, hmk, hm9⟩ := nI_of2 (M := nI k) (n := k) (nI_toInt (by omega)) hc12 (Int32.not_lt.mp hc13)
                  have hl : lv_has ls 9 [(3, .int (nI m9)), (2, .int (nI (n - k))), (1, .int (nI k)), (0, .ref y0)] := by rw [← hm9]; exact hl
                  refine lv_iload_n hx hb d_Mod_many_98 rfl (lv_at hl 1 rfl) ?_
                  refine lv_iconst (v := nI 1) hx hb d_Mod_many_99 (by decide) ?_
                  refine lv_isub hx hb d_Mod_many_100 ?_
                  refine tope (z := nI ((n - k) - 1)) (pk_sub (by omega)) ?_
                  refine lv_iload_n hx hb d_Mod_many_101 rfl (lv_at hl 0 rfl) ?_
                  refine j_ge C ((n - k) - 1) m9 rfl rfl (by omega) (by omega) d_Mod_many_102 rfl (fun hc14 => ?_) (fun hc14 => ?_)
                  · have hq : m9 ≤ (n - k) - 1 := by omega
                    refine lv_iload_n hx hb d_Mod_many_107 rfl (lv_at hl 1 rfl) ?_
                    refine lv_iconst (v := nI 1) hx hb d_Mod_many_108 (by decide) ?_
                    refine lv_isub hx hb d_Mod_many_109 ?_
                    refine tope (z := nI ((n - k) - 1)) (pk_sub (by omega)) ?_
                    refine lv_iload_n hx hb d_Mod_many_110 rfl (lv_at hl 0 rfl) ?_
                    refine lv_isub hx hb d_Mod_many_111 ?_
                    refine tope (z := nI (((n - k) - 1) - m9)) (pk_sub (by omega)) ?_
                    refine lv_istore (lv' := [(4, .int (nI (((n - k) - 1) - m9))), (3, .int (nI m9)), (2, .int (nI (n - k))), (1, .int (nI k)), (0, .ref y0)]) hx hb d_Mod_many_112 hl (by decide) rfl (fun ls hl => ?_)
                    refine lv_iconst (v := nI 0) hx hb d_Mod_many_114 (by decide) ?_
                    refine lv_istore (lv' := [(5, .int (nI 0)), (4, .int (nI (((n - k) - 1) - m9))), (3, .int (nI m9)), (2, .int (nI (n - k))), (1, .int (nI k)), (0, .ref y0)]) hx hb d_Mod_many_115 hl (by decide) rfl (fun ls hl => ?_)
                    refine lv_iconst (v := nI 0) hx hb d_Mod_many_117 (by decide) ?_
                    refine lv_istore (lv' := [(6, .int (nI 0)), (5, .int (nI 0)), (4, .int (nI (((n - k) - 1) - m9))), (3, .int (nI m9)), (2, .int (nI (n - k))), (1, .int (nI k)), (0, .ref y0)]) hx hb d_Mod_many_118 hl (by decide) rfl (fun ls hl => ?_)
                    refine lv_iconst (v := nI 0) hx hb d_Mod_many_120 (by decide) ?_
                    refine lv_istore (lv' := [(7, .int (nI 0)), (6, .int (nI 0)), (5, .int (nI 0)), (4, .int (nI (((n - k) - 1) - m9))), (3, .int (nI m9)), (2, .int (nI (n - k))), (1, .int (nI k)), (0, .ref y0)]) hx hb d_Mod_many_121 hl (by decide) rfl (fun ls hl => ?_)
                    have hloop123 : ∀ (dd : Nat) (s9 : Nat) (kk : Nat) (gd : Nat) (q6 : Nat → Int32) (q7 : Nat → Int32) (q8 : Nat → Int32) (q9 : Nat → Int32) (qb : Nat → Int32) (H : Heap) (locs : List Loc) (ls : Array Slot), m9 - s9 < dd → (s9 ≤ m9) → (mtK (okM msg S n k m9) m9 kk = gd ∧ gd ≤ s9 ∧ (gd = s9 ∨ kk = k) ∧ kk ≤ k) → va_P E.1 clz [(y0, .inr (7, [.ref ya, .int (nI nt), .ref yo, .int (nI no), .ref ym, .ref yl, .ref yg, .ref yw, .ref yh, .ref yc, .ref yd, .ref yb, .ref yk, .ref yz, .int (nI (n + 1)), .int (b2 fl), .ref yr])), (yg, .inl (E.2.1, 32, .inl k5)), (yw, .inl (E.2.2.1, 64, .inl q6)), (yh, .inl (E.2.2.1, 8, .inl q7)), (yc, .inl (E.2.1, 32, .inl q8)), (yd, .inl (E.2.1, 32, .inl q9)), (yb, .inl (E.2.1, 512, .inl qb)), (yk, .inl (E.2.1, 1920, .inl f)), (yz, .inl (E.2.2.1, 24, .inl sz))] H → va_D A [(y0, .inr (7, [.ref ya, .int (nI nt), .ref yo, .int (nI no), .ref ym, .ref yl, .ref yg, .ref yw, .ref yh, .ref yc, .ref yd, .ref yb, .ref yk, .ref yz, .int (nI (n + 1)), .int (b2 fl), .ref yr])), (yg, .inl (E.2.1, 32, .inl k5)), (yw, .inl (E.2.2.1, 64, .inl q6)), (yh, .inl (E.2.2.1, 8, .inl q7)), (yc, .inl (E.2.1, 32, .inl q8)), (yd, .inl (E.2.1, 32, .inl q9)), (yb, .inl (E.2.1, 512, .inl qb)), (yk, .inl (E.2.1, 1920, .inl f)), (yz, .inl (E.2.2.1, 24, .inl sz))] → va_S A s.heap H locs → lv_has ls 9 [(7, .int (nI s9)), (6, .int (nI gd)), (5, .int (nI kk)), (4, .int (nI (((n - k) - 1) - m9))), (3, .int (nI m9)), (2, .int (nI (n - k))), (1, .int (nI k)), (0, .ref y0)] → W p l e (rmd 4) s m args below meth c H locs 0 0 Q (F0 m 123 ls []) := by
                      intro dd
                      induction dd with
                      | zero => intro s9 kk gd q6 q7 q8 q9 qb H locs ls hmz; exact absurd hmz (Nat.not_lt_zero _)
                      | succ dd ih123 =>
                        intro s9 kk gd q6 q7 q8 q9 qb H locs ls hmz hs9 hJ hP hD hS hl
                        refine lv_iload hx hb d_Mod_many_123 (lv_at hl 0 rfl) ?_
                        refine lv_iload_n hx hb d_Mod_many_125 rfl (lv_at hl 4 rfl) ?_
                        refine j_ge C s9 m9 rfl rfl (by omega) (by omega) d_Mod_many_126 rfl (fun hc15 => ?_) (fun hc15 => ?_)
                        · refine lv_aload_n hx hb d_Mod_many_178 rfl (lv_at hl 7 rfl) ?_
                          refine lv_iload hx hb d_Mod_many_179 (lv_at hl 3 rfl) ?_
                          refine n_put (v := .int (nI (((n - k) - 1) - m9))) C fp_Mod_66 hP hD hS 0 rfl (rfl) rfl (Nat.le_of_ble_eq_true rfl) d_Mod_many_181 (fun H locs hP hD hS => ?_)
                          have hP : va_P E.1 clz [(y0, .inr (7, [.ref ya, .int (nI nt), .ref yo, .int (nI no), .ref ym, .ref yl, .ref yg, .ref yw, .ref yh, .ref yc, .ref yd, .ref yb, .ref yk, .ref yz, .int (nI (((n - k) - 1) - m9)), .int (b2 fl), .ref yr])), (yg, .inl (E.2.1, 32, .inl k5)), (yw, .inl (E.2.2.1, 64, .inl q6)), (yh, .inl (E.2.2.1, 8, .inl q7)), (yc, .inl (E.2.1, 32, .inl q8)), (yd, .inl (E.2.1, 32, .inl q9)), (yb, .inl (E.2.1, 512, .inl qb)), (yk, .inl (E.2.1, 1920, .inl f)), (yz, .inl (E.2.2.1, 24, .inl sz))] H := hP
                          have hD : va_D A [(y0, .inr (7, [.ref ya, .int (nI nt), .ref yo, .int (nI no), .ref ym, .ref yl, .ref yg, .ref yw, .ref yh, .ref yc, .ref yd, .ref yb, .ref yk, .ref yz, .int (nI (((n - k) - 1) - m9)), .int (b2 fl), .ref yr])), (yg, .inl (E.2.1, 32, .inl k5)), (yw, .inl (E.2.2.1, 64, .inl q6)), (yh, .inl (E.2.2.1, 8, .inl q7)), (yc, .inl (E.2.1, 32, .inl q8)), (yd, .inl (E.2.1, 32, .inl q9)), (yb, .inl (E.2.1, 512, .inl qb)), (yk, .inl (E.2.1, 1920, .inl f)), (yz, .inl (E.2.2.1, 24, .inl sz))] := hD
                          have hq16 : (S.drop (S.length - (((n - k) - 1) - m9))).length = ((n - k) - 1) - m9 := by rw [List.length_drop]; omega
                          have hP : va_P E.1 clz [(y0, .inr (7, [.ref ya, .int (nI nt), .ref yo, .int (nI no), .ref ym, .ref yl, .ref yg, .ref yw, .ref yh, .ref yc, .ref yd, .ref yb, .ref yk, .ref yz, .int (nI ((S.drop (S.length - (((n - k) - 1) - m9))).length)), .int (b2 fl), .ref yr])), (yg, .inl (E.2.1, 32, .inl k5)), (yw, .inl (E.2.2.1, 64, .inl q6)), (yh, .inl (E.2.2.1, 8, .inl q7)), (yc, .inl (E.2.1, 32, .inl q8)), (yd, .inl (E.2.1, 32, .inl q9)), (yb, .inl (E.2.1, 512, .inl qb)), (yk, .inl (E.2.1, 1920, .inl f)), (yz, .inl (E.2.2.1, 24, .inl sz))] H := by rw [hq16]; exact hP
                          have hD : va_D A [(y0, .inr (7, [.ref ya, .int (nI nt), .ref yo, .int (nI no), .ref ym, .ref yl, .ref yg, .ref yw, .ref yh, .ref yc, .ref yd, .ref yb, .ref yk, .ref yz, .int (nI ((S.drop (S.length - (((n - k) - 1) - m9))).length)), .int (b2 fl), .ref yr])), (yg, .inl (E.2.1, 32, .inl k5)), (yw, .inl (E.2.2.1, 64, .inl q6)), (yh, .inl (E.2.2.1, 8, .inl q7)), (yc, .inl (E.2.1, 32, .inl q8)), (yd, .inl (E.2.1, 32, .inl q9)), (yb, .inl (E.2.1, 512, .inl qb)), (yk, .inl (E.2.1, 1920, .inl f)), (yz, .inl (E.2.2.1, 24, .inl sz))] := by rw [hq16]; exact hD
                          refine lv_aload_n hx hb d_Mod_many_184 rfl (lv_at hl 7 rfl) ?_
                          refine lv_iload hx hb d_Mod_many_185 (lv_at hl 1 rfl) ?_
                          refine lv_iload_n hx hb d_Mod_many_187 rfl (lv_at hl 4 rfl) ?_
                          refine j_ne C gd m9 rfl rfl (by omega) (by omega) d_Mod_many_188 rfl (fun hc17 => ?_) (fun hc17 => ?_)
                          · refine lv_iconst (v := nI 0) hx hb d_Mod_many_195 (by decide) ?_
                            refine cal_I (As := [.int (nI 0)]) (rest := []) C lk_Mod_89 (c_Mod_pushNumber l E y0 ya yo ym yl yg yw yh yc yd yb yk yz yr nt no fl f sz q8 (S.drop (S.length - (((n - k) - 1) - m9))) (nI 0) (rep_drop _ hrep) hB (by first | omega | (simp only [List.length_cons]; omega) | (rw [List.length_drop]; omega))) (by decide) hP hD hS 0 7 rfl rfl [0, 7, 8, 4] rfl (by decide) hl.1 rfl (Nat.le_of_ble_eq_true rfl) d_Mod_many_196 (fun r23 w1 H locs hp24 hP hD hS => ?_)
                            obtain ⟨rfl, fq18, zq19, cq20, rfl, hrq21, hbq22⟩ := hp24
                            have hP : va_P E.1 clz [(y0, .inr (7, [.ref ya, .int (nI nt), .ref yo, .int (nI no), .ref ym, .ref yl, .ref yg, .ref yw, .ref yh, .ref yc, .ref yd, .ref yb, .ref yk, .ref yz, .int (nI ((S.drop (S.length - (((n - k) - 1) - m9))).length + 1)), .int (b2 fl), .ref yr])), (yg, .inl (E.2.1, 32, .inl k5)), (yw, .inl (E.2.2.1, 64, .inl q6)), (yh, .inl (E.2.2.1, 8, .inl q7)), (yc, .inl (E.2.1, 32, .inl cq20)), (yd, .inl (E.2.1, 32, .inl q9)), (yb, .inl (E.2.1, 512, .inl qb)), (yk, .inl (E.2.1, 1920, .inl fq18)), (yz, .inl (E.2.2.1, 24, .inl zq19))] H := hP
                            have hD : va_D A [(y0, .inr (7, [.ref ya, .int (nI nt), .ref yo, .int (nI no), .ref ym, .ref yl, .ref yg, .ref yw, .ref yh, .ref yc, .ref yd, .ref yb, .ref yk, .ref yz, .int (nI ((S.drop (S.length - (((n - k) - 1) - m9))).length + 1)), .int (b2 fl), .ref yr])), (yg, .inl (E.2.1, 32, .inl k5)), (yw, .inl (E.2.2.1, 64, .inl q6)), (yh, .inl (E.2.2.1, 8, .inl q7)), (yc, .inl (E.2.1, 32, .inl cq20)), (yd, .inl (E.2.1, 32, .inl q9)), (yb, .inl (E.2.1, 512, .inl qb)), (yk, .inl (E.2.1, 1920, .inl fq18)), (yz, .inl (E.2.2.1, 24, .inl zq19))] := hD
                            exact kret (b2 true) [(y0, .inr (7, [.ref ya, .int (nI nt), .ref yo, .int (nI no), .ref ym, .ref yl, .ref yg, .ref yw, .ref yh, .ref yc, .ref yd, .ref yb, .ref yk, .ref yz, .int (nI ((S.drop (S.length - (((n - k) - 1) - m9))).length + 1)), .int (b2 fl), .ref yr])), (yg, .inl (E.2.1, 32, .inl k5)), (yw, .inl (E.2.2.1, 64, .inl q6)), (yh, .inl (E.2.2.1, 8, .inl q7)), (yc, .inl (E.2.1, 32, .inl cq20)), (yd, .inl (E.2.1, 32, .inl q9)), (yb, .inl (E.2.1, 512, .inl qb)), (yk, .inl (E.2.1, 1920, .inl fq18)), (yz, .inl (E.2.2.1, 24, .inl zq19))] _ _ _ _ d_Mod_many_199 (⟨_, _, _, _, _, _, _, _, rfl, hbq22, Or.inl ⟨(numB (b2 false) :: S.drop (S.length - (((n - k) - 1) - m9))), many_ok hn h4 hk hk8 hkn hy4 hm9 hmk hq (decide_eq_false (fun c9 => by obtain ⟨j1, j2, j3, j4⟩ := hJ; have e9 : kk = k := (by omega); rw [e9] at j1; omega)), rfl, by simp only [List.length_cons], hrq21, by simp only [List.length_cons, List.length_drop]; omega⟩⟩) rfl hP hS
                          · refine lv_iconst (v := nI 1) hx hb d_Mod_many_191 (by decide) ?_
                            refine lv_goto hx hb d_Mod_many_192 rfl ?_
                            refine cal_I (As := [.int (nI 1)]) (rest := []) C lk_Mod_89 (c_Mod_pushNumber l E y0 ya yo ym yl yg yw yh yc yd yb yk yz yr nt no fl f sz q8 (S.drop (S.length - (((n - k) - 1) - m9))) (nI 1) (rep_drop _ hrep) hB (by first | omega | (simp only [List.length_cons]; omega) | (rw [List.length_drop]; omega))) (by decide) hP hD hS 0 7 rfl rfl [0, 7, 8, 4] rfl (by decide) hl.1 rfl (Nat.le_of_ble_eq_true rfl) d_Mod_many_196 (fun r30 w1 H locs hp31 hP hD hS => ?_)
                            obtain ⟨rfl, fq25, zq26, cq27, rfl, hrq28, hbq29⟩ := hp31
                            have hP : va_P E.1 clz [(y0, .inr (7, [.ref ya, .int (nI nt), .ref yo, .int (nI no), .ref ym, .ref yl, .ref yg, .ref yw, .ref yh, .ref yc, .ref yd, .ref yb, .ref yk, .ref yz, .int (nI ((S.drop (S.length - (((n - k) - 1) - m9))).length + 1)), .int (b2 fl), .ref yr])), (yg, .inl (E.2.1, 32, .inl k5)), (yw, .inl (E.2.2.1, 64, .inl q6)), (yh, .inl (E.2.2.1, 8, .inl q7)), (yc, .inl (E.2.1, 32, .inl cq27)), (yd, .inl (E.2.1, 32, .inl q9)), (yb, .inl (E.2.1, 512, .inl qb)), (yk, .inl (E.2.1, 1920, .inl fq25)), (yz, .inl (E.2.2.1, 24, .inl zq26))] H := hP
                            have hD : va_D A [(y0, .inr (7, [.ref ya, .int (nI nt), .ref yo, .int (nI no), .ref ym, .ref yl, .ref yg, .ref yw, .ref yh, .ref yc, .ref yd, .ref yb, .ref yk, .ref yz, .int (nI ((S.drop (S.length - (((n - k) - 1) - m9))).length + 1)), .int (b2 fl), .ref yr])), (yg, .inl (E.2.1, 32, .inl k5)), (yw, .inl (E.2.2.1, 64, .inl q6)), (yh, .inl (E.2.2.1, 8, .inl q7)), (yc, .inl (E.2.1, 32, .inl cq27)), (yd, .inl (E.2.1, 32, .inl q9)), (yb, .inl (E.2.1, 512, .inl qb)), (yk, .inl (E.2.1, 1920, .inl fq25)), (yz, .inl (E.2.2.1, 24, .inl zq26))] := hD
                            exact kret (b2 true) [(y0, .inr (7, [.ref ya, .int (nI nt), .ref yo, .int (nI no), .ref ym, .ref yl, .ref yg, .ref yw, .ref yh, .ref yc, .ref yd, .ref yb, .ref yk, .ref yz, .int (nI ((S.drop (S.length - (((n - k) - 1) - m9))).length + 1)), .int (b2 fl), .ref yr])), (yg, .inl (E.2.1, 32, .inl k5)), (yw, .inl (E.2.2.1, 64, .inl q6)), (yh, .inl (E.2.2.1, 8, .inl q7)), (yc, .inl (E.2.1, 32, .inl cq27)), (yd, .inl (E.2.1, 32, .inl q9)), (yb, .inl (E.2.1, 512, .inl qb)), (yk, .inl (E.2.1, 1920, .inl fq25)), (yz, .inl (E.2.2.1, 24, .inl zq26))] _ _ _ _ d_Mod_many_199 (⟨_, _, _, _, _, _, _, _, rfl, hbq29, Or.inl ⟨(numB (b2 true) :: S.drop (S.length - (((n - k) - 1) - m9))), many_ok hn h4 hk hk8 hkn hy4 hm9 hmk hq (decide_eq_true (mtK_all (i := kk) (hJ.1.trans (by omega)) hJ.2.2.2)), rfl, by simp only [List.length_cons], hrq28, by simp only [List.length_cons, List.length_drop]; omega⟩⟩) rfl hP hS
                        · refine lv_iconst (v := nI 0) hx hb d_Mod_many_129 (by decide) ?_
                          refine lv_istore (lv' := [(8, .int (nI 0)), (7, .int (nI s9)), (6, .int (nI gd)), (5, .int (nI kk)), (4, .int (nI (((n - k) - 1) - m9))), (3, .int (nI m9)), (2, .int (nI (n - k))), (1, .int (nI k)), (0, .ref y0)]) hx hb d_Mod_many_130 hl (by decide) rfl (fun ls hl => ?_)
                          have hloop132 : ∀ (dd : Nat) (kk : Nat) (fd : Bool) (q6 : Nat → Int32) (q7 : Nat → Int32) (q8 : Nat → Int32) (q9 : Nat → Int32) (qb : Nat → Int32) (H : Heap) (locs : List Loc) (ls : Array Slot), k - kk < dd → (kk ≤ k) → (fd = false → (mtK (okM msg S n k m9) m9 kk = gd ∧ gd ≤ s9 ∧ (gd = s9 ∨ kk = k) ∧ kk ≤ k)) → (fd = true → (mtK (okM msg S n k m9) m9 kk = gd + 1 ∧ gd = s9 ∧ kk ≤ k)) → va_P E.1 clz [(y0, .inr (7, [.ref ya, .int (nI nt), .ref yo, .int (nI no), .ref ym, .ref yl, .ref yg, .ref yw, .ref yh, .ref yc, .ref yd, .ref yb, .ref yk, .ref yz, .int (nI (n + 1)), .int (b2 fl), .ref yr])), (yg, .inl (E.2.1, 32, .inl k5)), (yw, .inl (E.2.2.1, 64, .inl q6)), (yh, .inl (E.2.2.1, 8, .inl q7)), (yc, .inl (E.2.1, 32, .inl q8)), (yd, .inl (E.2.1, 32, .inl q9)), (yb, .inl (E.2.1, 512, .inl qb)), (yk, .inl (E.2.1, 1920, .inl f)), (yz, .inl (E.2.2.1, 24, .inl sz))] H → va_D A [(y0, .inr (7, [.ref ya, .int (nI nt), .ref yo, .int (nI no), .ref ym, .ref yl, .ref yg, .ref yw, .ref yh, .ref yc, .ref yd, .ref yb, .ref yk, .ref yz, .int (nI (n + 1)), .int (b2 fl), .ref yr])), (yg, .inl (E.2.1, 32, .inl k5)), (yw, .inl (E.2.2.1, 64, .inl q6)), (yh, .inl (E.2.2.1, 8, .inl q7)), (yc, .inl (E.2.1, 32, .inl q8)), (yd, .inl (E.2.1, 32, .inl q9)), (yb, .inl (E.2.1, 512, .inl qb)), (yk, .inl (E.2.1, 1920, .inl f)), (yz, .inl (E.2.2.1, 24, .inl sz))] → va_S A s.heap H locs → lv_has ls 9 [(8, .int (b2 fd)), (7, .int (nI s9)), (6, .int (nI gd)), (5, .int (nI kk)), (4, .int (nI (((n - k) - 1) - m9))), (3, .int (nI m9)), (2, .int (nI (n - k))), (1, .int (nI k)), (0, .ref y0)] → W p l e (rmd 4) s m args below meth c H locs 0 0 Q (F0 m 132 ls []) := by
                            intro dd
                            induction dd with
                            | zero => intro kk fd q6 q7 q8 q9 qb H locs ls hmz; exact absurd hmz (Nat.not_lt_zero _)
                            | succ dd ih132 =>
                              intro kk fd q6 q7 q8 q9 qb H locs ls hmz hkk9 hF1 hF2 hP hD hS hl
                              refine lv_iload hx hb d_Mod_many_132 (lv_at hl 3 rfl) ?_
                              refine lv_iload_n hx hb d_Mod_many_134 rfl (lv_at hl 7 rfl) ?_
                              refine j_ge C kk k rfl rfl (by omega) (by omega) d_Mod_many_135 rfl (fun hc32 => ?_) (fun hc32 => ?_)
                              · refine lv_iload hx hb d_Mod_many_164 (lv_at hl 0 rfl) ?_
                                refine zb_eq C fd rfl d_Mod_many_166 rfl (fun hc33 => ?_) (fun hc33 => ?_)
                                · refine lv_iinc (k := 1) (v := nI (s9 + 1)) (lv' := [(7, .int (nI (s9 + 1))), (8, .int (b2 fd)), (6, .int (nI gd)), (5, .int (nI kk)), (4, .int (nI (((n - k) - 1) - m9))), (3, .int (nI m9)), (2, .int (nI (n - k))), (1, .int (nI k)), (0, .ref y0)]) hx hb d_Mod_many_172 hl rfl (iincK s9 1) (by decide) rfl (fun ls hl => ?_)
                                  refine lv_goto hx hb d_Mod_many_175 rfl ?_
                                  exact ih123 (s9 + 1) kk gd q6 q7 q8 q9 qb H locs ls (by omega) (by omega) (by obtain ⟨j1, j2, j3, j4⟩ := hF1 (by assumption); exact ⟨j1, by omega, by omega, j4⟩) hP hD hS (lv_sub hl [0, 2, 3, 4, 5, 6, 7, 8] rfl)
                                · refine lv_iinc (k := 2) (v := nI (gd + 1)) (lv' := [(6, .int (nI (gd + 1))), (8, .int (b2 fd)), (7, .int (nI s9)), (5, .int (nI kk)), (4, .int (nI (((n - k) - 1) - m9))), (3, .int (nI m9)), (2, .int (nI (n - k))), (1, .int (nI k)), (0, .ref y0)]) hx hb d_Mod_many_169 hl rfl (iincK gd 1) (by decide) rfl (fun ls hl => ?_)
                                  refine lv_iinc (k := 2) (v := nI (s9 + 1)) (lv' := [(7, .int (nI (s9 + 1))), (6, .int (nI (gd + 1))), (8, .int (b2 fd)), (5, .int (nI kk)), (4, .int (nI (((n - k) - 1) - m9))), (3, .int (nI m9)), (2, .int (nI (n - k))), (1, .int (nI k)), (0, .ref y0)]) hx hb d_Mod_many_172 hl rfl (iincK s9 1) (by decide) rfl (fun ls hl => ?_)
                                  refine lv_goto hx hb d_Mod_many_175 rfl ?_
                                  exact ih123 (s9 + 1) kk (gd + 1) q6 q7 q8 q9 qb H locs ls (by omega) (by omega) (by obtain ⟨j1, j2, j3⟩ := hF2 (by assumption); exact ⟨by omega, by omega, by omega, by omega⟩) hP hD hS (lv_sub hl [0, 1, 3, 4, 5, 6, 7, 8] rfl)
                              · refine lv_iload hx hb d_Mod_many_138 (lv_at hl 0 rfl) ?_
                                refine zb_ne C fd rfl d_Mod_many_140 rfl (fun hc34 => ?_) (fun hc34 => ?_)
                                · refine lv_iload hx hb d_Mod_many_164 (lv_at hl 0 rfl) ?_
                                  refine zb_eq C fd rfl d_Mod_many_166 rfl (fun hc35 => ?_) (fun hc35 => ?_)
                                  · exact absurd (hc34.symm.trans hc35) (by decide)
                                  · refine lv_iinc (k := 2) (v := nI (gd + 1)) (lv' := [(6, .int (nI (gd + 1))), (8, .int (b2 fd)), (7, .int (nI s9)), (5, .int (nI kk)), (4, .int (nI (((n - k) - 1) - m9))), (3, .int (nI m9)), (2, .int (nI (n - k))), (1, .int (nI k)), (0, .ref y0)]) hx hb d_Mod_many_169 hl rfl (iincK gd 1) (by decide) rfl (fun ls hl => ?_)
                                    refine lv_iinc (k := 2) (v := nI (s9 + 1)) (lv' := [(7, .int (nI (s9 + 1))), (6, .int (nI (gd + 1))), (8, .int (b2 fd)), (5, .int (nI kk)), (4, .int (nI (((n - k) - 1) - m9))), (3, .int (nI m9)), (2, .int (nI (n - k))), (1, .int (nI k)), (0, .ref y0)]) hx hb d_Mod_many_172 hl rfl (iincK s9 1) (by decide) rfl (fun ls hl => ?_)
                                    refine lv_goto hx hb d_Mod_many_175 rfl ?_
                                    exact ih123 (s9 + 1) kk (gd + 1) q6 q7 q8 q9 qb H locs ls (by omega) (by omega) (by obtain ⟨j1, j2, j3⟩ := hF2 (by assumption); exact ⟨by omega, by omega, by omega, by omega⟩) hP hD hS (lv_sub hl [0, 1, 3, 4, 5, 6, 7, 8] rfl)
                                · have hK9 := hrep (n - k + kk) (by omega)
                                  have hG9 := hrep ((((n - k) - 1) - m9) + s9) (by omega)
                                  refine lv_aload_n hx hb d_Mod_many_143 rfl (lv_at hl 8 rfl) ?_
                                  refine lv_iload hx hb d_Mod_many_144 (lv_at hl 4 rfl) ?_
                                  refine lv_iload hx hb d_Mod_many_146 (lv_at hl 1 rfl) ?_
                                  refine lv_iadd hx hb d_Mod_many_148 ?_
                                  refine tope (z := nI ((((n - k) - 1) - m9) + s9)) (nI_add _ _) ?_
                                  refine lv_iload_n hx hb d_Mod_many_149 rfl (lv_at hl 6 rfl) ?_
                                  refine lv_iload hx hb d_Mod_many_150 (lv_at hl 3 rfl) ?_
                                  refine lv_iadd hx hb d_Mod_many_152 ?_
                                  refine tope (z := nI ((n - k) + kk)) (nI_add _ _) ?_
                                  refine cal_I (As := [.int (nI ((((n - k) - 1) - m9) + s9)), .int (nI ((n - k) + kk))]) (rest := []) C lk_Mod_85 (c_Mod_signed l E y0 ya yo ym yl yg yw yh yc yd yb yk yz yr nt no (n + 1) fl k5 q6 q7 q8 q9 qb f sz msg ((((n - k) - 1) - m9) + s9) (el S ((((n - k) - 1) - m9) + s9)) (by omega) hG9 ((n - k) + kk) (el S (n - k + kk)) (by omega) hK9.1 hK9.2.1 hK9.2.2 hB hB5 hm hm32) (by decide) hP hD hS 0 7 rfl rfl [0, 1, 2, 3, 4, 5, 6, 7, 8] rfl (by decide) hl.1 rfl (Nat.le_of_ble_eq_true rfl) d_Mod_many_153 (fun r41 w1 H locs hp42 hP hD hS => ?_)
                                  obtain ⟨rfl, w_36, h_37, o_38, g_39, u_40, rfl⟩ := hp42
                                  have hP : va_P E.1 clz [(y0, .inr (7, [.ref ya, .int (nI nt), .ref yo, .int (nI no), .ref ym, .ref yl, .ref yg, .ref yw, .ref yh, .ref yc, .ref yd, .ref yb, .ref yk, .ref yz, .int (nI (n + 1)), .int (b2 fl), .ref yr])), (yg, .inl (E.2.1, 32, .inl k5)), (yw, .inl (E.2.2.1, 64, .inl w_36)), (yh, .inl (E.2.2.1, 8, .inl h_37)), (yc, .inl (E.2.1, 32, .inl o_38)), (yd, .inl (E.2.1, 32, .inl g_39)), (yb, .inl (E.2.1, 512, .inl u_40)), (yk, .inl (E.2.1, 1920, .inl f)), (yz, .inl (E.2.2.1, 24, .inl sz))] H := hP
                                  have hD : va_D A [(y0, .inr (7, [.ref ya, .int (nI nt), .ref yo, .int (nI no), .ref ym, .ref yl, .ref yg, .ref yw, .ref yh, .ref yc, .ref yd, .ref yb, .ref yk, .ref yz, .int (nI (n + 1)), .int (b2 fl), .ref yr])), (yg, .inl (E.2.1, 32, .inl k5)), (yw, .inl (E.2.2.1, 64, .inl w_36)), (yh, .inl (E.2.2.1, 8, .inl h_37)), (yc, .inl (E.2.1, 32, .inl o_38)), (yd, .inl (E.2.1, 32, .inl g_39)), (yb, .inl (E.2.1, 512, .inl u_40)), (yk, .inl (E.2.1, 1920, .inl f)), (yz, .inl (E.2.2.1, 24, .inl sz))] := hD
                                  refine lv_istore (lv' := [(8, .int (b2 (decide ((el S ((((n - k) - 1) - m9) + s9)) = sigL msg (el S (n - k + kk)))))), (7, .int (nI s9)), (6, .int (nI gd)), (5, .int (nI kk)), (4, .int (nI (((n - k) - 1) - m9))), (3, .int (nI m9)), (2, .int (nI (n - k))), (1, .int (nI k)), (0, .ref y0)]) hx hb d_Mod_many_156 hl (by decide) rfl (fun ls hl => ?_)
                                  refine lv_iinc (k := 3) (v := nI (kk + 1)) (lv' := [(5, .int (nI (kk + 1))), (8, .int (b2 (decide ((el S ((((n - k) - 1) - m9) + s9)) = sigL msg (el S (n - k + kk)))))), (7, .int (nI s9)), (6, .int (nI gd)), (4, .int (nI (((n - k) - 1) - m9))), (3, .int (nI m9)), (2, .int (nI (n - k))), (1, .int (nI k)), (0, .ref y0)]) hx hb d_Mod_many_158 hl rfl (iincK kk 1) (by decide) rfl (fun ls hl => ?_)
                                  refine lv_goto hx hb d_Mod_many_161 rfl ?_
                                  exact ih132 (kk + 1) (decide ((el S ((((n - k) - 1) - m9) + s9)) = sigL msg (el S (n - k + kk)))) w_36 h_37 o_38 g_39 u_40 H locs ls (by omega) (by omega) (fun hc => by obtain ⟨j1, j2, j3, j4⟩ := hF1 (by assumption); have e9 : gd = s9 := (by omega); refine ⟨?_, j2, Or.inl e9, by omega⟩; rw [show mtK (okM msg S n k m9) m9 (kk + 1) = (if mtK (okM msg S n k m9) m9 kk < m9 ∧ (okM msg S n k m9) (mtK (okM msg S n k m9) m9 kk) kk = true then mtK (okM msg S n k m9) m9 kk + 1 else mtK (okM msg S n k m9) m9 kk) from rfl, j1, if_neg (fun q => by rw [e9] at q; exact absurd (q.2.symm.trans hc) (by decide))]) (fun hc => by obtain ⟨j1, j2, j3, j4⟩ := hF1 (by assumption); have e9 : gd = s9 := (by omega); refine ⟨?_, e9, by omega⟩; rw [show mtK (okM msg S n k m9) m9 (kk + 1) = (if mtK (okM msg S n k m9) m9 kk < m9 ∧ (okM msg S n k m9) (mtK (okM msg S n k m9) m9 kk) kk = true then mtK (okM msg S n k m9) m9 kk + 1 else mtK (okM msg S n k m9) m9 kk) from rfl, j1, if_pos ⟨by omega, by rw [e9]; exact hc⟩]) hP hD hS (lv_sub hl [1, 2, 3, 0, 4, 5, 6, 7, 8] rfl)
                          exact hloop132 (k - kk + 1) kk false q6 q7 q8 q9 qb H locs ls (by omega) (hJ.2.2.2) (fun _ => hJ) (fun c9 => absurd c9 (by decide)) hP hD hS (lv_sub hl [0, 1, 2, 3, 4, 5, 6, 7, 8] rfl)
                    exact hloop123 (m9 + 1) 0 0 0 k6 k7 k8 k9 kb H locs ls (by omega) (by omega) (⟨rfl, by omega, by omega, by omega⟩) hP hD hS (lv_sub hl [0, 1, 2, 3, 4, 5, 6, 7] rfl)
                  · refine lv_iconst (v := nI 0) hx hb d_Mod_many_105 (by decide) ?_
                    exact kret (nI 0) [(y0, .inr (7, [.ref ya, .int (nI nt), .ref yo, .int (nI no), .ref ym, .ref yl, .ref yg, .ref yw, .ref yh, .ref yc, .ref yd, .ref yb, .ref yk, .ref yz, .int (nI (n + 1)), .int (b2 fl), .ref yr])), (yg, .inl (E.2.1, 32, .inl k5)), (yw, .inl (E.2.2.1, 64, .inl k6)), (yh, .inl (E.2.2.1, 8, .inl k7)), (yc, .inl (E.2.1, 32, .inl k8)), (yd, .inl (E.2.1, 32, .inl k9)), (yb, .inl (E.2.1, 512, .inl kb)), (yk, .inl (E.2.1, 1920, .inl f)), (yz, .inl (E.2.2.1, 24, .inl sz))] _ _ _ _ d_Mod_many_106 (⟨_, _, _, _, _, _, _, _, rfl, hB, Or.inr ⟨many_mq hn h4 hk hk8 hkn hy4 hm9 hmk (by omega), rfl⟩⟩) rfl hP hS
            · refine lv_iconst (v := nI 0) hx hb d_Mod_many_79 (by decide) ?_
              exact kret (nI 0) [(y0, .inr (7, [.ref ya, .int (nI nt), .ref yo, .int (nI no), .ref ym, .ref yl, .ref yg, .ref yw, .ref yh, .ref yc, .ref yd, .ref yb, .ref yk, .ref yz, .int (nI (n + 1)), .int (b2 fl), .ref yr])), (yg, .inl (E.2.1, 32, .inl k5)), (yw, .inl (E.2.2.1, 64, .inl k6)), (yh, .inl (E.2.2.1, 8, .inl k7)), (yc, .inl (E.2.1, 32, .inl k8)), (yd, .inl (E.2.1, 32, .inl k9)), (yb, .inl (E.2.1, 512, .inl kb)), (yk, .inl (E.2.1, 1920, .inl f)), (yz, .inl (E.2.2.1, 24, .inl sz))] _ _ _ _ d_Mod_many_80 (⟨_, _, _, _, _, _, _, _, rfl, hB, Or.inr ⟨many_kn hn h4 hk hk8 (Or.inr (by omega)), rfl⟩⟩) rfl hP hS
          · refine lv_iconst (v := nI 0) hx hb d_Mod_many_56 (by decide) ?_
            exact kret (nI 0) [(y0, .inr (7, [.ref ya, .int (nI nt), .ref yo, .int (nI no), .ref ym, .ref yl, .ref yg, .ref yw, .ref yh, .ref yc, .ref yd, .ref yb, .ref yk, .ref yz, .int (nI (n + 1)), .int (b2 fl), .ref yr])), (yg, .inl (E.2.1, 32, .inl k5)), (yw, .inl (E.2.2.1, 64, .inl k6)), (yh, .inl (E.2.2.1, 8, .inl k7)), (yc, .inl (E.2.1, 32, .inl k8)), (yd, .inl (E.2.1, 32, .inl k9)), (yb, .inl (E.2.1, 512, .inl kb)), (yk, .inl (E.2.1, 1920, .inl f)), (yz, .inl (E.2.2.1, 24, .inl sz))] _ _ _ _ d_Mod_many_57 (⟨_, _, _, _, _, _, _, _, rfl, hB, Or.inr ⟨many_kn hn h4 hk hk8 (Or.inl (by omega)), rfl⟩⟩) rfl hP hS
    · refine lv_iconst (v := nI 0) hx hb d_Mod_many_23 (by decide) ?_
      exact kret (nI 0) [(y0, .inr (7, [.ref ya, .int (nI nt), .ref yo, .int (nI no), .ref ym, .ref yl, .ref yg, .ref yw, .ref yh, .ref yc, .ref yd, .ref yb, .ref yk, .ref yz, .int (nI (n + 1)), .int (b2 fl), .ref yr])), (yg, .inl (E.2.1, 32, .inl k5)), (yw, .inl (E.2.2.1, 64, .inl k6)), (yh, .inl (E.2.2.1, 8, .inl k7)), (yc, .inl (E.2.1, 32, .inl k8)), (yd, .inl (E.2.1, 32, .inl k9)), (yb, .inl (E.2.1, 512, .inl kb)), (yk, .inl (E.2.1, 1920, .inl f)), (yz, .inl (E.2.2.1, 24, .inl sz))] _ _ _ _ d_Mod_many_24 (⟨_, _, _, _, _, _, _, _, rfl, hB, Or.inr ⟨many_long hn (by omega), rfl⟩⟩) rfl hP hS
