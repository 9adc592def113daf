set_option maxHeartbeats 4000000 in
set_option maxRecDepth 100000 in
theorem c_act_82 (l : Launch) (E : En) (y0 ya yo ym yl yg yw yh yc yd yb yk yz yr nt no : Nat) (fl : Bool) (k5 k6 k7 k8 k9 kb f sz : Nat → Int32) (S : Stk) (msg : Byl) (hrep : rep f sz S) (hB : fB f) (hB5 : fB k5) (hlen : S.length ≤ 24) (hm : lay k5 0 msg) (hm32 : msg.length = 32) (ht : Int32) : CtI l y_Mod_act b_Mod_act 11 .boolean (rmd 4) E [.ref y0, .int (nI 82), .int ht] [(y0, .inr (7, [.ref ya, .int (nI nt), .ref yo, .int (nI no), .ref ym, .ref yl, .ref yg, .ref yw, .ref yh, .ref yc, .ref yd, .ref yb, .ref yk, .ref yz, .int (nI S.length), .int (b2 fl), .ref yr])), (yg, .inl (E.2.1, 32, .inl k5)), (yw, .inl (E.2.2.1, 64, .inl k6)), (yh, .inl (E.2.2.1, 8, .inl k7)), (yc, .inl (E.2.1, 32, .inl k8)), (yd, .inl (E.2.1, 32, .inl k9)), (yb, .inl (E.2.1, 512, .inl kb)), (yk, .inl (E.2.1, 1920, .inl f)), (yz, .inl (E.2.2.1, 24, .inl sz))] (stepM E y0 ya yo ym yl yg yw yh yc yd yb yk yz yr nt no fl k5 (actS 82 ht msg S)) := by
  refine CtI.of (by decide) (Nat.le_of_ble_eq_true rfl) (stepM_nar) ?_
  intro p e s m args below meth c A Q H locs ls C hP hD hS hl kret
  have hx := C.1
  have hb := C.2.1
  have hl : lv_has ls 11 [(0, .ref y0), (1, .int (nI 82)), (2, .int ht)] := hl
  rcases S with _ | ⟨x, _ | ⟨y, S⟩⟩
  · have hP : va_P E.1 clz [(y0, .inr (7, [.ref ya, .int (nI nt), .ref yo, .int (nI no), .ref ym, .ref yl, .ref yg, .ref yw, .ref yh, .ref yc, .ref yd, .ref yb, .ref yk, .ref yz, .int (nI 0), .int (b2 fl), .ref yr])), (yg, .inl (E.2.1, 32, .inl k5)), (yw, .inl (E.2.2.1, 64, .inl k6)), (yh, .inl (E.2.2.1, 8, .inl k7)), (yc, .inl (E.2.1, 32, .inl k8)), (yd, .inl (E.2.1, 32, .inl k9)), (yb, .inl (E.2.1, 512, .inl kb)), (yk, .inl (E.2.1, 1920, .inl f)), (yz, .inl (E.2.2.1, 24, .inl sz))] H := hP
    have hD : va_D A [(y0, .inr (7, [.ref ya, .int (nI nt), .ref yo, .int (nI no), .ref ym, .ref yl, .ref yg, .ref yw, .ref yh, .ref yc, .ref yd, .ref yb, .ref yk, .ref yz, .int (nI 0), .int (b2 fl), .ref yr])), (yg, .inl (E.2.1, 32, .inl k5)), (yw, .inl (E.2.2.1, 64, .inl k6)), (yh, .inl (E.2.2.1, 8, .inl k7)), (yc, .inl (E.2.1, 32, .inl k8)), (yd, .inl (E.2.1, 32, .inl k9)), (yb, .inl (E.2.1, 512, .inl kb)), (yk, .inl (E.2.1, 1920, .inl f)), (yz, .inl (E.2.2.1, 24, .inl sz))] := hD
    refine lv_aload_n hx hb d_Mod_act_0 rfl (lv_at hl 0 rfl) ?_
    refine n_get C fg_Mod_66 hP 0 rfl rfl d_Mod_act_1 ?_
    refine lv_iconst (v := nI 2) hx hb d_Mod_act_4 (by decide) ?_
    refine lv_isub hx hb d_Mod_act_5 ?_
    refine tope (z := (-2)) (by decide) ?_
    refine lv_istore_n (lv' := [(3, .int (-2)), (0, .ref y0), (1, .int (nI 82)), (2, .int ht)]) hx hb d_Mod_act_6 rfl hl (by decide) rfl (fun ls hl => ?_)
    refine lv_aload_n hx hb d_Mod_act_7 rfl (lv_at hl 1 rfl) ?_
    refine n_get C fg_Mod_66 hP 0 rfl rfl d_Mod_act_8 ?_
    refine lv_iconst (v := nI 1) hx hb d_Mod_act_11 (by decide) ?_
    refine lv_isub hx hb d_Mod_act_12 ?_
    refine tope (z := (-1)) (by decide) ?_
    refine lv_istore (lv' := [(4, .int (-1)), (3, .int (-2)), (0, .ref y0), (1, .int (nI 82)), (2, .int ht)]) hx hb d_Mod_act_13 hl (by decide) rfl (fun ls hl => ?_)
    refine lv_iload_n hx hb d_Mod_act_15 rfl (lv_at hl 3 rfl) ?_
    refine lv_bipush (v := nI 82) hx hb d_Mod_act_16 (by decide) ?_
    refine j_eq C 82 82 rfl rfl (by decide) (by decide) d_Mod_act_18 rfl (fun hc1 => ?_) (fun hc1 => absurd hc1 (by decide))
    refine lv_iconst (v := nI 1) hx hb d_Mod_act_51 (by decide) ?_
    refine lv_goto hx hb d_Mod_act_52 rfl ?_
    refine lv_istore (lv' := [(5, .int (nI 1)), (4, .int (-1)), (3, .int (-2)), (0, .ref y0), (1, .int (nI 82)), (2, .int ht)]) hx hb d_Mod_act_56 hl (by decide) rfl (fun ls hl => ?_)
    refine lv_aload_n hx hb d_Mod_act_58 rfl (lv_at hl 3 rfl) ?_
    refine n_get C fg_Mod_66 hP 0 rfl rfl d_Mod_act_59 ?_
    refine lv_iload hx hb d_Mod_act_62 (lv_at hl 0 rfl) ?_
    refine z_eq C 1 rfl (by omega) d_Mod_act_64 rfl (fun hc2 => absurd hc2 (by omega)) (fun hc2 => ?_)
    refine lv_iconst (v := nI 2) hx hb d_Mod_act_67 (by decide) ?_
    refine lv_goto hx hb d_Mod_act_68 rfl ?_
    refine j_ge C 0 2 rfl rfl (by decide) (by decide) d_Mod_act_82 rfl (fun hc3 => absurd hc3 (by decide)) (fun hc3 => ?_)
    refine lv_iconst (v := nI 0) hx hb d_Mod_act_85 (by decide) ?_
    exact kret (nI 0) [(y0, .inr (7, [.ref ya, .int (nI nt), .ref yo, .int (nI no), .ref ym, .ref yl, .ref yg, .ref yw, .ref yh, .ref yc, .ref yd, .ref yb, .ref yk, .ref yz, .int (nI 0), .int (b2 fl), .ref yr])), (yg, .inl (E.2.1, 32, .inl k5)), (yw, .inl (E.2.2.1, 64, .inl k6)), (yh, .inl (E.2.2.1, 8, .inl k7)), (yc, .inl (E.2.1, 32, .inl k8)), (yd, .inl (E.2.1, 32, .inl k9)), (yb, .inl (E.2.1, 512, .inl kb)), (yk, .inl (E.2.1, 1920, .inl f)), (yz, .inl (E.2.2.1, 24, .inl sz))] _ _ _ _ d_Mod_act_86 (⟨_, _, _, _, _, _, _, _, rfl, hB, Or.inr ⟨rfl, rfl⟩⟩) rfl hP hS
  · have hP : va_P E.1 clz [(y0, .inr (7, [.ref ya, .int (nI nt), .ref yo, .int (nI no), .ref ym, .ref yl, .ref yg, .ref yw, .ref yh, .ref yc, .ref yd, .ref yb, .ref yk, .ref yz, .int (nI 1), .int (b2 fl), .ref yr])), (yg, .inl (E.2.1, 32, .inl k5)), (yw, .inl (E.2.2.1, 64, .inl k6)), (yh, .inl (E.2.2.1, 8, .inl k7)), (yc, .inl (E.2.1, 32, .inl k8)), (yd, .inl (E.2.1, 32, .inl k9)), (yb, .inl (E.2.1, 512, .inl kb)), (yk, .inl (E.2.1, 1920, .inl f)), (yz, .inl (E.2.2.1, 24, .inl sz))] H := hP
    have hD : va_D A [(y0, .inr (7, [.ref ya, .int (nI nt), .ref yo, .int (nI no), .ref ym, .ref yl, .ref yg, .ref yw, .ref yh, .ref yc, .ref yd, .ref yb, .ref yk, .ref yz, .int (nI 1), .int (b2 fl), .ref yr])), (yg, .inl (E.2.1, 32, .inl k5)), (yw, .inl (E.2.2.1, 64, .inl k6)), (yh, .inl (E.2.2.1, 8, .inl k7)), (yc, .inl (E.2.1, 32, .inl k8)), (yd, .inl (E.2.1, 32, .inl k9)), (yb, .inl (E.2.1, 512, .inl kb)), (yk, .inl (E.2.1, 1920, .inl f)), (yz, .inl (E.2.2.1, 24, .inl sz))] := hD
    refine lv_aload_n hx hb d_Mod_act_0 rfl (lv_at hl 0 rfl) ?_
    refine n_get C fg_Mod_66 hP 0 rfl rfl d_Mod_act_1 ?_
    refine lv_iconst (v := nI 2) hx hb d_Mod_act_4 (by decide) ?_
    refine lv_isub hx hb d_Mod_act_5 ?_
    refine tope (z := (-1)) (by decide) ?_
    refine lv_istore_n (lv' := [(3, .int (-1)), (0, .ref y0), (1, .int (nI 82)), (2, .int ht)]) hx hb d_Mod_act_6 rfl hl (by decide) rfl (fun ls hl => ?_)
    refine lv_aload_n hx hb d_Mod_act_7 rfl (lv_at hl 1 rfl) ?_
    refine n_get C fg_Mod_66 hP 0 rfl rfl d_Mod_act_8 ?_
    refine lv_iconst (v := nI 1) hx hb d_Mod_act_11 (by decide) ?_
    refine lv_isub hx hb d_Mod_act_12 ?_
    refine tope (z := nI 0) (pk_sub (by omega)) ?_
    refine lv_istore (lv' := [(4, .int (nI 0)), (3, .int (-1)), (0, .ref y0), (1, .int (nI 82)), (2, .int ht)]) hx hb d_Mod_act_13 hl (by decide) rfl (fun ls hl => ?_)
    refine lv_iload_n hx hb d_Mod_act_15 rfl (lv_at hl 3 rfl) ?_
    refine lv_bipush (v := nI 82) hx hb d_Mod_act_16 (by decide) ?_
    refine j_eq C 82 82 rfl rfl (by decide) (by decide) d_Mod_act_18 rfl (fun hc4 => ?_) (fun hc4 => absurd hc4 (by decide))
    refine lv_iconst (v := nI 1) hx hb d_Mod_act_51 (by decide) ?_
    refine lv_goto hx hb d_Mod_act_52 rfl ?_
    refine lv_istore (lv' := [(5, .int (nI 1)), (4, .int (nI 0)), (3, .int (-1)), (0, .ref y0), (1, .int (nI 82)), (2, .int ht)]) hx hb d_Mod_act_56 hl (by decide) rfl (fun ls hl => ?_)
    refine lv_aload_n hx hb d_Mod_act_58 rfl (lv_at hl 3 rfl) ?_
    refine n_get C fg_Mod_66 hP 0 rfl rfl d_Mod_act_59 ?_
    refine lv_iload hx hb d_Mod_act_62 (lv_at hl 0 rfl) ?_
    refine z_eq C 1 rfl (by omega) d_Mod_act_64 rfl (fun hc5 => absurd hc5 (by omega)) (fun hc5 => ?_)
    refine lv_iconst (v := nI 2) hx hb d_Mod_act_67 (by decide) ?_
    refine lv_goto hx hb d_Mod_act_68 rfl ?_
    refine j_ge C 1 2 rfl rfl (by decide) (by decide) d_Mod_act_82 rfl (fun hc6 => absurd hc6 (by decide)) (fun hc6 => ?_)
    refine lv_iconst (v := nI 0) hx hb d_Mod_act_85 (by decide) ?_
    exact kret (nI 0) [(y0, .inr (7, [.ref ya, .int (nI nt), .ref yo, .int (nI no), .ref ym, .ref yl, .ref yg, .ref yw, .ref yh, .ref yc, .ref yd, .ref yb, .ref yk, .ref yz, .int (nI 1), .int (b2 fl), .ref yr])), (yg, .inl (E.2.1, 32, .inl k5)), (yw, .inl (E.2.2.1, 64, .inl k6)), (yh, .inl (E.2.2.1, 8, .inl k7)), (yc, .inl (E.2.1, 32, .inl k8)), (yd, .inl (E.2.1, 32, .inl k9)), (yb, .inl (E.2.1, 512, .inl kb)), (yk, .inl (E.2.1, 1920, .inl f)), (yz, .inl (E.2.2.1, 24, .inl sz))] _ _ _ _ d_Mod_act_86 (⟨_, _, _, _, _, _, _, _, rfl, hB, Or.inr ⟨rfl, rfl⟩⟩) rfl hP hS
  · have hx1 : sz (S.length + 1) = nI x.length ∧ x.length ≤ 80 ∧ lay f ((S.length + 1) * 80) x := rep_top hrep
    have hy1 : sz S.length = nI y.length ∧ y.length ≤ 80 ∧ lay f (S.length * 80) y := rep_top (rep_tail hrep)
    have hr0 : rep f sz S := rep_tail (rep_tail hrep)
    have hlen : S.length + 2 ≤ 24 := hlen
    have hP : va_P E.1 clz [(y0, .inr (7, [.ref ya, .int (nI nt), .ref yo, .int (nI no), .ref ym, .ref yl, .ref yg, .ref yw, .ref yh, .ref yc, .ref yd, .ref yb, .ref yk, .ref yz, .int (nI (S.length + 2)), .int (b2 fl), .ref yr])), (yg, .inl (E.2.1, 32, .inl k5)), (yw, .inl (E.2.2.1, 64, .inl k6)), (yh, .inl (E.2.2.1, 8, .inl k7)), (yc, .inl (E.2.1, 32, .inl k8)), (yd, .inl (E.2.1, 32, .inl k9)), (yb, .inl (E.2.1, 512, .inl kb)), (yk, .inl (E.2.1, 1920, .inl f)), (yz, .inl (E.2.2.1, 24, .inl sz))] H := hP
    have hD : va_D A [(y0, .inr (7, [.ref ya, .int (nI nt), .ref yo, .int (nI no), .ref ym, .ref yl, .ref yg, .ref yw, .ref yh, .ref yc, .ref yd, .ref yb, .ref yk, .ref yz, .int (nI (S.length + 2)), .int (b2 fl), .ref yr])), (yg, .inl (E.2.1, 32, .inl k5)), (yw, .inl (E.2.2.1, 64, .inl k6)), (yh, .inl (E.2.2.1, 8, .inl k7)), (yc, .inl (E.2.1, 32, .inl k8)), (yd, .inl (E.2.1, 32, .inl k9)), (yb, .inl (E.2.1, 512, .inl kb)), (yk, .inl (E.2.1, 1920, .inl f)), (yz, .inl (E.2.2.1, 24, .inl sz))] := hD
    refine lv_aload_n hx hb d_Mod_act_0 rfl (lv_at hl 0 rfl) ?_
    refine n_get C fg_Mod_66 hP 0 rfl rfl d_Mod_act_1 ?_
    refine lv_iconst (v := nI 2) hx hb d_Mod_act_4 (by decide) ?_
    refine lv_isub hx hb d_Mod_act_5 ?_
    refine tope (z := nI S.length) ((pk_sub (by omega)).trans (congrArg nI (by omega))) ?_
    refine lv_istore_n (lv' := [(3, .int (nI S.length)), (0, .ref y0), (1, .int (nI 82)), (2, .int ht)]) hx hb d_Mod_act_6 rfl hl (by decide) rfl (fun ls hl => ?_)
    refine lv_aload_n hx hb d_Mod_act_7 rfl (lv_at hl 1 rfl) ?_
    refine n_get C fg_Mod_66 hP 0 rfl rfl d_Mod_act_8 ?_
    refine lv_iconst (v := nI 1) hx hb d_Mod_act_11 (by decide) ?_
    refine lv_isub hx hb d_Mod_act_12 ?_
    refine tope (z := nI (S.length + 1)) ((pk_sub (by omega)).trans (congrArg nI (by omega))) ?_
    refine lv_istore (lv' := [(4, .int (nI (S.length + 1))), (3, .int (nI S.length)), (0, .ref y0), (1, .int (nI 82)), (2, .int ht)]) hx hb d_Mod_act_13 hl (by decide) rfl (fun ls hl => ?_)
    refine lv_iload_n hx hb d_Mod_act_15 rfl (lv_at hl 3 rfl) ?_
    refine lv_bipush (v := nI 82) hx hb d_Mod_act_16 (by decide) ?_
    refine j_eq C 82 82 rfl rfl (by decide) (by decide) d_Mod_act_18 rfl (fun hc7 => ?_) (fun hc7 => absurd hc7 (by decide))
    refine lv_iconst (v := nI 1) hx hb d_Mod_act_51 (by decide) ?_
    refine lv_goto hx hb d_Mod_act_52 rfl ?_
    refine lv_istore (lv' := [(5, .int (nI 1)), (4, .int (nI (S.length + 1))), (3, .int (nI S.length)), (0, .ref y0), (1, .int (nI 82)), (2, .int ht)]) hx hb d_Mod_act_56 hl (by decide) rfl (fun ls hl => ?_)
    refine lv_aload_n hx hb d_Mod_act_58 rfl (lv_at hl 3 rfl) ?_
    refine n_get C fg_Mod_66 hP 0 rfl rfl d_Mod_act_59 ?_
    refine lv_iload hx hb d_Mod_act_62 (lv_at hl 0 rfl) ?_
    refine z_eq C 1 rfl (by omega) d_Mod_act_64 rfl (fun hc8 => absurd hc8 (by omega)) (fun hc8 => ?_)
    refine lv_iconst (v := nI 2) hx hb d_Mod_act_67 (by decide) ?_
    refine lv_goto hx hb d_Mod_act_68 rfl ?_
    refine j_ge C (S.length + 2) 2 rfl rfl (by omega) (by omega) d_Mod_act_82 rfl (fun hc9 => ?_) (fun hc9 => absurd hc9 (by omega))
    refine lv_iload_n hx hb d_Mod_act_87 rfl (lv_at hl 4 rfl) ?_
    refine lv_bipush (v := nI 88) hx hb d_Mod_act_88 (by decide) ?_
    refine j_lt C 82 88 rfl rfl (by decide) (by decide) d_Mod_act_90 rfl (fun hc10 => ?_) (fun hc10 => absurd hc10 (by decide))
    refine lv_iload_n hx hb d_Mod_act_99 rfl (lv_at hl 4 rfl) ?_
    refine lv_bipush (v := nI 96) hx hb d_Mod_act_100 (by decide) ?_
    refine j_ne C 82 96 rfl rfl (by decide) (by decide) d_Mod_act_102 rfl (fun hc11 => ?_) (fun hc11 => absurd hc11 (by decide))
    refine lv_iconst (v := nI 0) hx hb d_Mod_act_109 (by decide) ?_
    refine lv_istore (lv' := [(6, .int (nI 0)), (5, .int (nI 1)), (4, .int (nI (S.length + 1))), (3, .int (nI S.length)), (0, .ref y0), (1, .int (nI 82)), (2, .int ht)]) hx hb d_Mod_act_110 hl (by decide) rfl (fun ls hl => ?_)
    refine lv_iload hx hb d_Mod_act_112 (lv_at hl 0 rfl) ?_
    refine z_eq C 0 rfl (by omega) d_Mod_act_114 rfl (fun hc12 => ?_) (fun hc12 => absurd hc12 (by omega))
    refine lv_iload hx hb d_Mod_act_145 (lv_at hl 1 rfl) ?_
    refine z_eq C 1 rfl (by omega) d_Mod_act_147 rfl (fun hc13 => absurd hc13 (by omega)) (fun hc13 => ?_)
    refine lv_iload hx hb d_Mod_act_150 (lv_at hl 0 rfl) ?_
    refine z_eq C 0 rfl (by omega) d_Mod_act_152 rfl (fun hc14 => ?_) (fun hc14 => absurd hc14 (by omega))
    refine lv_iconst (v := nI 0) hx hb d_Mod_act_163 (by decide) ?_
    refine lv_istore (lv' := [(7, .int (nI 0)), (6, .int (nI 0)), (5, .int (nI 1)), (4, .int (nI (S.length + 1))), (3, .int (nI S.length)), (0, .ref y0), (1, .int (nI 82)), (2, .int ht)]) hx hb d_Mod_act_164 hl (by decide) rfl (fun ls hl => ?_)
    refine lv_iload hx hb d_Mod_act_166 (lv_at hl 1 rfl) ?_
    refine z_eq C 0 rfl (by omega) d_Mod_act_168 rfl (fun hc15 => ?_) (fun hc15 => absurd hc15 (by omega))
    refine lv_iconst (v := nI 0) hx hb d_Mod_act_180 (by decide) ?_
    refine lv_istore (lv' := [(8, .int (nI 0)), (7, .int (nI 0)), (6, .int (nI 0)), (5, .int (nI 1)), (4, .int (nI (S.length + 1))), (3, .int (nI S.length)), (0, .ref y0), (1, .int (nI 82)), (2, .int ht)]) hx hb d_Mod_act_181 hl (by decide) rfl (fun ls hl => ?_)
    refine lv_iload_n hx hb d_Mod_act_183 rfl (lv_at hl 7 rfl) ?_
    refine lv_tableIn hx hb d_Mod_act_184 (by decide) (by decide) rfl rfl ?_
    refine lv_iconst (v := nI 0) hx hb d_Mod_act_325 (by decide) ?_
    refine lv_istore (lv' := [(9, .int (nI 0)), (8, .int (nI 0)), (7, .int (nI 0)), (6, .int (nI 0)), (5, .int (nI 1)), (4, .int (nI (S.length + 1))), (3, .int (nI S.length)), (0, .ref y0), (1, .int (nI 82)), (2, .int ht)]) hx hb d_Mod_act_326 hl (by decide) rfl (fun ls hl => ?_)
    rw [← swp_0 f (S.length * 80)] at hP hD
    have hloop328 : ∀ (dd : Nat) (i : Nat) (H : Heap) (locs : List Loc) (ls : Array Slot), 80 - i < dd → (i ≤ 80) → va_P E.1 clz [(y0, .inr (7, [.ref ya, .int (nI nt), .ref yo, .int (nI no), .ref ym, .ref yl, .ref yg, .ref yw, .ref yh, .ref yc, .ref yd, .ref yb, .ref yk, .ref yz, .int (nI (S.length + 2)), .int (b2 fl), .ref yr])), (yg, .inl (E.2.1, 32, .inl k5)), (yw, .inl (E.2.2.1, 64, .inl k6)), (yh, .inl (E.2.2.1, 8, .inl k7)), (yc, .inl (E.2.1, 32, .inl k8)), (yd, .inl (E.2.1, 32, .inl k9)), (yb, .inl (E.2.1, 512, .inl kb)), (yk, .inl (E.2.1, 1920, .inl (swp f (S.length * 80) i))), (yz, .inl (E.2.2.1, 24, .inl sz))] H → va_D A [(y0, .inr (7, [.ref ya, .int (nI nt), .ref yo, .int (nI no), .ref ym, .ref yl, .ref yg, .ref yw, .ref yh, .ref yc, .ref yd, .ref yb, .ref yk, .ref yz, .int (nI (S.length + 2)), .int (b2 fl), .ref yr])), (yg, .inl (E.2.1, 32, .inl k5)), (yw, .inl (E.2.2.1, 64, .inl k6)), (yh, .inl (E.2.2.1, 8, .inl k7)), (yc, .inl (E.2.1, 32, .inl k8)), (yd, .inl (E.2.1, 32, .inl k9)), (yb, .inl (E.2.1, 512, .inl kb)), (yk, .inl (E.2.1, 1920, .inl (swp f (S.length * 80) i))), (yz, .inl (E.2.2.1, 24, .inl sz))] → va_S A s.heap H locs → lv_has ls 11 [(9, .int (nI i)), (4, .int (nI (S.length + 1))), (3, .int (nI S.length)), (0, .ref y0)] → W p l e (rmd 4) s m args below meth c H locs 0 0 Q (F0 m 328 ls []) := by
      intro dd
      induction dd with
      | zero => intro i H locs ls hmz; exact absurd hmz (Nat.not_lt_zero _)
      | succ dd ih328 =>
        intro i H locs ls hmz hi hP hD hS hl
        refine lv_iload hx hb d_Mod_act_328 (lv_at hl 0 rfl) ?_
        refine lv_bipush (v := nI 80) hx hb d_Mod_act_330 (by decide) ?_
        refine j_ge C i 80 rfl rfl (by omega) (by omega) d_Mod_act_332 rfl (fun hc16 => ?_) (fun hc16 => ?_)
        · obtain rfl : i = 80 := by omega
          refine lv_aload_n hx hb d_Mod_act_395 rfl (lv_at hl 3 rfl) ?_
          refine n_get C fg_Mod_44 hP 0 rfl rfl d_Mod_act_396 ?_
          refine lv_iload_n hx hb d_Mod_act_399 rfl (lv_at hl 2 rfl) ?_
          refine n_iald C hP 8 rfl S.length rfl (by omega) (by omega) d_Mod_act_400 ?_
          refine lv_istore (lv' := [(9, .int (sz S.length)), (4, .int (nI (S.length + 1))), (3, .int (nI S.length)), (0, .ref y0)]) hx hb d_Mod_act_401 hl (by decide) rfl (fun ls hl => ?_)
          refine lv_aload_n hx hb d_Mod_act_403 rfl (lv_at hl 3 rfl) ?_
          refine n_get C fg_Mod_44 hP 0 rfl rfl d_Mod_act_404 ?_
          refine lv_iload_n hx hb d_Mod_act_407 rfl (lv_at hl 2 rfl) ?_
          refine lv_aload_n hx hb d_Mod_act_408 rfl (lv_at hl 3 rfl) ?_
          refine n_get C fg_Mod_44 hP 0 rfl rfl d_Mod_act_409 ?_
          refine lv_iload hx hb d_Mod_act_412 (lv_at hl 1 rfl) ?_
          refine n_iald C hP 8 rfl (S.length + 1) rfl (by omega) (by omega) d_Mod_act_414 ?_
          refine n_iast C hP hD hS 8 rfl S.length rfl (by omega) (by omega) d_Mod_act_415 (fun H locs hP hD hS => ?_)
          have hP : va_P E.1 clz [(y0, .inr (7, [.ref ya, .int (nI nt), .ref yo, .int (nI no), .ref ym, .ref yl, .ref yg, .ref yw, .ref yh, .ref yc, .ref yd, .ref yb, .ref yk, .ref yz, .int (nI (S.length + 2)), .int (b2 fl), .ref yr])), (yg, .inl (E.2.1, 32, .inl k5)), (yw, .inl (E.2.2.1, 64, .inl k6)), (yh, .inl (E.2.2.1, 8, .inl k7)), (yc, .inl (E.2.1, 32, .inl k8)), (yd, .inl (E.2.1, 32, .inl k9)), (yb, .inl (E.2.1, 512, .inl kb)), (yk, .inl (E.2.1, 1920, .inl (swp f (S.length * 80) 80))), (yz, .inl (E.2.2.1, 24, .inl (upd sz S.length (sz (S.length + 1)))))] H := hP
          have hD : va_D A [(y0, .inr (7, [.ref ya, .int (nI nt), .ref yo, .int (nI no), .ref ym, .ref yl, .ref yg, .ref yw, .ref yh, .ref yc, .ref yd, .ref yb, .ref yk, .ref yz, .int (nI (S.length + 2)), .int (b2 fl), .ref yr])), (yg, .inl (E.2.1, 32, .inl k5)), (yw, .inl (E.2.2.1, 64, .inl k6)), (yh, .inl (E.2.2.1, 8, .inl k7)), (yc, .inl (E.2.1, 32, .inl k8)), (yd, .inl (E.2.1, 32, .inl k9)), (yb, .inl (E.2.1, 512, .inl kb)), (yk, .inl (E.2.1, 1920, .inl (swp f (S.length * 80) 80))), (yz, .inl (E.2.2.1, 24, .inl (upd sz S.length (sz (S.length + 1)))))] := hD
          refine lv_aload_n hx hb d_Mod_act_416 rfl (lv_at hl 3 rfl) ?_
          refine n_get C fg_Mod_44 hP 0 rfl rfl d_Mod_act_417 ?_
          refine lv_iload hx hb d_Mod_act_420 (lv_at hl 1 rfl) ?_
          refine lv_iload hx hb d_Mod_act_422 (lv_at hl 0 rfl) ?_
          refine n_iast C hP hD hS 8 rfl (S.length + 1) rfl (by omega) (by omega) d_Mod_act_424 (fun H locs hP hD hS => ?_)
          have hP : va_P E.1 clz [(y0, .inr (7, [.ref ya, .int (nI nt), .ref yo, .int (nI no), .ref ym, .ref yl, .ref yg, .ref yw, .ref yh, .ref yc, .ref yd, .ref yb, .ref yk, .ref yz, .int (nI (S.length + 2)), .int (b2 fl), .ref yr])), (yg, .inl (E.2.1, 32, .inl k5)), (yw, .inl (E.2.2.1, 64, .inl k6)), (yh, .inl (E.2.2.1, 8, .inl k7)), (yc, .inl (E.2.1, 32, .inl k8)), (yd, .inl (E.2.1, 32, .inl k9)), (yb, .inl (E.2.1, 512, .inl kb)), (yk, .inl (E.2.1, 1920, .inl (swp f (S.length * 80) 80))), (yz, .inl (E.2.2.1, 24, .inl (upd (upd sz S.length (sz (S.length + 1))) (S.length + 1) (sz S.length))))] H := hP
          have hD : va_D A [(y0, .inr (7, [.ref ya, .int (nI nt), .ref yo, .int (nI no), .ref ym, .ref yl, .ref yg, .ref yw, .ref yh, .ref yc, .ref yd, .ref yb, .ref yk, .ref yz, .int (nI (S.length + 2)), .int (b2 fl), .ref yr])), (yg, .inl (E.2.1, 32, .inl k5)), (yw, .inl (E.2.2.1, 64, .inl k6)), (yh, .inl (E.2.2.1, 8, .inl k7)), (yc, .inl (E.2.1, 32, .inl k8)), (yd, .inl (E.2.1, 32, .inl k9)), (yb, .inl (E.2.1, 512, .inl kb)), (yk, .inl (E.2.1, 1920, .inl (swp f (S.length * 80) 80))), (yz, .inl (E.2.2.1, 24, .inl (upd (upd sz S.length (sz (S.length + 1))) (S.length + 1) (sz S.length))))] := hD
          refine lv_iconst (v := nI 1) hx hb d_Mod_act_425 (by decide) ?_
          exact kret (nI 1) [(y0, .inr (7, [.ref ya, .int (nI nt), .ref yo, .int (nI no), .ref ym, .ref yl, .ref yg, .ref yw, .ref yh, .ref yc, .ref yd, .ref yb, .ref yk, .ref yz, .int (nI (S.length + 2)), .int (b2 fl), .ref yr])), (yg, .inl (E.2.1, 32, .inl k5)), (yw, .inl (E.2.2.1, 64, .inl k6)), (yh, .inl (E.2.2.1, 8, .inl k7)), (yc, .inl (E.2.1, 32, .inl k8)), (yd, .inl (E.2.1, 32, .inl k9)), (yb, .inl (E.2.1, 512, .inl kb)), (yk, .inl (E.2.1, 1920, .inl (swp f (S.length * 80) 80))), (yz, .inl (E.2.2.1, 24, .inl (upd (upd sz S.length (sz (S.length + 1))) (S.length + 1) (sz S.length))))] _ _ _ _ d_Mod_act_426 (⟨_, _, _, _, _, _, _, _, rfl, swp_B _ _ hB, Or.inl ⟨(y :: x :: S), rfl, rfl, by first | rfl | (simp only [List.length_cons]; omega) | (simp only [List.length_cons]), rep_swp hrep, by first | (simp only [List.length_cons]; omega) | (simp only [List.length_cons]) | omega⟩⟩) rfl hP hS
        · refine lv_aload_n hx hb d_Mod_act_335 rfl (lv_at hl 3 rfl) ?_
          refine n_get C fg_Mod_41 hP 0 rfl rfl d_Mod_act_336 ?_
          refine lv_bipush (v := nI 80) hx hb d_Mod_act_339 (by decide) ?_
          refine lv_iload_n hx hb d_Mod_act_341 rfl (lv_at hl 2 rfl) ?_
          refine lv_imul hx hb d_Mod_act_342 ?_
          refine tope (z := nI (S.length * 80)) ((pk_mul _ _).trans (congrArg nI (Nat.mul_comm _ _))) ?_
          refine lv_iload hx hb d_Mod_act_343 (lv_at hl 0 rfl) ?_
          refine lv_iadd hx hb d_Mod_act_345 ?_
          refine tope (z := nI ((S.length * 80) + i)) (nI_add _ _) ?_
          refine n_bald C hP 7 rfl ((S.length * 80) + i) rfl (by omega) (by omega) d_Mod_act_346 ?_
          refine lv_istore (lv' := [(10, .int ((swp f (S.length * 80) i) ((S.length * 80) + i))), (9, .int (nI i)), (4, .int (nI (S.length + 1))), (3, .int (nI S.length)), (0, .ref y0)]) hx hb d_Mod_act_347 hl (by decide) rfl (fun ls hl => ?_)
          refine lv_aload_n hx hb d_Mod_act_349 rfl (lv_at hl 4 rfl) ?_
          refine n_get C fg_Mod_41 hP 0 rfl rfl d_Mod_act_350 ?_
          refine lv_bipush (v := nI 80) hx hb d_Mod_act_353 (by decide) ?_
          refine lv_iload_n hx hb d_Mod_act_355 rfl (lv_at hl 3 rfl) ?_
          refine lv_imul hx hb d_Mod_act_356 ?_
          refine tope (z := nI (S.length * 80)) ((pk_mul _ _).trans (congrArg nI (Nat.mul_comm _ _))) ?_
          refine lv_iload hx hb d_Mod_act_357 (lv_at hl 1 rfl) ?_
          refine lv_iadd hx hb d_Mod_act_359 ?_
          refine tope (z := nI ((S.length * 80) + i)) (nI_add _ _) ?_
          refine lv_aload_n hx hb d_Mod_act_360 rfl (lv_at hl 4 rfl) ?_
          refine n_get C fg_Mod_41 hP 0 rfl rfl d_Mod_act_361 ?_
          refine lv_bipush (v := nI 80) hx hb d_Mod_act_364 (by decide) ?_
          refine lv_iload hx hb d_Mod_act_366 (lv_at hl 2 rfl) ?_
          refine lv_imul hx hb d_Mod_act_368 ?_
          refine tope (z := nI ((S.length + 1) * 80)) ((pk_mul _ _).trans (congrArg nI (Nat.mul_comm _ _))) ?_
          refine lv_iload hx hb d_Mod_act_369 (lv_at hl 1 rfl) ?_
          refine lv_iadd hx hb d_Mod_act_371 ?_
          refine tope (z := nI (((S.length + 1) * 80) + i)) (nI_add _ _) ?_
          refine tope (z := nI (S.length * 80 + i + 80)) (congrArg nI (by omega)) ?_
          refine n_bald C hP 7 rfl (S.length * 80 + i + 80) rfl (by omega) (by omega) d_Mod_act_372 ?_
          refine n_bast (z := (swp f (S.length * 80) i) (S.length * 80 + i + 80)) C hP hD hS 7 rfl ((S.length * 80) + i) rfl ((swp_B (S.length * 80) i hB) _) (by omega) (by omega) d_Mod_act_373 (fun H locs hP hD hS => ?_)
          have hP : va_P E.1 clz [(y0, .inr (7, [.ref ya, .int (nI nt), .ref yo, .int (nI no), .ref ym, .ref yl, .ref yg, .ref yw, .ref yh, .ref yc, .ref yd, .ref yb, .ref yk, .ref yz, .int (nI (S.length + 2)), .int (b2 fl), .ref yr])), (yg, .inl (E.2.1, 32, .inl k5)), (yw, .inl (E.2.2.1, 64, .inl k6)), (yh, .inl (E.2.2.1, 8, .inl k7)), (yc, .inl (E.2.1, 32, .inl k8)), (yd, .inl (E.2.1, 32, .inl k9)), (yb, .inl (E.2.1, 512, .inl kb)), (yk, .inl (E.2.1, 1920, .inl (upd (swp f (S.length * 80) i) ((S.length * 80) + i) ((swp f (S.length * 80) i) (S.length * 80 + i + 80))))), (yz, .inl (E.2.2.1, 24, .inl sz))] H := hP
          have hD : va_D A [(y0, .inr (7, [.ref ya, .int (nI nt), .ref yo, .int (nI no), .ref ym, .ref yl, .ref yg, .ref yw, .ref yh, .ref yc, .ref yd, .ref yb, .ref yk, .ref yz, .int (nI (S.length + 2)), .int (b2 fl), .ref yr])), (yg, .inl (E.2.1, 32, .inl k5)), (yw, .inl (E.2.2.1, 64, .inl k6)), (yh, .inl (E.2.2.1, 8, .inl k7)), (yc, .inl (E.2.1, 32, .inl k8)), (yd, .inl (E.2.1, 32, .inl k9)), (yb, .inl (E.2.1, 512, .inl kb)), (yk, .inl (E.2.1, 1920, .inl (upd (swp f (S.length * 80) i) ((S.length * 80) + i) ((swp f (S.length * 80) i) (S.length * 80 + i + 80))))), (yz, .inl (E.2.2.1, 24, .inl sz))] := hD
          refine lv_aload_n hx hb d_Mod_act_374 rfl (lv_at hl 4 rfl) ?_
          refine n_get C fg_Mod_41 hP 0 rfl rfl d_Mod_act_375 ?_
          refine lv_bipush (v := nI 80) hx hb d_Mod_act_378 (by decide) ?_
          refine lv_iload hx hb d_Mod_act_380 (lv_at hl 2 rfl) ?_
          refine lv_imul hx hb d_Mod_act_382 ?_
          refine tope (z := nI ((S.length + 1) * 80)) ((pk_mul _ _).trans (congrArg nI (Nat.mul_comm _ _))) ?_
          refine lv_iload hx hb d_Mod_act_383 (lv_at hl 1 rfl) ?_
          refine lv_iadd hx hb d_Mod_act_385 ?_
          refine tope (z := nI (((S.length + 1) * 80) + i)) (nI_add _ _) ?_
          refine tope (z := nI (S.length * 80 + i + 80)) (congrArg nI (by omega)) ?_
          refine lv_iload hx hb d_Mod_act_386 (lv_at hl 0 rfl) ?_
          refine n_bast (z := (swp f (S.length * 80) i) ((S.length * 80) + i)) C hP hD hS 7 rfl (S.length * 80 + i + 80) rfl ((swp_B (S.length * 80) i hB) _) (by omega) (by omega) d_Mod_act_388 (fun H locs hP hD hS => ?_)
          have hP : va_P E.1 clz [(y0, .inr (7, [.ref ya, .int (nI nt), .ref yo, .int (nI no), .ref ym, .ref yl, .ref yg, .ref yw, .ref yh, .ref yc, .ref yd, .ref yb, .ref yk, .ref yz, .int (nI (S.length + 2)), .int (b2 fl), .ref yr])), (yg, .inl (E.2.1, 32, .inl k5)), (yw, .inl (E.2.2.1, 64, .inl k6)), (yh, .inl (E.2.2.1, 8, .inl k7)), (yc, .inl (E.2.1, 32, .inl k8)), (yd, .inl (E.2.1, 32, .inl k9)), (yb, .inl (E.2.1, 512, .inl kb)), (yk, .inl (E.2.1, 1920, .inl (upd (upd (swp f (S.length * 80) i) ((S.length * 80) + i) ((swp f (S.length * 80) i) (S.length * 80 + i + 80))) (S.length * 80 + i + 80) ((swp f (S.length * 80) i) ((S.length * 80) + i))))), (yz, .inl (E.2.2.1, 24, .inl sz))] H := hP
          have hD : va_D A [(y0, .inr (7, [.ref ya, .int (nI nt), .ref yo, .int (nI no), .ref ym, .ref yl, .ref yg, .ref yw, .ref yh, .ref yc, .ref yd, .ref yb, .ref yk, .ref yz, .int (nI (S.length + 2)), .int (b2 fl), .ref yr])), (yg, .inl (E.2.1, 32, .inl k5)), (yw, .inl (E.2.2.1, 64, .inl k6)), (yh, .inl (E.2.2.1, 8, .inl k7)), (yc, .inl (E.2.1, 32, .inl k8)), (yd, .inl (E.2.1, 32, .inl k9)), (yb, .inl (E.2.1, 512, .inl kb)), (yk, .inl (E.2.1, 1920, .inl (upd (upd (swp f (S.length * 80) i) ((S.length * 80) + i) ((swp f (S.length * 80) i) (S.length * 80 + i + 80))) (S.length * 80 + i + 80) ((swp f (S.length * 80) i) ((S.length * 80) + i))))), (yz, .inl (E.2.2.1, 24, .inl sz))] := hD
          rw [swp_s f (S.length * 80) i (by omega)] at hP hD
          have hP : va_P E.1 clz [(y0, .inr (7, [.ref ya, .int (nI nt), .ref yo, .int (nI no), .ref ym, .ref yl, .ref yg, .ref yw, .ref yh, .ref yc, .ref yd, .ref yb, .ref yk, .ref yz, .int (nI (S.length + 2)), .int (b2 fl), .ref yr])), (yg, .inl (E.2.1, 32, .inl k5)), (yw, .inl (E.2.2.1, 64, .inl k6)), (yh, .inl (E.2.2.1, 8, .inl k7)), (yc, .inl (E.2.1, 32, .inl k8)), (yd, .inl (E.2.1, 32, .inl k9)), (yb, .inl (E.2.1, 512, .inl kb)), (yk, .inl (E.2.1, 1920, .inl (swp f (S.length * 80) (i + 1)))), (yz, .inl (E.2.2.1, 24, .inl sz))] H := hP
          have hD : va_D A [(y0, .inr (7, [.ref ya, .int (nI nt), .ref yo, .int (nI no), .ref ym, .ref yl, .ref yg, .ref yw, .ref yh, .ref yc, .ref yd, .ref yb, .ref yk, .ref yz, .int (nI (S.length + 2)), .int (b2 fl), .ref yr])), (yg, .inl (E.2.1, 32, .inl k5)), (yw, .inl (E.2.2.1, 64, .inl k6)), (yh, .inl (E.2.2.1, 8, .inl k7)), (yc, .inl (E.2.1, 32, .inl k8)), (yd, .inl (E.2.1, 32, .inl k9)), (yb, .inl (E.2.1, 512, .inl kb)), (yk, .inl (E.2.1, 1920, .inl (swp f (S.length * 80) (i + 1)))), (yz, .inl (E.2.2.1, 24, .inl sz))] := hD
          refine lv_iinc (k := 1) (v := nI (i + 1)) (lv' := [(9, .int (nI (i + 1))), (10, .int ((swp f (S.length * 80) i) ((S.length * 80) + i))), (4, .int (nI (S.length + 1))), (3, .int (nI S.length)), (0, .ref y0)]) hx hb d_Mod_act_389 hl rfl (iincK i 1) (by decide) rfl (fun ls hl => ?_)
          refine lv_goto hx hb d_Mod_act_392 rfl ?_
          exact ih328 (i + 1) H locs ls (by omega) (by omega) hP hD hS (lv_sub hl [0, 2, 3, 4] rfl)
    exact hloop328 (80 + 1) 0 H locs ls (by omega) (by omega) hP hD hS (lv_sub hl [0, 5, 6, 7] rfl)

set_option maxHeartbeats 4000000 in
set_option maxRecDepth 100000 in
theorem c_act_86 (l : Launch) (E : En) (y0 ya yo ym yl yg yw yh yc yd yb yk yz yr nt no : Nat) (fl : Bool) (k5 k6 k7 k8 k9 kb f sz : Nat → Int32) (S : Stk) (msg : Byl) (hrep : rep f sz S) (hB : fB f) (hB5 : fB k5) (hlen : S.length ≤ 24) (hm : lay k5 0 msg) (hm32 : msg.length = 32) (ht : Int32) : CtI l y_Mod_act b_Mod_act 11 .boolean (rmd 4) E [.ref y0, .int (nI 86), .int ht] [(y0, .inr (7, [.ref ya, .int (nI nt), .ref yo, .int (nI no), .ref ym, .ref yl, .ref yg, .ref yw, .ref yh, .ref yc, .ref yd, .ref yb, .ref yk, .ref yz, .int (nI S.length), .int (b2 fl), .ref yr])), (yg, .inl (E.2.1, 32, .inl k5)), (yw, .inl (E.2.2.1, 64, .inl k6)), (yh, .inl (E.2.2.1, 8, .inl k7)), (yc, .inl (E.2.1, 32, .inl k8)), (yd, .inl (E.2.1, 32, .inl k9)), (yb, .inl (E.2.1, 512, .inl kb)), (yk, .inl (E.2.1, 1920, .inl f)), (yz, .inl (E.2.2.1, 24, .inl sz))] (stepM E y0 ya yo ym yl yg yw yh yc yd yb yk yz yr nt no fl k5 (actS 86 ht msg S)) := by
  refine CtI.of (by decide) (Nat.le_of_ble_eq_true rfl) (stepM_nar) ?_
  intro p e s m args below meth c A Q H locs ls C hP hD hS hl kret
  have hx := C.1
  have hb := C.2.1
  have hl : lv_has ls 11 [(0, .ref y0), (1, .int (nI 86)), (2, .int ht)] := hl
  rcases S with _ | ⟨x, _ | ⟨y, S⟩⟩
  · have hP : va_P E.1 clz [(y0, .inr (7, [.ref ya, .int (nI nt), .ref yo, .int (nI no), .ref ym, .ref yl, .ref yg, .ref yw, .ref yh, .ref yc, .ref yd, .ref yb, .ref yk, .ref yz, .int (nI 0), .int (b2 fl), .ref yr])), (yg, .inl (E.2.1, 32, .inl k5)), (yw, .inl (E.2.2.1, 64, .inl k6)), (yh, .inl (E.2.2.1, 8, .inl k7)), (yc, .inl (E.2.1, 32, .inl k8)), (yd, .inl (E.2.1, 32, .inl k9)), (yb, .inl (E.2.1, 512, .inl kb)), (yk, .inl (E.2.1, 1920, .inl f)), (yz, .inl (E.2.2.1, 24, .inl sz))] H := hP
    have hD : va_D A [(y0, .inr (7, [.ref ya, .int (nI nt), .ref yo, .int (nI no), .ref ym, .ref yl, .ref yg, .ref yw, .ref yh, .ref yc, .ref yd, .ref yb, .ref yk, .ref yz, .int (nI 0), .int (b2 fl), .ref yr])), (yg, .inl (E.2.1, 32, .inl k5)), (yw, .inl (E.2.2.1, 64, .inl k6)), (yh, .inl (E.2.2.1, 8, .inl k7)), (yc, .inl (E.2.1, 32, .inl k8)), (yd, .inl (E.2.1, 32, .inl k9)), (yb, .inl (E.2.1, 512, .inl kb)), (yk, .inl (E.2.1, 1920, .inl f)), (yz, .inl (E.2.2.1, 24, .inl sz))] := hD
    refine lv_aload_n hx hb d_Mod_act_0 rfl (lv_at hl 0 rfl) ?_
    refine n_get C fg_Mod_66 hP 0 rfl rfl d_Mod_act_1 ?_
    refine lv_iconst (v := nI 2) hx hb d_Mod_act_4 (by decide) ?_
    refine lv_isub hx hb d_Mod_act_5 ?_
    refine tope (z := (-2)) (by decide) ?_
    refine lv_istore_n (lv' := [(3, .int (-2)), (0, .ref y0), (1, .int (nI 86)), (2, .int ht)]) hx hb d_Mod_act_6 rfl hl (by decide) rfl (fun ls hl => ?_)
    refine lv_aload_n hx hb d_Mod_act_7 rfl (lv_at hl 1 rfl) ?_
    refine n_get C fg_Mod_66 hP 0 rfl rfl d_Mod_act_8 ?_
    refine lv_iconst (v := nI 1) hx hb d_Mod_act_11 (by decide) ?_
    refine lv_isub hx hb d_Mod_act_12 ?_
    refine tope (z := (-1)) (by decide) ?_
    refine lv_istore (lv' := [(4, .int (-1)), (3, .int (-2)), (0, .ref y0), (1, .int (nI 86)), (2, .int ht)]) hx hb d_Mod_act_13 hl (by decide) rfl (fun ls hl => ?_)
    refine lv_iload_n hx hb d_Mod_act_15 rfl (lv_at hl 3 rfl) ?_
    refine lv_bipush (v := nI 82) hx hb d_Mod_act_16 (by decide) ?_
    refine j_eq C 86 82 rfl rfl (by decide) (by decide) d_Mod_act_18 rfl (fun hc1 => absurd hc1 (by decide)) (fun hc1 => ?_)
    refine lv_iload_n hx hb d_Mod_act_21 rfl (lv_at hl 3 rfl) ?_
    refine lv_bipush (v := nI 83) hx hb d_Mod_act_22 (by decide) ?_
    refine j_eq C 86 83 rfl rfl (by decide) (by decide) d_Mod_act_24 rfl (fun hc2 => absurd hc2 (by decide)) (fun hc2 => ?_)
    refine lv_iload_n hx hb d_Mod_act_27 rfl (lv_at hl 3 rfl) ?_
    refine lv_bipush (v := nI 86) hx hb d_Mod_act_28 (by decide) ?_
    refine j_eq C 86 86 rfl rfl (by decide) (by decide) d_Mod_act_30 rfl (fun hc3 => ?_) (fun hc3 => absurd hc3 (by decide))
    refine lv_iconst (v := nI 1) hx hb d_Mod_act_51 (by decide) ?_
    refine lv_goto hx hb d_Mod_act_52 rfl ?_
    refine lv_istore (lv' := [(5, .int (nI 1)), (4, .int (-1)), (3, .int (-2)), (0, .ref y0), (1, .int (nI 86)), (2, .int ht)]) hx hb d_Mod_act_56 hl (by decide) rfl (fun ls hl => ?_)
    refine lv_aload_n hx hb d_Mod_act_58 rfl (lv_at hl 3 rfl) ?_
    refine n_get C fg_Mod_66 hP 0 rfl rfl d_Mod_act_59 ?_
    refine lv_iload hx hb d_Mod_act_62 (lv_at hl 0 rfl) ?_
    refine z_eq C 1 rfl (by omega) d_Mod_act_64 rfl (fun hc4 => absurd hc4 (by omega)) (fun hc4 => ?_)
    refine lv_iconst (v := nI 2) hx hb d_Mod_act_67 (by decide) ?_
    refine lv_goto hx hb d_Mod_act_68 rfl ?_
    refine j_ge C 0 2 rfl rfl (by decide) (by decide) d_Mod_act_82 rfl (fun hc5 => absurd hc5 (by decide)) (fun hc5 => ?_)
    refine lv_iconst (v := nI 0) hx hb d_Mod_act_85 (by decide) ?_
    exact kret (nI 0) [(y0, .inr (7, [.ref ya, .int (nI nt), .ref yo, .int (nI no), .ref ym, .ref yl, .ref yg, .ref yw, .ref yh, .ref yc, .ref yd, .ref yb, .ref yk, .ref yz, .int (nI 0), .int (b2 fl), .ref yr])), (yg, .inl (E.2.1, 32, .inl k5)), (yw, .inl (E.2.2.1, 64, .inl k6)), (yh, .inl (E.2.2.1, 8, .inl k7)), (yc, .inl (E.2.1, 32, .inl k8)), (yd, .inl (E.2.1, 32, .inl k9)), (yb, .inl (E.2.1, 512, .inl kb)), (yk, .inl (E.2.1, 1920, .inl f)), (yz, .inl (E.2.2.1, 24, .inl sz))] _ _ _ _ d_Mod_act_86 (⟨_, _, _, _, _, _, _, _, rfl, hB, Or.inr ⟨rfl, rfl⟩⟩) rfl hP hS
  · have hP : va_P E.1 clz [(y0, .inr (7, [.ref ya, .int (nI nt), .ref yo, .int (nI no), .ref ym, .ref yl, .ref yg, .ref yw, .ref yh, .ref yc, .ref yd, .ref yb, .ref yk, .ref yz, .int (nI 1), .int (b2 fl), .ref yr])), (yg, .inl (E.2.1, 32, .inl k5)), (yw, .inl (E.2.2.1, 64, .inl k6)), (yh, .inl (E.2.2.1, 8, .inl k7)), (yc, .inl (E.2.1, 32, .inl k8)), (yd, .inl (E.2.1, 32, .inl k9)), (yb, .inl (E.2.1, 512, .inl kb)), (yk, .inl (E.2.1, 1920, .inl f)), (yz, .inl (E.2.2.1, 24, .inl sz))] H := hP
    have hD : va_D A [(y0, .inr (7, [.ref ya, .int (nI nt), .ref yo, .int (nI no), .ref ym, .ref yl, .ref yg, .ref yw, .ref yh, .ref yc, .ref yd, .ref yb, .ref yk, .ref yz, .int (nI 1), .int (b2 fl), .ref yr])), (yg, .inl (E.2.1, 32, .inl k5)), (yw, .inl (E.2.2.1, 64, .inl k6)), (yh, .inl (E.2.2.1, 8, .inl k7)), (yc, .inl (E.2.1, 32, .inl k8)), (yd, .inl (E.2.1, 32, .inl k9)), (yb, .inl (E.2.1, 512, .inl kb)), (yk, .inl (E.2.1, 1920, .inl f)), (yz, .inl (E.2.2.1, 24, .inl sz))] := hD
    refine lv_aload_n hx hb d_Mod_act_0 rfl (lv_at hl 0 rfl) ?_
    refine n_get C fg_Mod_66 hP 0 rfl rfl d_Mod_act_1 ?_
    refine lv_iconst (v := nI 2) hx hb d_Mod_act_4 (by decide) ?_
    refine lv_isub hx hb d_Mod_act_5 ?_
    refine tope (z := (-1)) (by decide) ?_
    refine lv_istore_n (lv' := [(3, .int (-1)), (0, .ref y0), (1, .int (nI 86)), (2, .int ht)]) hx hb d_Mod_act_6 rfl hl (by decide) rfl (fun ls hl => ?_)
    refine lv_aload_n hx hb d_Mod_act_7 rfl (lv_at hl 1 rfl) ?_
    refine n_get C fg_Mod_66 hP 0 rfl rfl d_Mod_act_8 ?_
    refine lv_iconst (v := nI 1) hx hb d_Mod_act_11 (by decide) ?_
    refine lv_isub hx hb d_Mod_act_12 ?_
    refine tope (z := nI 0) (pk_sub (by omega)) ?_
    refine lv_istore (lv' := [(4, .int (nI 0)), (3, .int (-1)), (0, .ref y0), (1, .int (nI 86)), (2, .int ht)]) hx hb d_Mod_act_13 hl (by decide) rfl (fun ls hl => ?_)
    refine lv_iload_n hx hb d_Mod_act_15 rfl (lv_at hl 3 rfl) ?_
    refine lv_bipush (v := nI 82) hx hb d_Mod_act_16 (by decide) ?_
    refine j_eq C 86 82 rfl rfl (by decide) (by decide) d_Mod_act_18 rfl (fun hc6 => absurd hc6 (by decide)) (fun hc6 => ?_)
    refine lv_iload_n hx hb d_Mod_act_21 rfl (lv_at hl 3 rfl) ?_
    refine lv_bipush (v := nI 83) hx hb d_Mod_act_22 (by decide) ?_
    refine j_eq C 86 83 rfl rfl (by decide) (by decide) d_Mod_act_24 rfl (fun hc7 => absurd hc7 (by decide)) (fun hc7 => ?_)
    refine lv_iload_n hx hb d_Mod_act_27 rfl (lv_at hl 3 rfl) ?_
    refine lv_bipush (v := nI 86) hx hb d_Mod_act_28 (by decide) ?_
    refine j_eq C 86 86 rfl rfl (by decide) (by decide) d_Mod_act_30 rfl (fun hc8 => ?_) (fun hc8 => absurd hc8 (by decide))
    refine lv_iconst (v := nI 1) hx hb d_Mod_act_51 (by decide) ?_
    refine lv_goto hx hb d_Mod_act_52 rfl ?_
    refine lv_istore (lv' := [(5, .int (nI 1)), (4, .int (nI 0)), (3, .int (-1)), (0, .ref y0), (1, .int (nI 86)), (2, .int ht)]) hx hb d_Mod_act_56 hl (by decide) rfl (fun ls hl => ?_)
    refine lv_aload_n hx hb d_Mod_act_58 rfl (lv_at hl 3 rfl) ?_
    refine n_get C fg_Mod_66 hP 0 rfl rfl d_Mod_act_59 ?_
    refine lv_iload hx hb d_Mod_act_62 (lv_at hl 0 rfl) ?_
    refine z_eq C 1 rfl (by omega) d_Mod_act_64 rfl (fun hc9 => absurd hc9 (by omega)) (fun hc9 => ?_)
    refine lv_iconst (v := nI 2) hx hb d_Mod_act_67 (by decide) ?_
    refine lv_goto hx hb d_Mod_act_68 rfl ?_
    refine j_ge C 1 2 rfl rfl (by decide) (by decide) d_Mod_act_82 rfl (fun hc10 => absurd hc10 (by decide)) (fun hc10 => ?_)
    refine lv_iconst (v := nI 0) hx hb d_Mod_act_85 (by decide) ?_
    exact kret (nI 0) [(y0, .inr (7, [.ref ya, .int (nI nt), .ref yo, .int (nI no), .ref ym, .ref yl, .ref yg, .ref yw, .ref yh, .ref yc, .ref yd, .ref yb, .ref yk, .ref yz, .int (nI 1), .int (b2 fl), .ref yr])), (yg, .inl (E.2.1, 32, .inl k5)), (yw, .inl (E.2.2.1, 64, .inl k6)), (yh, .inl (E.2.2.1, 8, .inl k7)), (yc, .inl (E.2.1, 32, .inl k8)), (yd, .inl (E.2.1, 32, .inl k9)), (yb, .inl (E.2.1, 512, .inl kb)), (yk, .inl (E.2.1, 1920, .inl f)), (yz, .inl (E.2.2.1, 24, .inl sz))] _ _ _ _ d_Mod_act_86 (⟨_, _, _, _, _, _, _, _, rfl, hB, Or.inr ⟨rfl, rfl⟩⟩) rfl hP hS
  · have hx1 : sz (S.length + 1) = nI x.length ∧ x.length ≤ 80 ∧ lay f ((S.length + 1) * 80) x := rep_top hrep
    have hy1 : sz S.length = nI y.length ∧ y.length ≤ 80 ∧ lay f (S.length * 80) y := rep_top (rep_tail hrep)
    have hr0 : rep f sz S := rep_tail (rep_tail hrep)
    have hlen : S.length + 2 ≤ 24 := hlen
    have hP : va_P E.1 clz [(y0, .inr (7, [.ref ya, .int (nI nt), .ref yo, .int (nI no), .ref ym, .ref yl, .ref yg, .ref yw, .ref yh, .ref yc, .ref yd, .ref yb, .ref yk, .ref yz, .int (nI (S.length + 2)), .int (b2 fl), .ref yr])), (yg, .inl (E.2.1, 32, .inl k5)), (yw, .inl (E.2.2.1, 64, .inl k6)), (yh, .inl (E.2.2.1, 8, .inl k7)), (yc, .inl (E.2.1, 32, .inl k8)), (yd, .inl (E.2.1, 32, .inl k9)), (yb, .inl (E.2.1, 512, .inl kb)), (yk, .inl (E.2.1, 1920, .inl f)), (yz, .inl (E.2.2.1, 24, .inl sz))] H := hP
    have hD : va_D A [(y0, .inr (7, [.ref ya, .int (nI nt), .ref yo, .int (nI no), .ref ym, .ref yl, .ref yg, .ref yw, .ref yh, .ref yc, .ref yd, .ref yb, .ref yk, .ref yz, .int (nI (S.length + 2)), .int (b2 fl), .ref yr])), (yg, .inl (E.2.1, 32, .inl k5)), (yw, .inl (E.2.2.1, 64, .inl k6)), (yh, .inl (E.2.2.1, 8, .inl k7)), (yc, .inl (E.2.1, 32, .inl k8)), (yd, .inl (E.2.1, 32, .inl k9)), (yb, .inl (E.2.1, 512, .inl kb)), (yk, .inl (E.2.1, 1920, .inl f)), (yz, .inl (E.2.2.1, 24, .inl sz))] := hD
    refine lv_aload_n hx hb d_Mod_act_0 rfl (lv_at hl 0 rfl) ?_
    refine n_get C fg_Mod_66 hP 0 rfl rfl d_Mod_act_1 ?_
    refine lv_iconst (v := nI 2) hx hb d_Mod_act_4 (by decide) ?_
    refine lv_isub hx hb d_Mod_act_5 ?_
    refine tope (z := nI S.length) ((pk_sub (by omega)).trans (congrArg nI (by omega))) ?_
    refine lv_istore_n (lv' := [(3, .int (nI S.length)), (0, .ref y0), (1, .int (nI 86)), (2, .int ht)]) hx hb d_Mod_act_6 rfl hl (by decide) rfl (fun ls hl => ?_)
    refine lv_aload_n hx hb d_Mod_act_7 rfl (lv_at hl 1 rfl) ?_
    refine n_get C fg_Mod_66 hP 0 rfl rfl d_Mod_act_8 ?_
    refine lv_iconst (v := nI 1) hx hb d_Mod_act_11 (by decide) ?_
    refine lv_isub hx hb d_Mod_act_12 ?_
    refine tope (z := nI (S.length + 1)) ((pk_sub (by omega)).trans (congrArg nI (by omega))) ?_
    refine lv_istore (lv' := [(4, .int (nI (S.length + 1))), (3, .int (nI S.length)), (0, .ref y0), (1, .int (nI 86)), (2, .int ht)]) hx hb d_Mod_act_13 hl (by decide) rfl (fun ls hl => ?_)
    refine lv_iload_n hx hb d_Mod_act_15 rfl (lv_at hl 3 rfl) ?_
    refine lv_bipush (v := nI 82) hx hb d_Mod_act_16 (by decide) ?_
    refine j_eq C 86 82 rfl rfl (by decide) (by decide) d_Mod_act_18 rfl (fun hc11 => absurd hc11 (by decide)) (fun hc11 => ?_)
    refine lv_iload_n hx hb d_Mod_act_21 rfl (lv_at hl 3 rfl) ?_
    refine lv_bipush (v := nI 83) hx hb d_Mod_act_22 (by decide) ?_
    refine j_eq C 86 83 rfl rfl (by decide) (by decide) d_Mod_act_24 rfl (fun hc12 => absurd hc12 (by decide)) (fun hc12 => ?_)
    refine lv_iload_n hx hb d_Mod_act_27 rfl (lv_at hl 3 rfl) ?_
    refine lv_bipush (v := nI 86) hx hb d_Mod_act_28 (by decide) ?_
    refine j_eq C 86 86 rfl rfl (by decide) (by decide) d_Mod_act_30 rfl (fun hc13 => ?_) (fun hc13 => absurd hc13 (by decide))
    refine lv_iconst (v := nI 1) hx hb d_Mod_act_51 (by decide) ?_
    refine lv_goto hx hb d_Mod_act_52 rfl ?_
    refine lv_istore (lv' := [(5, .int (nI 1)), (4, .int (nI (S.length + 1))), (3, .int (nI S.length)), (0, .ref y0), (1, .int (nI 86)), (2, .int ht)]) hx hb d_Mod_act_56 hl (by decide) rfl (fun ls hl => ?_)
    refine lv_aload_n hx hb d_Mod_act_58 rfl (lv_at hl 3 rfl) ?_
    refine n_get C fg_Mod_66 hP 0 rfl rfl d_Mod_act_59 ?_
    refine lv_iload hx hb d_Mod_act_62 (lv_at hl 0 rfl) ?_
    refine z_eq C 1 rfl (by omega) d_Mod_act_64 rfl (fun hc14 => absurd hc14 (by omega)) (fun hc14 => ?_)
    refine lv_iconst (v := nI 2) hx hb d_Mod_act_67 (by decide) ?_
    refine lv_goto hx hb d_Mod_act_68 rfl ?_
    refine j_ge C (S.length + 2) 2 rfl rfl (by omega) (by omega) d_Mod_act_82 rfl (fun hc15 => ?_) (fun hc15 => absurd hc15 (by omega))
    refine lv_iload_n hx hb d_Mod_act_87 rfl (lv_at hl 4 rfl) ?_
    refine lv_bipush (v := nI 88) hx hb d_Mod_act_88 (by decide) ?_
    refine j_lt C 86 88 rfl rfl (by decide) (by decide) d_Mod_act_90 rfl (fun hc16 => ?_) (fun hc16 => absurd hc16 (by decide))
    refine lv_iload_n hx hb d_Mod_act_99 rfl (lv_at hl 4 rfl) ?_
    refine lv_bipush (v := nI 96) hx hb d_Mod_act_100 (by decide) ?_
    refine j_ne C 86 96 rfl rfl (by decide) (by decide) d_Mod_act_102 rfl (fun hc17 => ?_) (fun hc17 => absurd hc17 (by decide))
    refine lv_iconst (v := nI 0) hx hb d_Mod_act_109 (by decide) ?_
    refine lv_istore (lv' := [(6, .int (nI 0)), (5, .int (nI 1)), (4, .int (nI (S.length + 1))), (3, .int (nI S.length)), (0, .ref y0), (1, .int (nI 86)), (2, .int ht)]) hx hb d_Mod_act_110 hl (by decide) rfl (fun ls hl => ?_)
    refine lv_iload hx hb d_Mod_act_112 (lv_at hl 0 rfl) ?_
    refine z_eq C 0 rfl (by omega) d_Mod_act_114 rfl (fun hc18 => ?_) (fun hc18 => absurd hc18 (by omega))
    refine lv_iload hx hb d_Mod_act_145 (lv_at hl 1 rfl) ?_
    refine z_eq C 1 rfl (by omega) d_Mod_act_147 rfl (fun hc19 => absurd hc19 (by omega)) (fun hc19 => ?_)
    refine lv_iload hx hb d_Mod_act_150 (lv_at hl 0 rfl) ?_
    refine z_eq C 0 rfl (by omega) d_Mod_act_152 rfl (fun hc20 => ?_) (fun hc20 => absurd hc20 (by omega))
    refine lv_iconst (v := nI 0) hx hb d_Mod_act_163 (by decide) ?_
    refine lv_istore (lv' := [(7, .int (nI 0)), (6, .int (nI 0)), (5, .int (nI 1)), (4, .int (nI (S.length + 1))), (3, .int (nI S.length)), (0, .ref y0), (1, .int (nI 86)), (2, .int ht)]) hx hb d_Mod_act_164 hl (by decide) rfl (fun ls hl => ?_)
    refine lv_iload hx hb d_Mod_act_166 (lv_at hl 1 rfl) ?_
    refine z_eq C 0 rfl (by omega) d_Mod_act_168 rfl (fun hc21 => ?_) (fun hc21 => absurd hc21 (by omega))
    refine lv_iconst (v := nI 0) hx hb d_Mod_act_180 (by decide) ?_
    refine lv_istore (lv' := [(8, .int (nI 0)), (7, .int (nI 0)), (6, .int (nI 0)), (5, .int (nI 1)), (4, .int (nI (S.length + 1))), (3, .int (nI S.length)), (0, .ref y0), (1, .int (nI 86)), (2, .int ht)]) hx hb d_Mod_act_181 hl (by decide) rfl (fun ls hl => ?_)
    refine lv_iload_n hx hb d_Mod_act_183 rfl (lv_at hl 7 rfl) ?_
    refine lv_tableIn hx hb d_Mod_act_184 (by decide) (by decide) rfl rfl ?_
    refine lv_aload_n hx hb d_Mod_act_458 rfl (lv_at hl 6 rfl) ?_
    refine lv_dup hx hb d_Mod_act_459 rfl ?_
    refine n_get C fg_Mod_66 hP 0 rfl rfl d_Mod_act_460 ?_
    refine lv_iconst (v := nI 2) hx hb d_Mod_act_463 (by decide) ?_
    refine lv_isub hx hb d_Mod_act_464 ?_
    refine tope (z := nI S.length) ((pk_sub (by omega)).trans (congrArg nI (by omega))) ?_
    refine n_put (v := .int (nI S.length)) C fp_Mod_66 hP hD hS 0 rfl (rfl) rfl (Nat.le_of_ble_eq_true rfl) d_Mod_act_465 (fun H locs hP hD hS => ?_)
    have hP : va_P E.1 clz [(y0, .inr (7, [.ref ya, .int (nI nt), .ref yo, .int (nI no), .ref ym, .ref yl, .ref yg, .ref yw, .ref yh, .ref yc, .ref yd, .ref yb, .ref yk, .ref yz, .int (nI S.length), .int (b2 fl), .ref yr])), (yg, .inl (E.2.1, 32, .inl k5)), (yw, .inl (E.2.2.1, 64, .inl k6)), (yh, .inl (E.2.2.1, 8, .inl k7)), (yc, .inl (E.2.1, 32, .inl k8)), (yd, .inl (E.2.1, 32, .inl k9)), (yb, .inl (E.2.1, 512, .inl kb)), (yk, .inl (E.2.1, 1920, .inl f)), (yz, .inl (E.2.2.1, 24, .inl sz))] H := hP
    have hD : va_D A [(y0, .inr (7, [.ref ya, .int (nI nt), .ref yo, .int (nI no), .ref ym, .ref yl, .ref yg, .ref yw, .ref yh, .ref yc, .ref yd, .ref yb, .ref yk, .ref yz, .int (nI S.length), .int (b2 fl), .ref yr])), (yg, .inl (E.2.1, 32, .inl k5)), (yw, .inl (E.2.2.1, 64, .inl k6)), (yh, .inl (E.2.2.1, 8, .inl k7)), (yc, .inl (E.2.1, 32, .inl k8)), (yd, .inl (E.2.1, 32, .inl k9)), (yb, .inl (E.2.1, 512, .inl kb)), (yk, .inl (E.2.1, 1920, .inl f)), (yz, .inl (E.2.2.1, 24, .inl sz))] := hD
    refine lv_aload_n hx hb d_Mod_act_468 rfl (lv_at hl 6 rfl) ?_
    refine lv_aload_n hx hb d_Mod_act_469 rfl (lv_at hl 6 rfl) ?_
    refine n_get C fg_Mod_44 hP 0 rfl rfl d_Mod_act_470 ?_
    refine lv_iload_n hx hb d_Mod_act_473 rfl (lv_at hl 5 rfl) ?_
    refine n_iald C hP 8 rfl S.length rfl (by omega) (by omega) d_Mod_act_474 ?_
    refine tope (z := nI y.length) (hy1.1) ?_
    refine lv_aload_n hx hb d_Mod_act_475 rfl (lv_at hl 6 rfl) ?_
    refine n_get C fg_Mod_44 hP 0 rfl rfl d_Mod_act_476 ?_
    refine lv_iload hx hb d_Mod_act_479 (lv_at hl 4 rfl) ?_
    refine n_iald C hP 8 rfl (S.length + 1) rfl (by omega) (by omega) d_Mod_act_481 ?_
    refine tope (z := nI x.length) (hx1.1) ?_
    refine j_ne C y.length x.length rfl rfl (by omega) (by omega) d_Mod_act_482 rfl (fun hc22 => ?_) (fun hc22 => ?_)
    · refine lv_iconst (v := nI 0) hx hb d_Mod_act_518 (by decide) ?_
      refine cal_I (As := [.int (nI 0)]) (rest := []) C lk_Mod_89 (c_Mod_pushNumber l E y0 ya yo ym yl yg yw yh yc yd yb yk yz yr nt no fl f sz k8 S (nI 0) hr0 hB (by first | omega | (simp only [List.length_cons]; omega) | (rw [List.length_drop]; omega))) (by decide) hP hD hS 0 7 rfl rfl [0, 7, 8, 4] rfl (by decide) hl.1 rfl (Nat.le_of_ble_eq_true rfl) d_Mod_act_519 (fun r28 w1 H locs hp29 hP hD hS => ?_)
      obtain ⟨rfl, fq23, zq24, cq25, rfl, hrq26, hbq27⟩ := hp29
      have hP : va_P E.1 clz [(y0, .inr (7, [.ref ya, .int (nI nt), .ref yo, .int (nI no), .ref ym, .ref yl, .ref yg, .ref yw, .ref yh, .ref yc, .ref yd, .ref yb, .ref yk, .ref yz, .int (nI (S.length + 1)), .int (b2 fl), .ref yr])), (yg, .inl (E.2.1, 32, .inl k5)), (yw, .inl (E.2.2.1, 64, .inl k6)), (yh, .inl (E.2.2.1, 8, .inl k7)), (yc, .inl (E.2.1, 32, .inl cq25)), (yd, .inl (E.2.1, 32, .inl k9)), (yb, .inl (E.2.1, 512, .inl kb)), (yk, .inl (E.2.1, 1920, .inl fq23)), (yz, .inl (E.2.2.1, 24, .inl zq24))] H := hP
      have hD : va_D A [(y0, .inr (7, [.ref ya, .int (nI nt), .ref yo, .int (nI no), .ref ym, .ref yl, .ref yg, .ref yw, .ref yh, .ref yc, .ref yd, .ref yb, .ref yk, .ref yz, .int (nI (S.length + 1)), .int (b2 fl), .ref yr])), (yg, .inl (E.2.1, 32, .inl k5)), (yw, .inl (E.2.2.1, 64, .inl k6)), (yh, .inl (E.2.2.1, 8, .inl k7)), (yc, .inl (E.2.1, 32, .inl cq25)), (yd, .inl (E.2.1, 32, .inl k9)), (yb, .inl (E.2.1, 512, .inl kb)), (yk, .inl (E.2.1, 1920, .inl fq23)), (yz, .inl (E.2.2.1, 24, .inl zq24))] := hD
      exact kret (b2 true) [(y0, .inr (7, [.ref ya, .int (nI nt), .ref yo, .int (nI no), .ref ym, .ref yl, .ref yg, .ref yw, .ref yh, .ref yc, .ref yd, .ref yb, .ref yk, .ref yz, .int (nI (S.length + 1)), .int (b2 fl), .ref yr])), (yg, .inl (E.2.1, 32, .inl k5)), (yw, .inl (E.2.2.1, 64, .inl k6)), (yh, .inl (E.2.2.1, 8, .inl k7)), (yc, .inl (E.2.1, 32, .inl cq25)), (yd, .inl (E.2.1, 32, .inl k9)), (yb, .inl (E.2.1, 512, .inl kb)), (yk, .inl (E.2.1, 1920, .inl fq23)), (yz, .inl (E.2.2.1, 24, .inl zq24))] _ _ _ _ d_Mod_act_522 (⟨_, _, _, _, _, _, _, _, rfl, hbq27, Or.inl ⟨(numB (b2 false) :: S), by show some (numB (b2 (decide (y = x))) :: S) = _; rw [decide_eq_false (fun q => hc22 (by rw [q]))], rfl, by first | rfl | (simp only [List.length_cons]; omega) | (simp only [List.length_cons]), hrq26, by first | (simp only [List.length_cons]; omega) | (simp only [List.length_cons]) | omega⟩⟩) rfl hP hS
    · refine lv_aload_n hx hb d_Mod_act_485 rfl (lv_at hl 6 rfl) ?_
      refine n_get C fg_Mod_41 hP 0 rfl rfl d_Mod_act_486 ?_
      refine lv_bipush (v := nI 80) hx hb d_Mod_act_489 (by decide) ?_
      refine lv_iload_n hx hb d_Mod_act_491 rfl (lv_at hl 5 rfl) ?_
      refine lv_imul hx hb d_Mod_act_492 ?_
      refine tope (z := nI (S.length * 80)) ((pk_mul _ _).trans (congrArg nI (Nat.mul_comm _ _))) ?_
      refine lv_aload_n hx hb d_Mod_act_493 rfl (lv_at hl 6 rfl) ?_
      refine n_get C fg_Mod_41 hP 0 rfl rfl d_Mod_act_494 ?_
      refine lv_bipush (v := nI 80) hx hb d_Mod_act_497 (by decide) ?_
      refine lv_iload hx hb d_Mod_act_499 (lv_at hl 4 rfl) ?_
      refine lv_imul hx hb d_Mod_act_501 ?_
      refine tope (z := nI ((S.length + 1) * 80)) ((pk_mul _ _).trans (congrArg nI (Nat.mul_comm _ _))) ?_
      refine lv_aload_n hx hb d_Mod_act_502 rfl (lv_at hl 6 rfl) ?_
      refine n_get C fg_Mod_44 hP 0 rfl rfl d_Mod_act_503 ?_
      refine lv_iload_n hx hb d_Mod_act_506 rfl (lv_at hl 5 rfl) ?_
      refine n_iald C hP 8 rfl S.length rfl (by omega) (by omega) d_Mod_act_507 ?_
      refine tope (z := nI y.length) (hy1.1) ?_
      refine cal_S (As := [.ref yk, .int (nI (S.length * 80)), .ref yk, .int (nI ((S.length + 1) * 80)), .int (nI y.length)]) (rest := [.ref y0]) C lk_Mod_77 (c_Mod_sameA l E yk 1920 (S.length * 80) ((S.length + 1) * 80) f y x (hy1.2.2) (hx1.2.2) (by omega) (by first | omega | (rw [sigL_len] at *; omega)) (by first | omega | (rw [sigL_len] at *; omega)) (by omega)) (by decide) hP hD hS [7] rfl (by decide) hl.1 rfl (Nat.le_of_ble_eq_true rfl) d_Mod_act_508 (fun r30 w1 H locs hp31 hP hD hS => ?_)
      obtain ⟨rfl, rfl⟩ := hp31
      have hP : va_P E.1 clz [(y0, .inr (7, [.ref ya, .int (nI nt), .ref yo, .int (nI no), .ref ym, .ref yl, .ref yg, .ref yw, .ref yh, .ref yc, .ref yd, .ref yb, .ref yk, .ref yz, .int (nI S.length), .int (b2 fl), .ref yr])), (yg, .inl (E.2.1, 32, .inl k5)), (yw, .inl (E.2.2.1, 64, .inl k6)), (yh, .inl (E.2.2.1, 8, .inl k7)), (yc, .inl (E.2.1, 32, .inl k8)), (yd, .inl (E.2.1, 32, .inl k9)), (yb, .inl (E.2.1, 512, .inl kb)), (yk, .inl (E.2.1, 1920, .inl f)), (yz, .inl (E.2.2.1, 24, .inl sz))] H := hP
      have hD : va_D A [(y0, .inr (7, [.ref ya, .int (nI nt), .ref yo, .int (nI no), .ref ym, .ref yl, .ref yg, .ref yw, .ref yh, .ref yc, .ref yd, .ref yb, .ref yk, .ref yz, .int (nI S.length), .int (b2 fl), .ref yr])), (yg, .inl (E.2.1, 32, .inl k5)), (yw, .inl (E.2.2.1, 64, .inl k6)), (yh, .inl (E.2.2.1, 8, .inl k7)), (yc, .inl (E.2.1, 32, .inl k8)), (yd, .inl (E.2.1, 32, .inl k9)), (yb, .inl (E.2.1, 512, .inl kb)), (yk, .inl (E.2.1, 1920, .inl f)), (yz, .inl (E.2.2.1, 24, .inl sz))] := hD
      refine zb_eq C (decide (y = x)) rfl d_Mod_act_511 rfl (fun hc32 => ?_) (fun hc32 => ?_)
      · refine lv_iconst (v := nI 0) hx hb d_Mod_act_518 (by decide) ?_
        refine cal_I (As := [.int (nI 0)]) (rest := []) C lk_Mod_89 (c_Mod_pushNumber l E y0 ya yo ym yl yg yw yh yc yd yb yk yz yr nt no fl f sz k8 S (nI 0) hr0 hB (by first | omega | (simp only [List.length_cons]; omega) | (rw [List.length_drop]; omega))) (by decide) hP hD hS 0 7 rfl rfl [0, 7, 8, 4] rfl (by decide) hl.1 rfl (Nat.le_of_ble_eq_true rfl) d_Mod_act_519 (fun r38 w1 H locs hp39 hP hD hS => ?_)
        obtain ⟨rfl, fq33, zq34, cq35, rfl, hrq36, hbq37⟩ := hp39
        have hP : va_P E.1 clz [(y0, .inr (7, [.ref ya, .int (nI nt), .ref yo, .int (nI no), .ref ym, .ref yl, .ref yg, .ref yw, .ref yh, .ref yc, .ref yd, .ref yb, .ref yk, .ref yz, .int (nI (S.length + 1)), .int (b2 fl), .ref yr])), (yg, .inl (E.2.1, 32, .inl k5)), (yw, .inl (E.2.2.1, 64, .inl k6)), (yh, .inl (E.2.2.1, 8, .inl k7)), (yc, .inl (E.2.1, 32, .inl cq35)), (yd, .inl (E.2.1, 32, .inl k9)), (yb, .inl (E.2.1, 512, .inl kb)), (yk, .inl (E.2.1, 1920, .inl fq33)), (yz, .inl (E.2.2.1, 24, .inl zq34))] H := hP
        have hD : va_D A [(y0, .inr (7, [.ref ya, .int (nI nt), .ref yo, .int (nI no), .ref ym, .ref yl, .ref yg, .ref yw, .ref yh, .ref yc, .ref yd, .ref yb, .ref yk, .ref yz, .int (nI (S.length + 1)), .int (b2 fl), .ref yr])), (yg, .inl (E.2.1, 32, .inl k5)), (yw, .inl (E.2.2.1, 64, .inl k6)), (yh, .inl (E.2.2.1, 8, .inl k7)), (yc, .inl (E.2.1, 32, .inl cq35)), (yd, .inl (E.2.1, 32, .inl k9)), (yb, .inl (E.2.1, 512, .inl kb)), (yk, .inl (E.2.1, 1920, .inl fq33)), (yz, .inl (E.2.2.1, 24, .inl zq34))] := hD
        exact kret (b2 true) [(y0, .inr (7, [.ref ya, .int (nI nt), .ref yo, .int (nI no), .ref ym, .ref yl, .ref yg, .ref yw, .ref yh, .ref yc, .ref yd, .ref yb, .ref yk, .ref yz, .int (nI (S.length + 1)), .int (b2 fl), .ref yr])), (yg, .inl (E.2.1, 32, .inl k5)), (yw, .inl (E.2.2.1, 64, .inl k6)), (yh, .inl (E.2.2.1, 8, .inl k7)), (yc, .inl (E.2.1, 32, .inl cq35)), (yd, .inl (E.2.1, 32, .inl k9)), (yb, .inl (E.2.1, 512, .inl kb)), (yk, .inl (E.2.1, 1920, .inl fq33)), (yz, .inl (E.2.2.1, 24, .inl zq34))] _ _ _ _ d_Mod_act_522 (⟨_, _, _, _, _, _, _, _, rfl, hbq37, Or.inl ⟨(numB (b2 false) :: S), by show some (numB (b2 (decide (y = x))) :: S) = _; rw [hc32], rfl, by first | rfl | (simp only [List.length_cons]; omega) | (simp only [List.length_cons]), hrq36, by first | (simp only [List.length_cons]; omega) | (simp only [List.length_cons]) | omega⟩⟩) rfl hP hS
      · refine lv_iconst (v := nI 1) hx hb d_Mod_act_514 (by decide) ?_
        refine lv_goto hx hb d_Mod_act_515 rfl ?_
        refine cal_I (As := [.int (nI 1)]) (rest := []) C lk_Mod_89 (c_Mod_pushNumber l E y0 ya yo ym yl yg yw yh yc yd yb yk yz yr nt no fl f sz k8 S (nI 1) hr0 hB (by first | omega | (simp only [List.length_cons]; omega) | (rw [List.length_drop]; omega))) (by decide) hP hD hS 0 7 rfl rfl [0, 7, 8, 4] rfl (by decide) hl.1 rfl (Nat.le_of_ble_eq_true rfl) d_Mod_act_519 (fun r45 w1 H locs hp46 hP hD hS => ?_)
        obtain ⟨rfl, fq40, zq41, cq42, rfl, hrq43, hbq44⟩ := hp46
        have hP : va_P E.1 clz [(y0, .inr (7, [.ref ya, .int (nI nt), .ref yo, .int (nI no), .ref ym, .ref yl, .ref yg, .ref yw, .ref yh, .ref yc, .ref yd, .ref yb, .ref yk, .ref yz, .int (nI (S.length + 1)), .int (b2 fl), .ref yr])), (yg, .inl (E.2.1, 32, .inl k5)), (yw, .inl (E.2.2.1, 64, .inl k6)), (yh, .inl (E.2.2.1, 8, .inl k7)), (yc, .inl (E.2.1, 32, .inl cq42)), (yd, .inl (E.2.1, 32, .inl k9)), (yb, .inl (E.2.1, 512, .inl kb)), (yk, .inl (E.2.1, 1920, .inl fq40)), (yz, .inl (E.2.2.1, 24, .inl zq41))] H := hP
        have hD : va_D A [(y0, .inr (7, [.ref ya, .int (nI nt), .ref yo, .int (nI no), .ref ym, .ref yl, .ref yg, .ref yw, .ref yh, .ref yc, .ref yd, .ref yb, .ref yk, .ref yz, .int (nI (S.length + 1)), .int (b2 fl), .ref yr])), (yg, .inl (E.2.1, 32, .inl k5)), (yw, .inl (E.2.2.1, 64, .inl k6)), (yh, .inl (E.2.2.1, 8, .inl k7)), (yc, .inl (E.2.1, 32, .inl cq42)), (yd, .inl (E.2.1, 32, .inl k9)), (yb, .inl (E.2.1, 512, .inl kb)), (yk, .inl (E.2.1, 1920, .inl fq40)), (yz, .inl (E.2.2.1, 24, .inl zq41))] := hD
        exact kret (b2 true) [(y0, .inr (7, [.ref ya, .int (nI nt), .ref yo, .int (nI no), .ref ym, .ref yl, .ref yg, .ref yw, .ref yh, .ref yc, .ref yd, .ref yb, .ref yk, .ref yz, .int (nI (S.length + 1)), .int (b2 fl), .ref yr])), (yg, .inl (E.2.1, 32, .inl k5)), (yw, .inl (E.2.2.1, 64, .inl k6)), (yh, .inl (E.2.2.1, 8, .inl k7)), (yc, .inl (E.2.1, 32, .inl cq42)), (yd, .inl (E.2.1, 32, .inl k9)), (yb, .inl (E.2.1, 512, .inl kb)), (yk, .inl (E.2.1, 1920, .inl fq40)), (yz, .inl (E.2.2.1, 24, .inl zq41))] _ _ _ _ d_Mod_act_522 (⟨_, _, _, _, _, _, _, _, rfl, hbq44, Or.inl ⟨(numB (b2 true) :: S), by show some (numB (b2 (decide (y = x))) :: S) = _; rw [hc32], rfl, by first | rfl | (simp only [List.length_cons]; omega) | (simp only [List.length_cons]), hrq43, by first | (simp only [List.length_cons]; omega) | (simp only [List.length_cons]) | omega⟩⟩) rfl hP hS

set_option maxHeartbeats 4000000 in
set_option maxRecDepth 100000 in
theorem c_act_88 (l : Launch) (E : En) (y0 ya yo ym yl yg yw yh yc yd yb yk yz yr nt no : Nat) (fl : Bool) (k5 k6 k7 k8 k9 kb f sz : Nat → Int32) (S : Stk) (msg : Byl) (hrep : rep f sz S) (hB : fB f) (hB5 : fB k5) (hlen : S.length ≤ 24) (hm : lay k5 0 msg) (hm32 : msg.length = 32) (ht : Int32) : CtI l y_Mod_act b_Mod_act 11 .boolean (rmd 4) E [.ref y0, .int (nI 88), .int ht] [(y0, .inr (7, [.ref ya, .int (nI nt), .ref yo, .int (nI no), .ref ym, .ref yl, .ref yg, .ref yw, .ref yh, .ref yc, .ref yd, .ref yb, .ref yk, .ref yz, .int (nI S.length), .int (b2 fl), .ref yr])), (yg, .inl (E.2.1, 32, .inl k5)), (yw, .inl (E.2.2.1, 64, .inl k6)), (yh, .inl (E.2.2.1, 8, .inl k7)), (yc, .inl (E.2.1, 32, .inl k8)), (yd, .inl (E.2.1, 32, .inl k9)), (yb, .inl (E.2.1, 512, .inl kb)), (yk, .inl (E.2.1, 1920, .inl f)), (yz, .inl (E.2.2.1, 24, .inl sz))] (stepM E y0 ya yo ym yl yg yw yh yc yd yb yk yz yr nt no fl k5 (actS 88 ht msg S)) := by
  refine CtI.of (by decide) (Nat.le_of_ble_eq_true rfl) (stepM_nar) ?_
  intro p e s m args below meth c A Q H locs ls C hP hD hS hl kret
  have hx := C.1
  have hb := C.2.1
  have hl : lv_has ls 11 [(0, .ref y0), (1, .int (nI 88)), (2, .int ht)] := hl
  rcases S with _ | ⟨x, S⟩
  · have hP : va_P E.1 clz [(y0, .inr (7, [.ref ya, .int (nI nt), .ref yo, .int (nI no), .ref ym, .ref yl, .ref yg, .ref yw, .ref yh, .ref yc, .ref yd, .ref yb, .ref yk, .ref yz, .int (nI 0), .int (b2 fl), .ref yr])), (yg, .inl (E.2.1, 32, .inl k5)), (yw, .inl (E.2.2.1, 64, .inl k6)), (yh, .inl (E.2.2.1, 8, .inl k7)), (yc, .inl (E.2.1, 32, .inl k8)), (yd, .inl (E.2.1, 32, .inl k9)), (yb, .inl (E.2.1, 512, .inl kb)), (yk, .inl (E.2.1, 1920, .inl f)), (yz, .inl (E.2.2.1, 24, .inl sz))] H := hP
    have hD : va_D A [(y0, .inr (7, [.ref ya, .int (nI nt), .ref yo, .int (nI no), .ref ym, .ref yl, .ref yg, .ref yw, .ref yh, .ref yc, .ref yd, .ref yb, .ref yk, .ref yz, .int (nI 0), .int (b2 fl), .ref yr])), (yg, .inl (E.2.1, 32, .inl k5)), (yw, .inl (E.2.2.1, 64, .inl k6)), (yh, .inl (E.2.2.1, 8, .inl k7)), (yc, .inl (E.2.1, 32, .inl k8)), (yd, .inl (E.2.1, 32, .inl k9)), (yb, .inl (E.2.1, 512, .inl kb)), (yk, .inl (E.2.1, 1920, .inl f)), (yz, .inl (E.2.2.1, 24, .inl sz))] := hD
    refine lv_aload_n hx hb d_Mod_act_0 rfl (lv_at hl 0 rfl) ?_
    refine n_get C fg_Mod_66 hP 0 rfl rfl d_Mod_act_1 ?_
    refine lv_iconst (v := nI 2) hx hb d_Mod_act_4 (by decide) ?_
    refine lv_isub hx hb d_Mod_act_5 ?_
    refine tope (z := (-2)) (by decide) ?_
    refine lv_istore_n (lv' := [(3, .int (-2)), (0, .ref y0), (1, .int (nI 88)), (2, .int ht)]) hx hb d_Mod_act_6 rfl hl (by decide) rfl (fun ls hl => ?_)
    refine lv_aload_n hx hb d_Mod_act_7 rfl (lv_at hl 1 rfl) ?_
    refine n_get C fg_Mod_66 hP 0 rfl rfl d_Mod_act_8 ?_
    refine lv_iconst (v := nI 1) hx hb d_Mod_act_11 (by decide) ?_
    refine lv_isub hx hb d_Mod_act_12 ?_
    refine tope (z := (-1)) (by decide) ?_
    refine lv_istore (lv' := [(4, .int (-1)), (3, .int (-2)), (0, .ref y0), (1, .int (nI 88)), (2, .int ht)]) hx hb d_Mod_act_13 hl (by decide) rfl (fun ls hl => ?_)
    refine lv_iload_n hx hb d_Mod_act_15 rfl (lv_at hl 3 rfl) ?_
    refine lv_bipush (v := nI 82) hx hb d_Mod_act_16 (by decide) ?_
    refine j_eq C 88 82 rfl rfl (by decide) (by decide) d_Mod_act_18 rfl (fun hc1 => absurd hc1 (by decide)) (fun hc1 => ?_)
    refine lv_iload_n hx hb d_Mod_act_21 rfl (lv_at hl 3 rfl) ?_
    refine lv_bipush (v := nI 83) hx hb d_Mod_act_22 (by decide) ?_
    refine j_eq C 88 83 rfl rfl (by decide) (by decide) d_Mod_act_24 rfl (fun hc2 => absurd hc2 (by decide)) (fun hc2 => ?_)
    refine lv_iload_n hx hb d_Mod_act_27 rfl (lv_at hl 3 rfl) ?_
    refine lv_bipush (v := nI 86) hx hb d_Mod_act_28 (by decide) ?_
    refine j_eq C 88 86 rfl rfl (by decide) (by decide) d_Mod_act_30 rfl (fun hc3 => absurd hc3 (by decide)) (fun hc3 => ?_)
    refine lv_iload_n hx hb d_Mod_act_33 rfl (lv_at hl 3 rfl) ?_
    refine lv_bipush (v := nI 89) hx hb d_Mod_act_34 (by decide) ?_
    refine j_lt C 88 89 rfl rfl (by decide) (by decide) d_Mod_act_36 rfl (fun hc4 => ?_) (fun hc4 => absurd hc4 (by decide))
    refine lv_iload_n hx hb d_Mod_act_45 rfl (lv_at hl 3 rfl) ?_
    refine lv_bipush (v := nI 95) hx hb d_Mod_act_46 (by decide) ?_
    refine j_ne C 88 95 rfl rfl (by decide) (by decide) d_Mod_act_48 rfl (fun hc5 => ?_) (fun hc5 => absurd hc5 (by decide))
    refine lv_iconst (v := nI 0) hx hb d_Mod_act_55 (by decide) ?_
    refine lv_istore (lv' := [(5, .int (nI 0)), (4, .int (-1)), (3, .int (-2)), (0, .ref y0), (1, .int (nI 88)), (2, .int ht)]) hx hb d_Mod_act_56 hl (by decide) rfl (fun ls hl => ?_)
    refine lv_aload_n hx hb d_Mod_act_58 rfl (lv_at hl 3 rfl) ?_
    refine n_get C fg_Mod_66 hP 0 rfl rfl d_Mod_act_59 ?_
    refine lv_iload hx hb d_Mod_act_62 (lv_at hl 0 rfl) ?_
    refine z_eq C 0 rfl (by omega) d_Mod_act_64 rfl (fun hc6 => ?_) (fun hc6 => absurd hc6 (by omega))
    refine lv_iload_n hx hb d_Mod_act_71 rfl (lv_at hl 4 rfl) ?_
    refine lv_bipush (v := nI 102) hx hb d_Mod_act_72 (by decide) ?_
    refine j_ne C 88 102 rfl rfl (by decide) (by decide) d_Mod_act_74 rfl (fun hc7 => ?_) (fun hc7 => absurd hc7 (by decide))
    refine lv_iconst (v := nI 1) hx hb d_Mod_act_81 (by decide) ?_
    refine j_ge C 0 1 rfl rfl (by decide) (by decide) d_Mod_act_82 rfl (fun hc8 => absurd hc8 (by decide)) (fun hc8 => ?_)
    refine lv_iconst (v := nI 0) hx hb d_Mod_act_85 (by decide) ?_
    exact kret (nI 0) [(y0, .inr (7, [.ref ya, .int (nI nt), .ref yo, .int (nI no), .ref ym, .ref yl, .ref yg, .ref yw, .ref yh, .ref yc, .ref yd, .ref yb, .ref yk, .ref yz, .int (nI 0), .int (b2 fl), .ref yr])), (yg, .inl (E.2.1, 32, .inl k5)), (yw, .inl (E.2.2.1, 64, .inl k6)), (yh, .inl (E.2.2.1, 8, .inl k7)), (yc, .inl (E.2.1, 32, .inl k8)), (yd, .inl (E.2.1, 32, .inl k9)), (yb, .inl (E.2.1, 512, .inl kb)), (yk, .inl (E.2.1, 1920, .inl f)), (yz, .inl (E.2.2.1, 24, .inl sz))] _ _ _ _ d_Mod_act_86 (⟨_, _, _, _, _, _, _, _, rfl, hB, Or.inr ⟨rfl, rfl⟩⟩) rfl hP hS
  · have hx1 : sz S.length = nI x.length ∧ x.length ≤ 80 ∧ lay f (S.length * 80) x := rep_top hrep
    have hr0 : rep f sz S := rep_tail hrep
    have hlen : S.length + 1 ≤ 24 := hlen
    have hP : va_P E.1 clz [(y0, .inr (7, [.ref ya, .int (nI nt), .ref yo, .int (nI no), .ref ym, .ref yl, .ref yg, .ref yw, .ref yh, .ref yc, .ref yd, .ref yb, .ref yk, .ref yz, .int (nI (S.length + 1)), .int (b2 fl), .ref yr])), (yg, .inl (E.2.1, 32, .inl k5)), (yw, .inl (E.2.2.1, 64, .inl k6)), (yh, .inl (E.2.2.1, 8, .inl k7)), (yc, .inl (E.2.1, 32, .inl k8)), (yd, .inl (E.2.1, 32, .inl k9)), (yb, .inl (E.2.1, 512, .inl kb)), (yk, .inl (E.2.1, 1920, .inl f)), (yz, .inl (E.2.2.1, 24, .inl sz))] H := hP
    have hD : va_D A [(y0, .inr (7, [.ref ya, .int (nI nt), .ref yo, .int (nI no), .ref ym, .ref yl, .ref yg, .ref yw, .ref yh, .ref yc, .ref yd, .ref yb, .ref yk, .ref yz, .int (nI (S.length + 1)), .int (b2 fl), .ref yr])), (yg, .inl (E.2.1, 32, .inl k5)), (yw, .inl (E.2.2.1, 64, .inl k6)), (yh, .inl (E.2.2.1, 8, .inl k7)), (yc, .inl (E.2.1, 32, .inl k8)), (yd, .inl (E.2.1, 32, .inl k9)), (yb, .inl (E.2.1, 512, .inl kb)), (yk, .inl (E.2.1, 1920, .inl f)), (yz, .inl (E.2.2.1, 24, .inl sz))] := hD
    refine lv_aload_n hx hb d_Mod_act_0 rfl (lv_at hl 0 rfl) ?_
    refine n_get C fg_Mod_66 hP 0 rfl rfl d_Mod_act_1 ?_
    refine lv_iconst (v := nI 2) hx hb d_Mod_act_4 (by decide) ?_
    refine lv_isub hx hb d_Mod_act_5 ?_
    refine lv_istore_n (lv' := [(3, .int ((nI (S.length + 1)) - (nI 2))), (0, .ref y0), (1, .int (nI 88)), (2, .int ht)]) hx hb d_Mod_act_6 rfl hl (by decide) rfl (fun ls hl => ?_)
    refine lv_aload_n hx hb d_Mod_act_7 rfl (lv_at hl 1 rfl) ?_
    refine n_get C fg_Mod_66 hP 0 rfl rfl d_Mod_act_8 ?_
    refine lv_iconst (v := nI 1) hx hb d_Mod_act_11 (by decide) ?_
    refine lv_isub hx hb d_Mod_act_12 ?_
    refine tope (z := nI S.length) ((pk_sub (by omega)).trans (congrArg nI (by omega))) ?_
    refine lv_istore (lv' := [(4, .int (nI S.length)), (3, .int ((nI (S.length + 1)) - (nI 2))), (0, .ref y0), (1, .int (nI 88)), (2, .int ht)]) hx hb d_Mod_act_13 hl (by decide) rfl (fun ls hl => ?_)
    refine lv_iload_n hx hb d_Mod_act_15 rfl (lv_at hl 3 rfl) ?_
    refine lv_bipush (v := nI 82) hx hb d_Mod_act_16 (by decide) ?_
    refine j_eq C 88 82 rfl rfl (by decide) (by decide) d_Mod_act_18 rfl (fun hc9 => absurd hc9 (by decide)) (fun hc9 => ?_)
    refine lv_iload_n hx hb d_Mod_act_21 rfl (lv_at hl 3 rfl) ?_
    refine lv_bipush (v := nI 83) hx hb d_Mod_act_22 (by decide) ?_
    refine j_eq C 88 83 rfl rfl (by decide) (by decide) d_Mod_act_24 rfl (fun hc10 => absurd hc10 (by decide)) (fun hc10 => ?_)
    refine lv_iload_n hx hb d_Mod_act_27 rfl (lv_at hl 3 rfl) ?_
    refine lv_bipush (v := nI 86) hx hb d_Mod_act_28 (by decide) ?_
    refine j_eq C 88 86 rfl rfl (by decide) (by decide) d_Mod_act_30 rfl (fun hc11 => absurd hc11 (by decide)) (fun hc11 => ?_)
    refine lv_iload_n hx hb d_Mod_act_33 rfl (lv_at hl 3 rfl) ?_
    refine lv_bipush (v := nI 89) hx hb d_Mod_act_34 (by decide) ?_
    refine j_lt C 88 89 rfl rfl (by decide) (by decide) d_Mod_act_36 rfl (fun hc12 => ?_) (fun hc12 => absurd hc12 (by decide))
    refine lv_iload_n hx hb d_Mod_act_45 rfl (lv_at hl 3 rfl) ?_
    refine lv_bipush (v := nI 95) hx hb d_Mod_act_46 (by decide) ?_
    refine j_ne C 88 95 rfl rfl (by decide) (by decide) d_Mod_act_48 rfl (fun hc13 => ?_) (fun hc13 => absurd hc13 (by decide))
    refine lv_iconst (v := nI 0) hx hb d_Mod_act_55 (by decide) ?_
    refine lv_istore (lv' := [(5, .int (nI 0)), (4, .int (nI S.length)), (3, .int ((nI (S.length + 1)) - (nI 2))), (0, .ref y0), (1, .int (nI 88)), (2, .int ht)]) hx hb d_Mod_act_56 hl (by decide) rfl (fun ls hl => ?_)
    refine lv_aload_n hx hb d_Mod_act_58 rfl (lv_at hl 3 rfl) ?_
    refine n_get C fg_Mod_66 hP 0 rfl rfl d_Mod_act_59 ?_
    refine lv_iload hx hb d_Mod_act_62 (lv_at hl 0 rfl) ?_
    refine z_eq C 0 rfl (by omega) d_Mod_act_64 rfl (fun hc14 => ?_) (fun hc14 => absurd hc14 (by omega))
    refine lv_iload_n hx hb d_Mod_act_71 rfl (lv_at hl 4 rfl) ?_
    refine lv_bipush (v := nI 102) hx hb d_Mod_act_72 (by decide) ?_
    refine j_ne C 88 102 rfl rfl (by decide) (by decide) d_Mod_act_74 rfl (fun hc15 => ?_) (fun hc15 => absurd hc15 (by decide))
    refine lv_iconst (v := nI 1) hx hb d_Mod_act_81 (by decide) ?_
    refine j_ge C (S.length + 1) 1 rfl rfl (by omega) (by omega) d_Mod_act_82 rfl (fun hc16 => ?_) (fun hc16 => absurd hc16 (by omega))
    refine lv_iload_n hx hb d_Mod_act_87 rfl (lv_at hl 4 rfl) ?_
    refine lv_bipush (v := nI 88) hx hb d_Mod_act_88 (by decide) ?_
    refine j_lt C 88 88 rfl rfl (by decide) (by decide) d_Mod_act_90 rfl (fun hc17 => absurd hc17 (by decide)) (fun hc17 => ?_)
    refine lv_iload_n hx hb d_Mod_act_93 rfl (lv_at hl 4 rfl) ?_
    refine lv_bipush (v := nI 91) hx hb d_Mod_act_94 (by decide) ?_
    refine j_le C 88 91 rfl rfl (by decide) (by decide) d_Mod_act_96 rfl (fun hc18 => ?_) (fun hc18 => absurd hc18 (by decide))
    refine lv_iconst (v := nI 1) hx hb d_Mod_act_105 (by decide) ?_
    refine lv_goto hx hb d_Mod_act_106 rfl ?_
    refine lv_istore (lv' := [(6, .int (nI 1)), (5, .int (nI 0)), (4, .int (nI S.length)), (3, .int ((nI (S.length + 1)) - (nI 2))), (0, .ref y0), (1, .int (nI 88)), (2, .int ht)]) hx hb d_Mod_act_110 hl (by decide) rfl (fun ls hl => ?_)
    refine lv_iload hx hb d_Mod_act_112 (lv_at hl 0 rfl) ?_
    refine z_eq C 1 rfl (by omega) d_Mod_act_114 rfl (fun hc19 => absurd hc19 (by omega)) (fun hc19 => ?_)
    refine lv_aload_n hx hb d_Mod_act_117 rfl (lv_at hl 4 rfl) ?_
    refine n_get C fg_Mod_44 hP 0 rfl rfl d_Mod_act_118 ?_
    refine lv_iload hx hb d_Mod_act_121 (lv_at hl 2 rfl) ?_
    refine n_iald C hP 8 rfl S.length rfl (by omega) (by omega) d_Mod_act_123 ?_
    refine tope (z := nI x.length) (hx1.1) ?_
    refine lv_iconst (v := nI 4) hx hb d_Mod_act_124 (by decide) ?_
    refine j_gt C x.length 4 rfl rfl (by omega) (by omega) d_Mod_act_125 rfl (fun hc20 => ?_) (fun hc20 => ?_)
    · refine lv_iconst (v := nI 0) hx hb d_Mod_act_143 (by decide) ?_
      exact kret (nI 0) [(y0, .inr (7, [.ref ya, .int (nI nt), .ref yo, .int (nI no), .ref ym, .ref yl, .ref yg, .ref yw, .ref yh, .ref yc, .ref yd, .ref yb, .ref yk, .ref yz, .int (nI (S.length + 1)), .int (b2 fl), .ref yr])), (yg, .inl (E.2.1, 32, .inl k5)), (yw, .inl (E.2.2.1, 64, .inl k6)), (yh, .inl (E.2.2.1, 8, .inl k7)), (yc, .inl (E.2.1, 32, .inl k8)), (yd, .inl (E.2.1, 32, .inl k9)), (yb, .inl (E.2.1, 512, .inl kb)), (yk, .inl (E.2.1, 1920, .inl f)), (yz, .inl (E.2.2.1, 24, .inl sz))] _ _ _ _ d_Mod_act_144 (⟨_, _, _, _, _, _, _, _, rfl, hB, Or.inr ⟨by show (if x.length ≤ 4 then some (numB (b2 (decide (numL x = nI 0))) :: S) else none) = _; rw [if_neg (by omega)], rfl⟩⟩) rfl hP hS
    · refine lv_iload hx hb d_Mod_act_128 (lv_at hl 1 rfl) ?_
      refine z_eq C 0 rfl (by omega) d_Mod_act_130 rfl (fun hc21 => ?_) (fun hc21 => absurd hc21 (by omega))
      refine lv_iload hx hb d_Mod_act_145 (lv_at hl 1 rfl) ?_
      refine z_eq C 0 rfl (by omega) d_Mod_act_147 rfl (fun hc22 => ?_) (fun hc22 => absurd hc22 (by omega))
      refine lv_iconst (v := nI 0) hx hb d_Mod_act_163 (by decide) ?_
      refine lv_istore (lv' := [(7, .int (nI 0)), (6, .int (nI 1)), (5, .int (nI 0)), (4, .int (nI S.length)), (3, .int ((nI (S.length + 1)) - (nI 2))), (0, .ref y0), (1, .int (nI 88)), (2, .int ht)]) hx hb d_Mod_act_164 hl (by decide) rfl (fun ls hl => ?_)
      refine lv_iload hx hb d_Mod_act_166 (lv_at hl 1 rfl) ?_
      refine z_eq C 1 rfl (by omega) d_Mod_act_168 rfl (fun hc23 => absurd hc23 (by omega)) (fun hc23 => ?_)
      refine lv_aload_n hx hb d_Mod_act_171 rfl (lv_at hl 5 rfl) ?_
      refine lv_iload hx hb d_Mod_act_172 (lv_at hl 3 rfl) ?_
      refine cal_I (As := [.int (nI S.length)]) (rest := []) C lk_Mod_81 (c_Mod_numberOf l E y0 ya yo ym yl yg yw yh yc yd yb yk yz yr nt no (S.length + 1) fl f sz S.length x (by omega) hx1.1 hx1.2.1 hx1.2.2 hB) (by decide) hP hD hS 0 7 rfl rfl [0, 7, 8] rfl (by decide) hl.1 rfl (Nat.le_of_ble_eq_true rfl) d_Mod_act_174 (fun r24 w1 H locs hp25 hP hD hS => ?_)
      obtain ⟨rfl, rfl⟩ := hp25
      have hP : va_P E.1 clz [(y0, .inr (7, [.ref ya, .int (nI nt), .ref yo, .int (nI no), .ref ym, .ref yl, .ref yg, .ref yw, .ref yh, .ref yc, .ref yd, .ref yb, .ref yk, .ref yz, .int (nI (S.length + 1)), .int (b2 fl), .ref yr])), (yg, .inl (E.2.1, 32, .inl k5)), (yw, .inl (E.2.2.1, 64, .inl k6)), (yh, .inl (E.2.2.1, 8, .inl k7)), (yc, .inl (E.2.1, 32, .inl k8)), (yd, .inl (E.2.1, 32, .inl k9)), (yb, .inl (E.2.1, 512, .inl kb)), (yk, .inl (E.2.1, 1920, .inl f)), (yz, .inl (E.2.2.1, 24, .inl sz))] H := hP
      have hD : va_D A [(y0, .inr (7, [.ref ya, .int (nI nt), .ref yo, .int (nI no), .ref ym, .ref yl, .ref yg, .ref yw, .ref yh, .ref yc, .ref yd, .ref yb, .ref yk, .ref yz, .int (nI (S.length + 1)), .int (b2 fl), .ref yr])), (yg, .inl (E.2.1, 32, .inl k5)), (yw, .inl (E.2.2.1, 64, .inl k6)), (yh, .inl (E.2.2.1, 8, .inl k7)), (yc, .inl (E.2.1, 32, .inl k8)), (yd, .inl (E.2.1, 32, .inl k9)), (yb, .inl (E.2.1, 512, .inl kb)), (yk, .inl (E.2.1, 1920, .inl f)), (yz, .inl (E.2.2.1, 24, .inl sz))] := hD
      refine lv_goto hx hb d_Mod_act_177 rfl ?_
      refine lv_istore (lv' := [(8, .int (numL x)), (7, .int (nI 0)), (6, .int (nI 1)), (5, .int (nI 0)), (4, .int (nI S.length)), (3, .int ((nI (S.length + 1)) - (nI 2))), (0, .ref y0), (1, .int (nI 88)), (2, .int ht)]) hx hb d_Mod_act_181 hl (by decide) rfl (fun ls hl => ?_)
      refine lv_iload_n hx hb d_Mod_act_183 rfl (lv_at hl 7 rfl) ?_
      refine lv_tableIn hx hb d_Mod_act_184 (by decide) (by decide) rfl rfl ?_
      refine lv_aload_n hx hb d_Mod_act_540 rfl (lv_at hl 6 rfl) ?_
      refine lv_dup hx hb d_Mod_act_541 rfl ?_
      refine n_get C fg_Mod_66 hP 0 rfl rfl d_Mod_act_542 ?_
      refine lv_iconst (v := nI 1) hx hb d_Mod_act_545 (by decide) ?_
      refine lv_isub hx hb d_Mod_act_546 ?_
      refine tope (z := nI S.length) ((pk_sub (by omega)).trans (congrArg nI (by omega))) ?_
      refine n_put (v := .int (nI S.length)) C fp_Mod_66 hP hD hS 0 rfl (rfl) rfl (Nat.le_of_ble_eq_true rfl) d_Mod_act_547 (fun H locs hP hD hS => ?_)
      have hP : va_P E.1 clz [(y0, .inr (7, [.ref ya, .int (nI nt), .ref yo, .int (nI no), .ref ym, .ref yl, .ref yg, .ref yw, .ref yh, .ref yc, .ref yd, .ref yb, .ref yk, .ref yz, .int (nI S.length), .int (b2 fl), .ref yr])), (yg, .inl (E.2.1, 32, .inl k5)), (yw, .inl (E.2.2.1, 64, .inl k6)), (yh, .inl (E.2.2.1, 8, .inl k7)), (yc, .inl (E.2.1, 32, .inl k8)), (yd, .inl (E.2.1, 32, .inl k9)), (yb, .inl (E.2.1, 512, .inl kb)), (yk, .inl (E.2.1, 1920, .inl f)), (yz, .inl (E.2.2.1, 24, .inl sz))] H := hP
      have hD : va_D A [(y0, .inr (7, [.ref ya, .int (nI nt), .ref yo, .int (nI no), .ref ym, .ref yl, .ref yg, .ref yw, .ref yh, .ref yc, .ref yd, .ref yb, .ref yk, .ref yz, .int (nI S.length), .int (b2 fl), .ref yr])), (yg, .inl (E.2.1, 32, .inl k5)), (yw, .inl (E.2.2.1, 64, .inl k6)), (yh, .inl (E.2.2.1, 8, .inl k7)), (yc, .inl (E.2.1, 32, .inl k8)), (yd, .inl (E.2.1, 32, .inl k9)), (yb, .inl (E.2.1, 512, .inl kb)), (yk, .inl (E.2.1, 1920, .inl f)), (yz, .inl (E.2.2.1, 24, .inl sz))] := hD
      refine lv_aload_n hx hb d_Mod_act_550 rfl (lv_at hl 6 rfl) ?_
      refine lv_iload hx hb d_Mod_act_551 (lv_at hl 0 rfl) ?_
      refine lv_if_ne hx hb d_Mod_act_553 rfl (fun hc26 => ?_) (fun hc26 => ?_)
      · refine lv_iconst (v := nI 0) hx hb d_Mod_act_560 (by decide) ?_
        refine cal_I (As := [.int (nI 0)]) (rest := []) C lk_Mod_89 (c_Mod_pushNumber l E y0 ya yo ym yl yg yw yh yc yd yb yk yz yr nt no fl f sz k8 S (nI 0) hr0 hB (by first | omega | (simp only [List.length_cons]; omega) | (rw [List.length_drop]; omega))) (by decide) hP hD hS 0 7 rfl rfl [0, 7, 8, 4] rfl (by decide) hl.1 rfl (Nat.le_of_ble_eq_true rfl) d_Mod_act_561 (fun r32 w1 H locs hp33 hP hD hS => ?_)
        obtain ⟨rfl, fq27, zq28, cq29, rfl, hrq30, hbq31⟩ := hp33
        have hP : va_P E.1 clz [(y0, .inr (7, [.ref ya, .int (nI nt), .ref yo, .int (nI no), .ref ym, .ref yl, .ref yg, .ref yw, .ref yh, .ref yc, .ref yd, .ref yb, .ref yk, .ref yz, .int (nI (S.length + 1)), .int (b2 fl), .ref yr])), (yg, .inl (E.2.1, 32, .inl k5)), (yw, .inl (E.2.2.1, 64, .inl k6)), (yh, .inl (E.2.2.1, 8, .inl k7)), (yc, .inl (E.2.1, 32, .inl cq29)), (yd, .inl (E.2.1, 32, .inl k9)), (yb, .inl (E.2.1, 512, .inl kb)), (yk, .inl (E.2.1, 1920, .inl fq27)), (yz, .inl (E.2.2.1, 24, .inl zq28))] H := hP
        have hD : va_D A [(y0, .inr (7, [.ref ya, .int (nI nt), .ref yo, .int (nI no), .ref ym, .ref yl, .ref yg, .ref yw, .ref yh, .ref yc, .ref yd, .ref yb, .ref yk, .ref yz, .int (nI (S.length + 1)), .int (b2 fl), .ref yr])), (yg, .inl (E.2.1, 32, .inl k5)), (yw, .inl (E.2.2.1, 64, .inl k6)), (yh, .inl (E.2.2.1, 8, .inl k7)), (yc, .inl (E.2.1, 32, .inl cq29)), (yd, .inl (E.2.1, 32, .inl k9)), (yb, .inl (E.2.1, 512, .inl kb)), (yk, .inl (E.2.1, 1920, .inl fq27)), (yz, .inl (E.2.2.1, 24, .inl zq28))] := hD
        exact kret (b2 true) [(y0, .inr (7, [.ref ya, .int (nI nt), .ref yo, .int (nI no), .ref ym, .ref yl, .ref yg, .ref yw, .ref yh, .ref yc, .ref yd, .ref yb, .ref yk, .ref yz, .int (nI (S.length + 1)), .int (b2 fl), .ref yr])), (yg, .inl (E.2.1, 32, .inl k5)), (yw, .inl (E.2.2.1, 64, .inl k6)), (yh, .inl (E.2.2.1, 8, .inl k7)), (yc, .inl (E.2.1, 32, .inl cq29)), (yd, .inl (E.2.1, 32, .inl k9)), (yb, .inl (E.2.1, 512, .inl kb)), (yk, .inl (E.2.1, 1920, .inl fq27)), (yz, .inl (E.2.2.1, 24, .inl zq28))] _ _ _ _ d_Mod_act_564 (⟨_, _, _, _, _, _, _, _, rfl, hbq31, Or.inl ⟨(numB (b2 false) :: S), by show (if x.length ≤ 4 then some (numB (b2 (decide (numL x = nI 0))) :: S) else none) = _; rw [if_pos (by omega), decide_eq_false (p := numL x = nI 0) hc26], rfl, by first | rfl | (simp only [List.length_cons]; omega) | (simp only [List.length_cons]), hrq30, by first | (simp only [List.length_cons]; omega) | (simp only [List.length_cons]) | omega⟩⟩) rfl hP hS
      · refine lv_iconst (v := nI 1) hx hb d_Mod_act_556 (by decide) ?_
        refine lv_goto hx hb d_Mod_act_557 rfl ?_
        refine cal_I (As := [.int (nI 1)]) (rest := []) C lk_Mod_89 (c_Mod_pushNumber l E y0 ya yo ym yl yg yw yh yc yd yb yk yz yr nt no fl f sz k8 S (nI 1) hr0 hB (by first | omega | (simp only [List.length_cons]; omega) | (rw [List.length_drop]; omega))) (by decide) hP hD hS 0 7 rfl rfl [0, 7, 8, 4] rfl (by decide) hl.1 rfl (Nat.le_of_ble_eq_true rfl) d_Mod_act_561 (fun r39 w1 H locs hp40 hP hD hS => ?_)
        obtain ⟨rfl, fq34, zq35, cq36, rfl, hrq37, hbq38⟩ := hp40
        have hP : va_P E.1 clz [(y0, .inr (7, [.ref ya, .int (nI nt), .ref yo, .int (nI no), .ref ym, .ref yl, .ref yg, .ref yw, .ref yh, .ref yc, .ref yd, .ref yb, .ref yk, .ref yz, .int (nI (S.length + 1)), .int (b2 fl), .ref yr])), (yg, .inl (E.2.1, 32, .inl k5)), (yw, .inl (E.2.2.1, 64, .inl k6)), (yh, .inl (E.2.2.1, 8, .inl k7)), (yc, .inl (E.2.1, 32, .inl cq36)), (yd, .inl (E.2.1, 32, .inl k9)), (yb, .inl (E.2.1, 512, .inl kb)), (yk, .inl (E.2.1, 1920, .inl fq34)), (yz, .inl (E.2.2.1, 24, .inl zq35))] H := hP
        have hD : va_D A [(y0, .inr (7, [.ref ya, .int (nI nt), .ref yo, .int (nI no), .ref ym, .ref yl, .ref yg, .ref yw, .ref yh, .ref yc, .ref yd, .ref yb, .ref yk, .ref yz, .int (nI (S.length + 1)), .int (b2 fl), .ref yr])), (yg, .inl (E.2.1, 32, .inl k5)), (yw, .inl (E.2.2.1, 64, .inl k6)), (yh, .inl (E.2.2.1, 8, .inl k7)), (yc, .inl (E.2.1, 32, .inl cq36)), (yd, .inl (E.2.1, 32, .inl k9)), (yb, .inl (E.2.1, 512, .inl kb)), (yk, .inl (E.2.1, 1920, .inl fq34)), (yz, .inl (E.2.2.1, 24, .inl zq35))] := hD
        exact kret (b2 true) [(y0, .inr (7, [.ref ya, .int (nI nt), .ref yo, .int (nI no), .ref ym, .ref yl, .ref yg, .ref yw, .ref yh, .ref yc, .ref yd, .ref yb, .ref yk, .ref yz, .int (nI (S.length + 1)), .int (b2 fl), .ref yr])), (yg, .inl (E.2.1, 32, .inl k5)), (yw, .inl (E.2.2.1, 64, .inl k6)), (yh, .inl (E.2.2.1, 8, .inl k7)), (yc, .inl (E.2.1, 32, .inl cq36)), (yd, .inl (E.2.1, 32, .inl k9)), (yb, .inl (E.2.1, 512, .inl kb)), (yk, .inl (E.2.1, 1920, .inl fq34)), (yz, .inl (E.2.2.1, 24, .inl zq35))] _ _ _ _ d_Mod_act_564 (⟨_, _, _, _, _, _, _, _, rfl, hbq38, Or.inl ⟨(numB (b2 true) :: S), by show (if x.length ≤ 4 then some (numB (b2 (decide (numL x = nI 0))) :: S) else none) = _; rw [if_pos (by omega), decide_eq_true (p := numL x = nI 0) hc26], rfl, by first | rfl | (simp only [List.length_cons]; omega) | (simp only [List.length_cons]), hrq37, by first | (simp only [List.length_cons]; omega) | (simp only [List.length_cons]) | omega⟩⟩) rfl hP hS

set_option maxHeartbeats 4000000 in
set_option maxRecDepth 100000 in
theorem c_act_89 (l : Launch) (E : En) (y0 ya yo ym yl yg yw yh yc yd yb yk yz yr nt no : Nat) (fl : Bool) (k5 k6 k7 k8 k9 kb f sz : Nat → Int32) (S : Stk) (msg : Byl) (hrep : rep f sz S) (hB : fB f) (hB5 : fB k5) (hlen : S.length ≤ 24) (hm : lay k5 0 msg) (hm32 : msg.length = 32) (ht : Int32) : CtI l y_Mod_act b_Mod_act 11 .boolean (rmd 4) E [.ref y0, .int (nI 89), .int ht] [(y0, .inr (7, [.ref ya, .int (nI nt), .ref yo, .int (nI no), .ref ym, .ref yl, .ref yg, .ref yw, .ref yh, .ref yc, .ref yd, .ref yb, .ref yk, .ref yz, .int (nI S.length), .int (b2 fl), .ref yr])), (yg, .inl (E.2.1, 32, .inl k5)), (yw, .inl (E.2.2.1, 64, .inl k6)), (yh, .inl (E.2.2.1, 8, .inl k7)), (yc, .inl (E.2.1, 32, .inl k8)), (yd, .inl (E.2.1, 32, .inl k9)), (yb, .inl (E.2.1, 512, .inl kb)), (yk, .inl (E.2.1, 1920, .inl f)), (yz, .inl (E.2.2.1, 24, .inl sz))] (stepM E y0 ya yo ym yl yg yw yh yc yd yb yk yz yr nt no fl k5 (actS 89 ht msg S)) := by
  refine CtI.of (by decide) (Nat.le_of_ble_eq_true rfl) (stepM_nar) ?_
  intro p e s m args below meth c A Q H locs ls C hP hD hS hl kret
  have hx := C.1
  have hb := C.2.1
  have hl : lv_has ls 11 [(0, .ref y0), (1, .int (nI 89)), (2, .int ht)] := hl
  rcases S with _ | ⟨x, _ | ⟨y, S⟩⟩
  · have hP : va_P E.1 clz [(y0, .inr (7, [.ref ya, .int (nI nt), .ref yo, .int (nI no), .ref ym, .ref yl, .ref yg, .ref yw, .ref yh, .ref yc, .ref yd, .ref yb, .ref yk, .ref yz, .int (nI 0), .int (b2 fl), .ref yr])), (yg, .inl (E.2.1, 32, .inl k5)), (yw, .inl (E.2.2.1, 64, .inl k6)), (yh, .inl (E.2.2.1, 8, .inl k7)), (yc, .inl (E.2.1, 32, .inl k8)), (yd, .inl (E.2.1, 32, .inl k9)), (yb, .inl (E.2.1, 512, .inl kb)), (yk, .inl (E.2.1, 1920, .inl f)), (yz, .inl (E.2.2.1, 24, .inl sz))] H := hP
    have hD : va_D A [(y0, .inr (7, [.ref ya, .int (nI nt), .ref yo, .int (nI no), .ref ym, .ref yl, .ref yg, .ref yw, .ref yh, .ref yc, .ref yd, .ref yb, .ref yk, .ref yz, .int (nI 0), .int (b2 fl), .ref yr])), (yg, .inl (E.2.1, 32, .inl k5)), (yw, .inl (E.2.2.1, 64, .inl k6)), (yh, .inl (E.2.2.1, 8, .inl k7)), (yc, .inl (E.2.1, 32, .inl k8)), (yd, .inl (E.2.1, 32, .inl k9)), (yb, .inl (E.2.1, 512, .inl kb)), (yk, .inl (E.2.1, 1920, .inl f)), (yz, .inl (E.2.2.1, 24, .inl sz))] := hD
    refine lv_aload_n hx hb d_Mod_act_0 rfl (lv_at hl 0 rfl) ?_
    refine n_get C fg_Mod_66 hP 0 rfl rfl d_Mod_act_1 ?_
    refine lv_iconst (v := nI 2) hx hb d_Mod_act_4 (by decide) ?_
    refine lv_isub hx hb d_Mod_act_5 ?_
    refine tope (z := (-2)) (by decide) ?_
    refine lv_istore_n (lv' := [(3, .int (-2)), (0, .ref y0), (1, .int (nI 89)), (2, .int ht)]) hx hb d_Mod_act_6 rfl hl (by decide) rfl (fun ls hl => ?_)
    refine lv_aload_n hx hb d_Mod_act_7 rfl (lv_at hl 1 rfl) ?_
    refine n_get C fg_Mod_66 hP 0 rfl rfl d_Mod_act_8 ?_
    refine lv_iconst (v := nI 1) hx hb d_Mod_act_11 (by decide) ?_
    refine lv_isub hx hb d_Mod_act_12 ?_
    refine tope (z := (-1)) (by decide) ?_
    refine lv_istore (lv' := [(4, .int (-1)), (3, .int (-2)), (0, .ref y0), (1, .int (nI 89)), (2, .int ht)]) hx hb d_Mod_act_13 hl (by decide) rfl (fun ls hl => ?_)
    refine lv_iload_n hx hb d_Mod_act_15 rfl (lv_at hl 3 rfl) ?_
    refine lv_bipush (v := nI 82) hx hb d_Mod_act_16 (by decide) ?_
    refine j_eq C 89 82 rfl rfl (by decide) (by decide) d_Mod_act_18 rfl (fun hc1 => absurd hc1 (by decide)) (fun hc1 => ?_)
    refine lv_iload_n hx hb d_Mod_act_21 rfl (lv_at hl 3 rfl) ?_
    refine lv_bipush (v := nI 83) hx hb d_Mod_act_22 (by decide) ?_
    refine j_eq C 89 83 rfl rfl (by decide) (by decide) d_Mod_act_24 rfl (fun hc2 => absurd hc2 (by decide)) (fun hc2 => ?_)
    refine lv_iload_n hx hb d_Mod_act_27 rfl (lv_at hl 3 rfl) ?_
    refine lv_bipush (v := nI 86) hx hb d_Mod_act_28 (by decide) ?_
    refine j_eq C 89 86 rfl rfl (by decide) (by decide) d_Mod_act_30 rfl (fun hc3 => absurd hc3 (by decide)) (fun hc3 => ?_)
    refine lv_iload_n hx hb d_Mod_act_33 rfl (lv_at hl 3 rfl) ?_
    refine lv_bipush (v := nI 89) hx hb d_Mod_act_34 (by decide) ?_
    refine j_lt C 89 89 rfl rfl (by decide) (by decide) d_Mod_act_36 rfl (fun hc4 => absurd hc4 (by decide)) (fun hc4 => ?_)
    refine lv_iload_n hx hb d_Mod_act_39 rfl (lv_at hl 3 rfl) ?_
    refine lv_bipush (v := nI 92) hx hb d_Mod_act_40 (by decide) ?_
    refine j_le C 89 92 rfl rfl (by decide) (by decide) d_Mod_act_42 rfl (fun hc5 => ?_) (fun hc5 => absurd hc5 (by decide))
    refine lv_iconst (v := nI 1) hx hb d_Mod_act_51 (by decide) ?_
    refine lv_goto hx hb d_Mod_act_52 rfl ?_
    refine lv_istore (lv' := [(5, .int (nI 1)), (4, .int (-1)), (3, .int (-2)), (0, .ref y0), (1, .int (nI 89)), (2, .int ht)]) hx hb d_Mod_act_56 hl (by decide) rfl (fun ls hl => ?_)
    refine lv_aload_n hx hb d_Mod_act_58 rfl (lv_at hl 3 rfl) ?_
    refine n_get C fg_Mod_66 hP 0 rfl rfl d_Mod_act_59 ?_
    refine lv_iload hx hb d_Mod_act_62 (lv_at hl 0 rfl) ?_
    refine z_eq C 1 rfl (by omega) d_Mod_act_64 rfl (fun hc6 => absurd hc6 (by omega)) (fun hc6 => ?_)
    refine lv_iconst (v := nI 2) hx hb d_Mod_act_67 (by decide) ?_
    refine lv_goto hx hb d_Mod_act_68 rfl ?_
    refine j_ge C 0 2 rfl rfl (by decide) (by decide) d_Mod_act_82 rfl (fun hc7 => absurd hc7 (by decide)) (fun hc7 => ?_)
    refine lv_iconst (v := nI 0) hx hb d_Mod_act_85 (by decide) ?_
    exact kret (nI 0) [(y0, .inr (7, [.ref ya, .int (nI nt), .ref yo, .int (nI no), .ref ym, .ref yl, .ref yg, .ref yw, .ref yh, .ref yc, .ref yd, .ref yb, .ref yk, .ref yz, .int (nI 0), .int (b2 fl), .ref yr])), (yg, .inl (E.2.1, 32, .inl k5)), (yw, .inl (E.2.2.1, 64, .inl k6)), (yh, .inl (E.2.2.1, 8, .inl k7)), (yc, .inl (E.2.1, 32, .inl k8)), (yd, .inl (E.2.1, 32, .inl k9)), (yb, .inl (E.2.1, 512, .inl kb)), (yk, .inl (E.2.1, 1920, .inl f)), (yz, .inl (E.2.2.1, 24, .inl sz))] _ _ _ _ d_Mod_act_86 (⟨_, _, _, _, _, _, _, _, rfl, hB, Or.inr ⟨rfl, rfl⟩⟩) rfl hP hS
  · have hP : va_P E.1 clz [(y0, .inr (7, [.ref ya, .int (nI nt), .ref yo, .int (nI no), .ref ym, .ref yl, .ref yg, .ref yw, .ref yh, .ref yc, .ref yd, .ref yb, .ref yk, .ref yz, .int (nI 1), .int (b2 fl), .ref yr])), (yg, .inl (E.2.1, 32, .inl k5)), (yw, .inl (E.2.2.1, 64, .inl k6)), (yh, .inl (E.2.2.1, 8, .inl k7)), (yc, .inl (E.2.1, 32, .inl k8)), (yd, .inl (E.2.1, 32, .inl k9)), (yb, .inl (E.2.1, 512, .inl kb)), (yk, .inl (E.2.1, 1920, .inl f)), (yz, .inl (E.2.2.1, 24, .inl sz))] H := hP
    have hD : va_D A [(y0, .inr (7, [.ref ya, .int (nI nt), .ref yo, .int (nI no), .ref ym, .ref yl, .ref yg, .ref yw, .ref yh, .ref yc, .ref yd, .ref yb, .ref yk, .ref yz, .int (nI 1), .int (b2 fl), .ref yr])), (yg, .inl (E.2.1, 32, .inl k5)), (yw, .inl (E.2.2.1, 64, .inl k6)), (yh, .inl (E.2.2.1, 8, .inl k7)), (yc, .inl (E.2.1, 32, .inl k8)), (yd, .inl (E.2.1, 32, .inl k9)), (yb, .inl (E.2.1, 512, .inl kb)), (yk, .inl (E.2.1, 1920, .inl f)), (yz, .inl (E.2.2.1, 24, .inl sz))] := hD
    refine lv_aload_n hx hb d_Mod_act_0 rfl (lv_at hl 0 rfl) ?_
    refine n_get C fg_Mod_66 hP 0 rfl rfl d_Mod_act_1 ?_
    refine lv_iconst (v := nI 2) hx hb d_Mod_act_4 (by decide) ?_
    refine lv_isub hx hb d_Mod_act_5 ?_
    refine tope (z := (-1)) (by decide) ?_
    refine lv_istore_n (lv' := [(3, .int (-1)), (0, .ref y0), (1, .int (nI 89)), (2, .int ht)]) hx hb d_Mod_act_6 rfl hl (by decide) rfl (fun ls hl => ?_)
    refine lv_aload_n hx hb d_Mod_act_7 rfl (lv_at hl 1 rfl) ?_
    refine n_get C fg_Mod_66 hP 0 rfl rfl d_Mod_act_8 ?_
    refine lv_iconst (v := nI 1) hx hb d_Mod_act_11 (by decide) ?_
    refine lv_isub hx hb d_Mod_act_12 ?_
    refine tope (z := nI 0) (pk_sub (by omega)) ?_
    refine lv_istore (lv' := [(4, .int (nI 0)), (3, .int (-1)), (0, .ref y0), (1, .int (nI 89)), (2, .int ht)]) hx hb d_Mod_act_13 hl (by decide) rfl (fun ls hl => ?_)
    refine lv_iload_n hx hb d_Mod_act_15 rfl (lv_at hl 3 rfl) ?_
    refine lv_bipush (v := nI 82) hx hb d_Mod_act_16 (by decide) ?_
    refine j_eq C 89 82 rfl rfl (by decide) (by decide) d_Mod_act_18 rfl (fun hc8 => absurd hc8 (by decide)) (fun hc8 => ?_)
    refine lv_iload_n hx hb d_Mod_act_21 rfl (lv_at hl 3 rfl) ?_
    refine lv_bipush (v := nI 83) hx hb d_Mod_act_22 (by decide) ?_
    refine j_eq C 89 83 rfl rfl (by decide) (by decide) d_Mod_act_24 rfl (fun hc9 => absurd hc9 (by decide)) (fun hc9 => ?_)
    refine lv_iload_n hx hb d_Mod_act_27 rfl (lv_at hl 3 rfl) ?_
    refine lv_bipush (v := nI 86) hx hb d_Mod_act_28 (by decide) ?_
    refine j_eq C 89 86 rfl rfl (by decide) (by decide) d_Mod_act_30 rfl (fun hc10 => absurd hc10 (by decide)) (fun hc10 => ?_)
    refine lv_iload_n hx hb d_Mod_act_33 rfl (lv_at hl 3 rfl) ?_
    refine lv_bipush (v := nI 89) hx hb d_Mod_act_34 (by decide) ?_
    refine j_lt C 89 89 rfl rfl (by decide) (by decide) d_Mod_act_36 rfl (fun hc11 => absurd hc11 (by decide)) (fun hc11 => ?_)
    refine lv_iload_n hx hb d_Mod_act_39 rfl (lv_at hl 3 rfl) ?_
    refine lv_bipush (v := nI 92) hx hb d_Mod_act_40 (by decide) ?_
    refine j_le C 89 92 rfl rfl (by decide) (by decide) d_Mod_act_42 rfl (fun hc12 => ?_) (fun hc12 => absurd hc12 (by decide))
    refine lv_iconst (v := nI 1) hx hb d_Mod_act_51 (by decide) ?_
    refine lv_goto hx hb d_Mod_act_52 rfl ?_
    refine lv_istore (lv' := [(5, .int (nI 1)), (4, .int (nI 0)), (3, .int (-1)), (0, .ref y0), (1, .int (nI 89)), (2, .int ht)]) hx hb d_Mod_act_56 hl (by decide) rfl (fun ls hl => ?_)
    refine lv_aload_n hx hb d_Mod_act_58 rfl (lv_at hl 3 rfl) ?_
    refine n_get C fg_Mod_66 hP 0 rfl rfl d_Mod_act_59 ?_
    refine lv_iload hx hb d_Mod_act_62 (lv_at hl 0 rfl) ?_
    refine z_eq C 1 rfl (by omega) d_Mod_act_64 rfl (fun hc13 => absurd hc13 (by omega)) (fun hc13 => ?_)
    refine lv_iconst (v := nI 2) hx hb d_Mod_act_67 (by decide) ?_
    refine lv_goto hx hb d_Mod_act_68 rfl ?_
    refine j_ge C 1 2 rfl rfl (by decide) (by decide) d_Mod_act_82 rfl (fun hc14 => absurd hc14 (by decide)) (fun hc14 => ?_)
    refine lv_iconst (v := nI 0) hx hb d_Mod_act_85 (by decide) ?_
    exact kret (nI 0) [(y0, .inr (7, [.ref ya, .int (nI nt), .ref yo, .int (nI no), .ref ym, .ref yl, .ref yg, .ref yw, .ref yh, .ref yc, .ref yd, .ref yb, .ref yk, .ref yz, .int (nI 1), .int (b2 fl), .ref yr])), (yg, .inl (E.2.1, 32, .inl k5)), (yw, .inl (E.2.2.1, 64, .inl k6)), (yh, .inl (E.2.2.1, 8, .inl k7)), (yc, .inl (E.2.1, 32, .inl k8)), (yd, .inl (E.2.1, 32, .inl k9)), (yb, .inl (E.2.1, 512, .inl kb)), (yk, .inl (E.2.1, 1920, .inl f)), (yz, .inl (E.2.2.1, 24, .inl sz))] _ _ _ _ d_Mod_act_86 (⟨_, _, _, _, _, _, _, _, rfl, hB, Or.inr ⟨rfl, rfl⟩⟩) rfl hP hS
  · have hx1 : sz (S.length + 1) = nI x.length ∧ x.length ≤ 80 ∧ lay f ((S.length + 1) * 80) x := rep_top hrep
    have hy1 : sz S.length = nI y.length ∧ y.length ≤ 80 ∧ lay f (S.length * 80) y := rep_top (rep_tail hrep)
    have hr0 : rep f sz S := rep_tail (rep_tail hrep)
    have hlen : S.length + 2 ≤ 24 := hlen
    have hP : va_P E.1 clz [(y0, .inr (7, [.ref ya, .int (nI nt), .ref yo, .int (nI no), .ref ym, .ref yl, .ref yg, .ref yw, .ref yh, .ref yc, .ref yd, .ref yb, .ref yk, .ref yz, .int (nI (S.length + 2)), .int (b2 fl), .ref yr])), (yg, .inl (E.2.1, 32, .inl k5)), (yw, .inl (E.2.2.1, 64, .inl k6)), (yh, .inl (E.2.2.1, 8, .inl k7)), (yc, .inl (E.2.1, 32, .inl k8)), (yd, .inl (E.2.1, 32, .inl k9)), (yb, .inl (E.2.1, 512, .inl kb)), (yk, .inl (E.2.1, 1920, .inl f)), (yz, .inl (E.2.2.1, 24, .inl sz))] H := hP
    have hD : va_D A [(y0, .inr (7, [.ref ya, .int (nI nt), .ref yo, .int (nI no), .ref ym, .ref yl, .ref yg, .ref yw, .ref yh, .ref yc, .ref yd, .ref yb, .ref yk, .ref yz, .int (nI (S.length + 2)), .int (b2 fl), .ref yr])), (yg, .inl (E.2.1, 32, .inl k5)), (yw, .inl (E.2.2.1, 64, .inl k6)), (yh, .inl (E.2.2.1, 8, .inl k7)), (yc, .inl (E.2.1, 32, .inl k8)), (yd, .inl (E.2.1, 32, .inl k9)), (yb, .inl (E.2.1, 512, .inl kb)), (yk, .inl (E.2.1, 1920, .inl f)), (yz, .inl (E.2.2.1, 24, .inl sz))] := hD
    refine lv_aload_n hx hb d_Mod_act_0 rfl (lv_at hl 0 rfl) ?_
    refine n_get C fg_Mod_66 hP 0 rfl rfl d_Mod_act_1 ?_
    refine lv_iconst (v := nI 2) hx hb d_Mod_act_4 (by decide) ?_
    refine lv_isub hx hb d_Mod_act_5 ?_
    refine tope (z := nI S.length) ((pk_sub (by omega)).trans (congrArg nI (by omega))) ?_
    refine lv_istore_n (lv' := [(3, .int (nI S.length)), (0, .ref y0), (1, .int (nI 89)), (2, .int ht)]) hx hb d_Mod_act_6 rfl hl (by decide) rfl (fun ls hl => ?_)
    refine lv_aload_n hx hb d_Mod_act_7 rfl (lv_at hl 1 rfl) ?_
    refine n_get C fg_Mod_66 hP 0 rfl rfl d_Mod_act_8 ?_
    refine lv_iconst (v := nI 1) hx hb d_Mod_act_11 (by decide) ?_
    refine lv_isub hx hb d_Mod_act_12 ?_
    refine tope (z := nI (S.length + 1)) ((pk_sub (by omega)).trans (congrArg nI (by omega))) ?_
    refine lv_istore (lv' := [(4, .int (nI (S.length + 1))), (3, .int (nI S.length)), (0, .ref y0), (1, .int (nI 89)), (2, .int ht)]) hx hb d_Mod_act_13 hl (by decide) rfl (fun ls hl => ?_)
    refine lv_iload_n hx hb d_Mod_act_15 rfl (lv_at hl 3 rfl) ?_
    refine lv_bipush (v := nI 82) hx hb d_Mod_act_16 (by decide) ?_
    refine j_eq C 89 82 rfl rfl (by decide) (by decide) d_Mod_act_18 rfl (fun hc15 => absurd hc15 (by decide)) (fun hc15 => ?_)
    refine lv_iload_n hx hb d_Mod_act_21 rfl (lv_at hl 3 rfl) ?_
    refine lv_bipush (v := nI 83) hx hb d_Mod_act_22 (by decide) ?_
    refine j_eq C 89 83 rfl rfl (by decide) (by decide) d_Mod_act_24 rfl (fun hc16 => absurd hc16 (by decide)) (fun hc16 => ?_)
    refine lv_iload_n hx hb d_Mod_act_27 rfl (lv_at hl 3 rfl) ?_
    refine lv_bipush (v := nI 86) hx hb d_Mod_act_28 (by decide) ?_
    refine j_eq C 89 86 rfl rfl (by decide) (by decide) d_Mod_act_30 rfl (fun hc17 => absurd hc17 (by decide)) (fun hc17 => ?_)
    refine lv_iload_n hx hb d_Mod_act_33 rfl (lv_at hl 3 rfl) ?_
    refine lv_bipush (v := nI 89) hx hb d_Mod_act_34 (by decide) ?_
    refine j_lt C 89 89 rfl rfl (by decide) (by decide) d_Mod_act_36 rfl (fun hc18 => absurd hc18 (by decide)) (fun hc18 => ?_)
    refine lv_iload_n hx hb d_Mod_act_39 rfl (lv_at hl 3 rfl) ?_
    refine lv_bipush (v := nI 92) hx hb d_Mod_act_40 (by decide) ?_
    refine j_le C 89 92 rfl rfl (by decide) (by decide) d_Mod_act_42 rfl (fun hc19 => ?_) (fun hc19 => absurd hc19 (by decide))
    refine lv_iconst (v := nI 1) hx hb d_Mod_act_51 (by decide) ?_
    refine lv_goto hx hb d_Mod_act_52 rfl ?_
    refine lv_istore (lv' := [(5, .int (nI 1)), (4, .int (nI (S.length + 1))), (3, .int (nI S.length)), (0, .ref y0), (1, .int (nI 89)), (2, .int ht)]) hx hb d_Mod_act_56 hl (by decide) rfl (fun ls hl => ?_)
    refine lv_aload_n hx hb d_Mod_act_58 rfl (lv_at hl 3 rfl) ?_
    refine n_get C fg_Mod_66 hP 0 rfl rfl d_Mod_act_59 ?_
    refine lv_iload hx hb d_Mod_act_62 (lv_at hl 0 rfl) ?_
    refine z_eq C 1 rfl (by omega) d_Mod_act_64 rfl (fun hc20 => absurd hc20 (by omega)) (fun hc20 => ?_)
    refine lv_iconst (v := nI 2) hx hb d_Mod_act_67 (by decide) ?_
    refine lv_goto hx hb d_Mod_act_68 rfl ?_
    refine j_ge C (S.length + 2) 2 rfl rfl (by omega) (by omega) d_Mod_act_82 rfl (fun hc21 => ?_) (fun hc21 => absurd hc21 (by omega))
    refine lv_iload_n hx hb d_Mod_act_87 rfl (lv_at hl 4 rfl) ?_
    refine lv_bipush (v := nI 88) hx hb d_Mod_act_88 (by decide) ?_
    refine j_lt C 89 88 rfl rfl (by decide) (by decide) d_Mod_act_90 rfl (fun hc22 => absurd hc22 (by decide)) (fun hc22 => ?_)
    refine lv_iload_n hx hb d_Mod_act_93 rfl (lv_at hl 4 rfl) ?_
    refine lv_bipush (v := nI 91) hx hb d_Mod_act_94 (by decide) ?_
    refine j_le C 89 91 rfl rfl (by decide) (by decide) d_Mod_act_96 rfl (fun hc23 => ?_) (fun hc23 => absurd hc23 (by decide))
    refine lv_iconst (v := nI 1) hx hb d_Mod_act_105 (by decide) ?_
    refine lv_goto hx hb d_Mod_act_106 rfl ?_
    refine lv_istore (lv' := [(6, .int (nI 1)), (5, .int (nI 1)), (4, .int (nI (S.length + 1))), (3, .int (nI S.length)), (0, .ref y0), (1, .int (nI 89)), (2, .int ht)]) hx hb d_Mod_act_110 hl (by decide) rfl (fun ls hl => ?_)
    refine lv_iload hx hb d_Mod_act_112 (lv_at hl 0 rfl) ?_
    refine z_eq C 1 rfl (by omega) d_Mod_act_114 rfl (fun hc24 => absurd hc24 (by omega)) (fun hc24 => ?_)
    refine lv_aload_n hx hb d_Mod_act_117 rfl (lv_at hl 4 rfl) ?_
    refine n_get C fg_Mod_44 hP 0 rfl rfl d_Mod_act_118 ?_
    refine lv_iload hx hb d_Mod_act_121 (lv_at hl 2 rfl) ?_
    refine n_iald C hP 8 rfl (S.length + 1) rfl (by omega) (by omega) d_Mod_act_123 ?_
    refine tope (z := nI x.length) (hx1.1) ?_
    refine lv_iconst (v := nI 4) hx hb d_Mod_act_124 (by decide) ?_
    refine j_gt C x.length 4 rfl rfl (by omega) (by omega) d_Mod_act_125 rfl (fun hc25 => ?_) (fun hc25 => ?_)
    · refine lv_iconst (v := nI 0) hx hb d_Mod_act_143 (by decide) ?_
      exact kret (nI 0) [(y0, .inr (7, [.ref ya, .int (nI nt), .ref yo, .int (nI no), .ref ym, .ref yl, .ref yg, .ref yw, .ref yh, .ref yc, .ref yd, .ref yb, .ref yk, .ref yz, .int (nI (S.length + 2)), .int (b2 fl), .ref yr])), (yg, .inl (E.2.1, 32, .inl k5)), (yw, .inl (E.2.2.1, 64, .inl k6)), (yh, .inl (E.2.2.1, 8, .inl k7)), (yc, .inl (E.2.1, 32, .inl k8)), (yd, .inl (E.2.1, 32, .inl k9)), (yb, .inl (E.2.1, 512, .inl kb)), (yk, .inl (E.2.1, 1920, .inl f)), (yz, .inl (E.2.2.1, 24, .inl sz))] _ _ _ _ d_Mod_act_144 (⟨_, _, _, _, _, _, _, _, rfl, hB, Or.inr ⟨by show (if y.length ≤ 4 ∧ x.length ≤ 4 then some (numB (numL y + numL x) :: S) else none) = _; rw [if_neg (by omega)], rfl⟩⟩) rfl hP hS
    · refine lv_iload hx hb d_Mod_act_128 (lv_at hl 1 rfl) ?_
      refine z_eq C 1 rfl (by omega) d_Mod_act_130 rfl (fun hc26 => absurd hc26 (by omega)) (fun hc26 => ?_)
      refine lv_aload_n hx hb d_Mod_act_133 rfl (lv_at hl 4 rfl) ?_
      refine n_get C fg_Mod_44 hP 0 rfl rfl d_Mod_act_134 ?_
      refine lv_iload_n hx hb d_Mod_act_137 rfl (lv_at hl 3 rfl) ?_
      refine n_iald C hP 8 rfl S.length rfl (by omega) (by omega) d_Mod_act_138 ?_
      refine tope (z := nI y.length) (hy1.1) ?_
      refine lv_iconst (v := nI 4) hx hb d_Mod_act_139 (by decide) ?_
      refine j_le C y.length 4 rfl rfl (by omega) (by omega) d_Mod_act_140 rfl (fun hc27 => ?_) (fun hc27 => ?_)
      · refine lv_iload hx hb d_Mod_act_145 (lv_at hl 1 rfl) ?_
        refine z_eq C 1 rfl (by omega) d_Mod_act_147 rfl (fun hc28 => absurd hc28 (by omega)) (fun hc28 => ?_)
        refine lv_iload hx hb d_Mod_act_150 (lv_at hl 0 rfl) ?_
        refine z_eq C 1 rfl (by omega) d_Mod_act_152 rfl (fun hc29 => absurd hc29 (by omega)) (fun hc29 => ?_)
        refine lv_aload_n hx hb d_Mod_act_155 rfl (lv_at hl 4 rfl) ?_
        refine lv_iload_n hx hb d_Mod_act_156 rfl (lv_at hl 3 rfl) ?_
        refine cal_I (As := [.int (nI S.length)]) (rest := []) C lk_Mod_81 (c_Mod_numberOf l E y0 ya yo ym yl yg yw yh yc yd yb yk yz yr nt no (S.length + 2) fl f sz S.length y (by omega) hy1.1 hy1.2.1 hy1.2.2 hB) (by decide) hP hD hS 0 7 rfl rfl [0, 7, 8] rfl (by decide) hl.1 rfl (Nat.le_of_ble_eq_true rfl) d_Mod_act_157 (fun r30 w1 H locs hp31 hP hD hS => ?_)
        obtain ⟨rfl, rfl⟩ := hp31
        have hP : va_P E.1 clz [(y0, .inr (7, [.ref ya, .int (nI nt), .ref yo, .int (nI no), .ref ym, .ref yl, .ref yg, .ref yw, .ref yh, .ref yc, .ref yd, .ref yb, .ref yk, .ref yz, .int (nI (S.length + 2)), .int (b2 fl), .ref yr])), (yg, .inl (E.2.1, 32, .inl k5)), (yw, .inl (E.2.2.1, 64, .inl k6)), (yh, .inl (E.2.2.1, 8, .inl k7)), (yc, .inl (E.2.1, 32, .inl k8)), (yd, .inl (E.2.1, 32, .inl k9)), (yb, .inl (E.2.1, 512, .inl kb)), (yk, .inl (E.2.1, 1920, .inl f)), (yz, .inl (E.2.2.1, 24, .inl sz))] H := hP
        have hD : va_D A [(y0, .inr (7, [.ref ya, .int (nI nt), .ref yo, .int (nI no), .ref ym, .ref yl, .ref yg, .ref yw, .ref yh, .ref yc, .ref yd, .ref yb, .ref yk, .ref yz, .int (nI (S.length + 2)), .int (b2 fl), .ref yr])), (yg, .inl (E.2.1, 32, .inl k5)), (yw, .inl (E.2.2.1, 64, .inl k6)), (yh, .inl (E.2.2.1, 8, .inl k7)), (yc, .inl (E.2.1, 32, .inl k8)), (yd, .inl (E.2.1, 32, .inl k9)), (yb, .inl (E.2.1, 512, .inl kb)), (yk, .inl (E.2.1, 1920, .inl f)), (yz, .inl (E.2.2.1, 24, .inl sz))] := hD
        refine lv_goto hx hb d_Mod_act_160 rfl ?_
        refine lv_istore (lv' := [(7, .int (numL y)), (6, .int (nI 1)), (5, .int (nI 1)), (4, .int (nI (S.length + 1))), (3, .int (nI S.length)), (0, .ref y0), (1, .int (nI 89)), (2, .int ht)]) hx hb d_Mod_act_164 hl (by decide) rfl (fun ls hl => ?_)
        refine lv_iload hx hb d_Mod_act_166 (lv_at hl 1 rfl) ?_
        refine z_eq C 1 rfl (by omega) d_Mod_act_168 rfl (fun hc32 => absurd hc32 (by omega)) (fun hc32 => ?_)
        refine lv_aload_n hx hb d_Mod_act_171 rfl (lv_at hl 5 rfl) ?_
        refine lv_iload hx hb d_Mod_act_172 (lv_at hl 3 rfl) ?_
        refine cal_I (As := [.int (nI (S.length + 1))]) (rest := []) C lk_Mod_81 (c_Mod_numberOf l E y0 ya yo ym yl yg yw yh yc yd yb yk yz yr nt no (S.length + 2) fl f sz (S.length + 1) x (by omega) hx1.1 hx1.2.1 hx1.2.2 hB) (by decide) hP hD hS 0 7 rfl rfl [0, 7, 8] rfl (by decide) hl.1 rfl (Nat.le_of_ble_eq_true rfl) d_Mod_act_174 (fun r33 w1 H locs hp34 hP hD hS => ?_)
        obtain ⟨rfl, rfl⟩ := hp34
        have hP : va_P E.1 clz [(y0, .inr (7, [.ref ya, .int (nI nt), .ref yo, .int (nI no), .ref ym, .ref yl, .ref yg, .ref yw, .ref yh, .ref yc, .ref yd, .ref yb, .ref yk, .ref yz, .int (nI (S.length + 2)), .int (b2 fl), .ref yr])), (yg, .inl (E.2.1, 32, .inl k5)), (yw, .inl (E.2.2.1, 64, .inl k6)), (yh, .inl (E.2.2.1, 8, .inl k7)), (yc, .inl (E.2.1, 32, .inl k8)), (yd, .inl (E.2.1, 32, .inl k9)), (yb, .inl (E.2.1, 512, .inl kb)), (yk, .inl (E.2.1, 1920, .inl f)), (yz, .inl (E.2.2.1, 24, .inl sz))] H := hP
        have hD : va_D A [(y0, .inr (7, [.ref ya, .int (nI nt), .ref yo, .int (nI no), .ref ym, .ref yl, .ref yg, .ref yw, .ref yh, .ref yc, .ref yd, .ref yb, .ref yk, .ref yz, .int (nI (S.length + 2)), .int (b2 fl), .ref yr])), (yg, .inl (E.2.1, 32, .inl k5)), (yw, .inl (E.2.2.1, 64, .inl k6)), (yh, .inl (E.2.2.1, 8, .inl k7)), (yc, .inl (E.2.1, 32, .inl k8)), (yd, .inl (E.2.1, 32, .inl k9)), (yb, .inl (E.2.1, 512, .inl kb)), (yk, .inl (E.2.1, 1920, .inl f)), (yz, .inl (E.2.2.1, 24, .inl sz))] := hD
        refine lv_goto hx hb d_Mod_act_177 rfl ?_
        refine lv_istore (lv' := [(8, .int (numL x)), (7, .int (numL y)), (6, .int (nI 1)), (5, .int (nI 1)), (4, .int (nI (S.length + 1))), (3, .int (nI S.length)), (0, .ref y0), (1, .int (nI 89)), (2, .int ht)]) hx hb d_Mod_act_181 hl (by decide) rfl (fun ls hl => ?_)
        refine lv_iload_n hx hb d_Mod_act_183 rfl (lv_at hl 7 rfl) ?_
        refine lv_tableIn hx hb d_Mod_act_184 (by decide) (by decide) rfl rfl ?_
        refine lv_aload_n hx hb d_Mod_act_565 rfl (lv_at hl 6 rfl) ?_
        refine lv_dup hx hb d_Mod_act_566 rfl ?_
        refine n_get C fg_Mod_66 hP 0 rfl rfl d_Mod_act_567 ?_
        refine lv_iconst (v := nI 2) hx hb d_Mod_act_570 (by decide) ?_
        refine lv_isub hx hb d_Mod_act_571 ?_
        refine tope (z := nI S.length) ((pk_sub (by omega)).trans (congrArg nI (by omega))) ?_
        refine n_put (v := .int (nI S.length)) C fp_Mod_66 hP hD hS 0 rfl (rfl) rfl (Nat.le_of_ble_eq_true rfl) d_Mod_act_572 (fun H locs hP hD hS => ?_)
        have hP : va_P E.1 clz [(y0, .inr (7, [.ref ya, .int (nI nt), .ref yo, .int (nI no), .ref ym, .ref yl, .ref yg, .ref yw, .ref yh, .ref yc, .ref yd, .ref yb, .ref yk, .ref yz, .int (nI S.length), .int (b2 fl), .ref yr])), (yg, .inl (E.2.1, 32, .inl k5)), (yw, .inl (E.2.2.1, 64, .inl k6)), (yh, .inl (E.2.2.1, 8, .inl k7)), (yc, .inl (E.2.1, 32, .inl k8)), (yd, .inl (E.2.1, 32, .inl k9)), (yb, .inl (E.2.1, 512, .inl kb)), (yk, .inl (E.2.1, 1920, .inl f)), (yz, .inl (E.2.2.1, 24, .inl sz))] H := hP
        have hD : va_D A [(y0, .inr (7, [.ref ya, .int (nI nt), .ref yo, .int (nI no), .ref ym, .ref yl, .ref yg, .ref yw, .ref yh, .ref yc, .ref yd, .ref yb, .ref yk, .ref yz, .int (nI S.length), .int (b2 fl), .ref yr])), (yg, .inl (E.2.1, 32, .inl k5)), (yw, .inl (E.2.2.1, 64, .inl k6)), (yh, .inl (E.2.2.1, 8, .inl k7)), (yc, .inl (E.2.1, 32, .inl k8)), (yd, .inl (E.2.1, 32, .inl k9)), (yb, .inl (E.2.1, 512, .inl kb)), (yk, .inl (E.2.1, 1920, .inl f)), (yz, .inl (E.2.2.1, 24, .inl sz))] := hD
        refine lv_aload_n hx hb d_Mod_act_575 rfl (lv_at hl 6 rfl) ?_
        refine lv_iload hx hb d_Mod_act_576 (lv_at hl 1 rfl) ?_
        refine lv_iload hx hb d_Mod_act_578 (lv_at hl 0 rfl) ?_
        refine lv_iadd hx hb d_Mod_act_580 ?_
        refine cal_I (As := [.int ((numL y) + (numL x))]) (rest := []) C lk_Mod_89 (c_Mod_pushNumber l E y0 ya yo ym yl yg yw yh yc yd yb yk yz yr nt no fl f sz k8 S ((numL y) + (numL x)) hr0 hB (by first | omega | (simp only [List.length_cons]; omega) | (rw [List.length_drop]; omega))) (by decide) hP hD hS 0 7 rfl rfl [0, 7, 8, 4] rfl (by decide) hl.1 rfl (Nat.le_of_ble_eq_true rfl) d_Mod_act_581 (fun r40 w1 H locs hp41 hP hD hS => ?_)
        obtain ⟨rfl, fq35, zq36, cq37, rfl, hrq38, hbq39⟩ := hp41
        have hP : va_P E.1 clz [(y0, .inr (7, [.ref ya, .int (nI nt), .ref yo, .int (nI no), .ref ym, .ref yl, .ref yg, .ref yw, .ref yh, .ref yc, .ref yd, .ref yb, .ref yk, .ref yz, .int (nI (S.length + 1)), .int (b2 fl), .ref yr])), (yg, .inl (E.2.1, 32, .inl k5)), (yw, .inl (E.2.2.1, 64, .inl k6)), (yh, .inl (E.2.2.1, 8, .inl k7)), (yc, .inl (E.2.1, 32, .inl cq37)), (yd, .inl (E.2.1, 32, .inl k9)), (yb, .inl (E.2.1, 512, .inl kb)), (yk, .inl (E.2.1, 1920, .inl fq35)), (yz, .inl (E.2.2.1, 24, .inl zq36))] H := hP
        have hD : va_D A [(y0, .inr (7, [.ref ya, .int (nI nt), .ref yo, .int (nI no), .ref ym, .ref yl, .ref yg, .ref yw, .ref yh, .ref yc, .ref yd, .ref yb, .ref yk, .ref yz, .int (nI (S.length + 1)), .int (b2 fl), .ref yr])), (yg, .inl (E.2.1, 32, .inl k5)), (yw, .inl (E.2.2.1, 64, .inl k6)), (yh, .inl (E.2.2.1, 8, .inl k7)), (yc, .inl (E.2.1, 32, .inl cq37)), (yd, .inl (E.2.1, 32, .inl k9)), (yb, .inl (E.2.1, 512, .inl kb)), (yk, .inl (E.2.1, 1920, .inl fq35)), (yz, .inl (E.2.2.1, 24, .inl zq36))] := hD
        exact kret (b2 true) [(y0, .inr (7, [.ref ya, .int (nI nt), .ref yo, .int (nI no), .ref ym, .ref yl, .ref yg, .ref yw, .ref yh, .ref yc, .ref yd, .ref yb, .ref yk, .ref yz, .int (nI (S.length + 1)), .int (b2 fl), .ref yr])), (yg, .inl (E.2.1, 32, .inl k5)), (yw, .inl (E.2.2.1, 64, .inl k6)), (yh, .inl (E.2.2.1, 8, .inl k7)), (yc, .inl (E.2.1, 32, .inl cq37)), (yd, .inl (E.2.1, 32, .inl k9)), (yb, .inl (E.2.1, 512, .inl kb)), (yk, .inl (E.2.1, 1920, .inl fq35)), (yz, .inl (E.2.2.1, 24, .inl zq36))] _ _ _ _ d_Mod_act_584 (⟨_, _, _, _, _, _, _, _, rfl, hbq39, Or.inl ⟨(numB (numL y + numL x) :: S), by show (if y.length ≤ 4 ∧ x.length ≤ 4 then some (numB (numL y + numL x) :: S) else none) = _; rw [if_pos (by omega)], rfl, by first | rfl | (simp only [List.length_cons]; omega) | (simp only [List.length_cons]), hrq38, by first | (simp only [List.length_cons]; omega) | (simp only [List.length_cons]) | omega⟩⟩) rfl hP hS
      · refine lv_iconst (v := nI 0) hx hb d_Mod_act_143 (by decide) ?_
        exact kret (nI 0) [(y0, .inr (7, [.ref ya, .int (nI nt), .ref yo, .int (nI no), .ref ym, .ref yl, .ref yg, .ref yw, .ref yh, .ref yc, .ref yd, .ref yb, .ref yk, .ref yz, .int (nI (S.length + 2)), .int (b2 fl), .ref yr])), (yg, .inl (E.2.1, 32, .inl k5)), (yw, .inl (E.2.2.1, 64, .inl k6)), (yh, .inl (E.2.2.1, 8, .inl k7)), (yc, .inl (E.2.1, 32, .inl k8)), (yd, .inl (E.2.1, 32, .inl k9)), (yb, .inl (E.2.1, 512, .inl kb)), (yk, .inl (E.2.1, 1920, .inl f)), (yz, .inl (E.2.2.1, 24, .inl sz))] _ _ _ _ d_Mod_act_144 (⟨_, _, _, _, _, _, _, _, rfl, hB, Or.inr ⟨by show (if y.length ≤ 4 ∧ x.length ≤ 4 then some (numB (numL y + numL x) :: S) else none) = _; rw [if_neg (by omega)], rfl⟩⟩) rfl hP hS

set_option maxHeartbeats 4000000 in
set_option maxRecDepth 100000 in
theorem c_act_90 (l : Launch) (E : En) (y0 ya yo ym yl yg yw yh yc yd yb yk yz yr nt no : Nat) (fl : Bool) (k5 k6 k7 k8 k9 kb f sz : Nat → Int32) (S : Stk) (msg : Byl) (hrep : rep f sz S) (hB : fB f) (hB5 : fB k5) (hlen : S.length ≤ 24) (hm : lay k5 0 msg) (hm32 : msg.length = 32) (ht : Int32) : CtI l y_Mod_act b_Mod_act 11 .boolean (rmd 4) E [.ref y0, .int (nI 90), .int ht] [(y0, .inr (7, [.ref ya, .int (nI nt), .ref yo, .int (nI no), .ref ym, .ref yl, .ref yg, .ref yw, .ref yh, .ref yc, .ref yd, .ref yb, .ref yk, .ref yz, .int (nI S.length), .int (b2 fl), .ref yr])), (yg, .inl (E.2.1, 32, .inl k5)), (yw, .inl (E.2.2.1, 64, .inl k6)), (yh, .inl (E.2.2.1, 8, .inl k7)), (yc, .inl (E.2.1, 32, .inl k8)), (yd, .inl (E.2.1, 32, .inl k9)), (yb, .inl (E.2.1, 512, .inl kb)), (yk, .inl (E.2.1, 1920, .inl f)), (yz, .inl (E.2.2.1, 24, .inl sz))] (stepM E y0 ya yo ym yl yg yw yh yc yd yb yk yz yr nt no fl k5 (actS 90 ht msg S)) := by
  refine CtI.of (by decide) (Nat.le_of_ble_eq_true rfl) (stepM_nar) ?_
  intro p e s m args below meth c A Q H locs ls C hP hD hS hl kret
  have hx := C.1
  have hb := C.2.1
  have hl : lv_has ls 11 [(0, .ref y0), (1, .int (nI 90)), (2, .int ht)] := hl
  rcases S with _ | ⟨x, _ | ⟨y, S⟩⟩
  · have hP : va_P E.1 clz [(y0, .inr (7, [.ref ya, .int (nI nt), .ref yo, .int (nI no), .ref ym, .ref yl, .ref yg, .ref yw, .ref yh, .ref yc, .ref yd, .ref yb, .ref yk, .ref yz, .int (nI 0), .int (b2 fl), .ref yr])), (yg, .inl (E.2.1, 32, .inl k5)), (yw, .inl (E.2.2.1, 64, .inl k6)), (yh, .inl (E.2.2.1, 8, .inl k7)), (yc, .inl (E.2.1, 32, .inl k8)), (yd, .inl (E.2.1, 32, .inl k9)), (yb, .inl (E.2.1, 512, .inl kb)), (yk, .inl (E.2.1, 1920, .inl f)), (yz, .inl (E.2.2.1, 24, .inl sz))] H := hP
    have hD : va_D A [(y0, .inr (7, [.ref ya, .int (nI nt), .ref yo, .int (nI no), .ref ym, .ref yl, .ref yg, .ref yw, .ref yh, .ref yc, .ref yd, .ref yb, .ref yk, .ref yz, .int (nI 0), .int (b2 fl), .ref yr])), (yg, .inl (E.2.1, 32, .inl k5)), (yw, .inl (E.2.2.1, 64, .inl k6)), (yh, .inl (E.2.2.1, 8, .inl k7)), (yc, .inl (E.2.1, 32, .inl k8)), (yd, .inl (E.2.1, 32, .inl k9)), (yb, .inl (E.2.1, 512, .inl kb)), (yk, .inl (E.2.1, 1920, .inl f)), (yz, .inl (E.2.2.1, 24, .inl sz))] := hD
    refine lv_aload_n hx hb d_Mod_act_0 rfl (lv_at hl 0 rfl) ?_
    refine n_get C fg_Mod_66 hP 0 rfl rfl d_Mod_act_1 ?_
    refine lv_iconst (v := nI 2) hx hb d_Mod_act_4 (by decide) ?_
    refine lv_isub hx hb d_Mod_act_5 ?_
    refine tope (z := (-2)) (by decide) ?_
    refine lv_istore_n (lv' := [(3, .int (-2)), (0, .ref y0), (1, .int (nI 90)), (2, .int ht)]) hx hb d_Mod_act_6 rfl hl (by decide) rfl (fun ls hl => ?_)
    refine lv_aload_n hx hb d_Mod_act_7 rfl (lv_at hl 1 rfl) ?_
    refine n_get C fg_Mod_66 hP 0 rfl rfl d_Mod_act_8 ?_
    refine lv_iconst (v := nI 1) hx hb d_Mod_act_11 (by decide) ?_
    refine lv_isub hx hb d_Mod_act_12 ?_
    refine tope (z := (-1)) (by decide) ?_
    refine lv_istore (lv' := [(4, .int (-1)), (3, .int (-2)), (0, .ref y0), (1, .int (nI 90)), (2, .int ht)]) hx hb d_Mod_act_13 hl (by decide) rfl (fun ls hl => ?_)
    refine lv_iload_n hx hb d_Mod_act_15 rfl (lv_at hl 3 rfl) ?_
    refine lv_bipush (v := nI 82) hx hb d_Mod_act_16 (by decide) ?_
    refine j_eq C 90 82 rfl rfl (by decide) (by decide) d_Mod_act_18 rfl (fun hc1 => absurd hc1 (by decide)) (fun hc1 => ?_)
    refine lv_iload_n hx hb d_Mod_act_21 rfl (lv_at hl 3 rfl) ?_
    refine lv_bipush (v := nI 83) hx hb d_Mod_act_22 (by decide) ?_
    refine j_eq C 90 83 rfl rfl (by decide) (by decide) d_Mod_act_24 rfl (fun hc2 => absurd hc2 (by decide)) (fun hc2 => ?_)
    refine lv_iload_n hx hb d_Mod_act_27 rfl (lv_at hl 3 rfl) ?_
    refine lv_bipush (v := nI 86) hx hb d_Mod_act_28 (by decide) ?_
    refine j_eq C 90 86 rfl rfl (by decide) (by decide) d_Mod_act_30 rfl (fun hc3 => absurd hc3 (by decide)) (fun hc3 => ?_)
    refine lv_iload_n hx hb d_Mod_act_33 rfl (lv_at hl 3 rfl) ?_
    refine lv_bipush (v := nI 89) hx hb d_Mod_act_34 (by decide) ?_
    refine j_lt C 90 89 rfl rfl (by decide) (by decide) d_Mod_act_36 rfl (fun hc4 => absurd hc4 (by decide)) (fun hc4 => ?_)
    refine lv_iload_n hx hb d_Mod_act_39 rfl (lv_at hl 3 rfl) ?_
    refine lv_bipush (v := nI 92) hx hb d_Mod_act_40 (by decide) ?_
    refine j_le C 90 92 rfl rfl (by decide) (by decide) d_Mod_act_42 rfl (fun hc5 => ?_) (fun hc5 => absurd hc5 (by decide))
    refine lv_iconst (v := nI 1) hx hb d_Mod_act_51 (by decide) ?_
    refine lv_goto hx hb d_Mod_act_52 rfl ?_
    refine lv_istore (lv' := [(5, .int (nI 1)), (4, .int (-1)), (3, .int (-2)), (0, .ref y0), (1, .int (nI 90)), (2, .int ht)]) hx hb d_Mod_act_56 hl (by decide) rfl (fun ls hl => ?_)
    refine lv_aload_n hx hb d_Mod_act_58 rfl (lv_at hl 3 rfl) ?_
    refine n_get C fg_Mod_66 hP 0 rfl rfl d_Mod_act_59 ?_
    refine lv_iload hx hb d_Mod_act_62 (lv_at hl 0 rfl) ?_
    refine z_eq C 1 rfl (by omega) d_Mod_act_64 rfl (fun hc6 => absurd hc6 (by omega)) (fun hc6 => ?_)
    refine lv_iconst (v := nI 2) hx hb d_Mod_act_67 (by decide) ?_
    refine lv_goto hx hb d_Mod_act_68 rfl ?_
    refine j_ge C 0 2 rfl rfl (by decide) (by decide) d_Mod_act_82 rfl (fun hc7 => absurd hc7 (by decide)) (fun hc7 => ?_)
    refine lv_iconst (v := nI 0) hx hb d_Mod_act_85 (by decide) ?_
    exact kret (nI 0) [(y0, .inr (7, [.ref ya, .int (nI nt), .ref yo, .int (nI no), .ref ym, .ref yl, .ref yg, .ref yw, .ref yh, .ref yc, .ref yd, .ref yb, .ref yk, .ref yz, .int (nI 0), .int (b2 fl), .ref yr])), (yg, .inl (E.2.1, 32, .inl k5)), (yw, .inl (E.2.2.1, 64, .inl k6)), (yh, .inl (E.2.2.1, 8, .inl k7)), (yc, .inl (E.2.1, 32, .inl k8)), (yd, .inl (E.2.1, 32, .inl k9)), (yb, .inl (E.2.1, 512, .inl kb)), (yk, .inl (E.2.1, 1920, .inl f)), (yz, .inl (E.2.2.1, 24, .inl sz))] _ _ _ _ d_Mod_act_86 (⟨_, _, _, _, _, _, _, _, rfl, hB, Or.inr ⟨rfl, rfl⟩⟩) rfl hP hS
  · have hP : va_P E.1 clz [(y0, .inr (7, [.ref ya, .int (nI nt), .ref yo, .int (nI no), .ref ym, .ref yl, .ref yg, .ref yw, .ref yh, .ref yc, .ref yd, .ref yb, .ref yk, .ref yz, .int (nI 1), .int (b2 fl), .ref yr])), (yg, .inl (E.2.1, 32, .inl k5)), (yw, .inl (E.2.2.1, 64, .inl k6)), (yh, .inl (E.2.2.1, 8, .inl k7)), (yc, .inl (E.2.1, 32, .inl k8)), (yd, .inl (E.2.1, 32, .inl k9)), (yb, .inl (E.2.1, 512, .inl kb)), (yk, .inl (E.2.1, 1920, .inl f)), (yz, .inl (E.2.2.1, 24, .inl sz))] H := hP
    have hD : va_D A [(y0, .inr (7, [.ref ya, .int (nI nt), .ref yo, .int (nI no), .ref ym, .ref yl, .ref yg, .ref yw, .ref yh, .ref yc, .ref yd, .ref yb, .ref yk, .ref yz, .int (nI 1), .int (b2 fl), .ref yr])), (yg, .inl (E.2.1, 32, .inl k5)), (yw, .inl (E.2.2.1, 64, .inl k6)), (yh, .inl (E.2.2.1, 8, .inl k7)), (yc, .inl (E.2.1, 32, .inl k8)), (yd, .inl (E.2.1, 32, .inl k9)), (yb, .inl (E.2.1, 512, .inl kb)), (yk, .inl (E.2.1, 1920, .inl f)), (yz, .inl (E.2.2.1, 24, .inl sz))] := hD
    refine lv_aload_n hx hb d_Mod_act_0 rfl (lv_at hl 0 rfl) ?_
    refine n_get C fg_Mod_66 hP 0 rfl rfl d_Mod_act_1 ?_
    refine lv_iconst (v := nI 2) hx hb d_Mod_act_4 (by decide) ?_
    refine lv_isub hx hb d_Mod_act_5 ?_
    refine tope (z := (-1)) (by decide) ?_
    refine lv_istore_n (lv' := [(3, .int (-1)), (0, .ref y0), (1, .int (nI 90)), (2, .int ht)]) hx hb d_Mod_act_6 rfl hl (by decide) rfl (fun ls hl => ?_)
    refine lv_aload_n hx hb d_Mod_act_7 rfl (lv_at hl 1 rfl) ?_
    refine n_get C fg_Mod_66 hP 0 rfl rfl d_Mod_act_8 ?_
    refine lv_iconst (v := nI 1) hx hb d_Mod_act_11 (by decide) ?_
    refine lv_isub hx hb d_Mod_act_12 ?_
    refine tope (z := nI 0) (pk_sub (by omega)) ?_
    refine lv_istore (lv' := [(4, .int (nI 0)), (3, .int (-1)), (0, .ref y0), (1, .int (nI 90)), (2, .int ht)]) hx hb d_Mod_act_13 hl (by decide) rfl (fun ls hl => ?_)
    refine lv_iload_n hx hb d_Mod_act_15 rfl (lv_at hl 3 rfl) ?_
    refine lv_bipush (v := nI 82) hx hb d_Mod_act_16 (by decide) ?_
    refine j_eq C 90 82 rfl rfl (by decide) (by decide) d_Mod_act_18 rfl (fun hc8 => absurd hc8 (by decide)) (fun hc8 => ?_)
    refine lv_iload_n hx hb d_Mod_act_21 rfl (lv_at hl 3 rfl) ?_
    refine lv_bipush (v := nI 83) hx hb d_Mod_act_22 (by decide) ?_
    refine j_eq C 90 83 rfl rfl (by decide) (by decide) d_Mod_act_24 rfl (fun hc9 => absurd hc9 (by decide)) (fun hc9 => ?_)
    refine lv_iload_n hx hb d_Mod_act_27 rfl (lv_at hl 3 rfl) ?_
    refine lv_bipush (v := nI 86) hx hb d_Mod_act_28 (by decide) ?_
    refine j_eq C 90 86 rfl rfl (by decide) (by decide) d_Mod_act_30 rfl (fun hc10 => absurd hc10 (by decide)) (fun hc10 => ?_)
    refine lv_iload_n hx hb d_Mod_act_33 rfl (lv_at hl 3 rfl) ?_
    refine lv_bipush (v := nI 89) hx hb d_Mod_act_34 (by decide) ?_
    refine j_lt C 90 89 rfl rfl (by decide) (by decide) d_Mod_act_36 rfl (fun hc11 => absurd hc11 (by decide)) (fun hc11 => ?_)
    refine lv_iload_n hx hb d_Mod_act_39 rfl (lv_at hl 3 rfl) ?_
    refine lv_bipush (v := nI 92) hx hb d_Mod_act_40 (by decide) ?_
    refine j_le C 90 92 rfl rfl (by decide) (by decide) d_Mod_act_42 rfl (fun hc12 => ?_) (fun hc12 => absurd hc12 (by decide))
    refine lv_iconst (v := nI 1) hx hb d_Mod_act_51 (by decide) ?_
    refine lv_goto hx hb d_Mod_act_52 rfl ?_
    refine lv_istore (lv' := [(5, .int (nI 1)), (4, .int (nI 0)), (3, .int (-1)), (0, .ref y0), (1, .int (nI 90)), (2, .int ht)]) hx hb d_Mod_act_56 hl (by decide) rfl (fun ls hl => ?_)
    refine lv_aload_n hx hb d_Mod_act_58 rfl (lv_at hl 3 rfl) ?_
    refine n_get C fg_Mod_66 hP 0 rfl rfl d_Mod_act_59 ?_
    refine lv_iload hx hb d_Mod_act_62 (lv_at hl 0 rfl) ?_
    refine z_eq C 1 rfl (by omega) d_Mod_act_64 rfl (fun hc13 => absurd hc13 (by omega)) (fun hc13 => ?_)
    refine lv_iconst (v := nI 2) hx hb d_Mod_act_67 (by decide) ?_
    refine lv_goto hx hb d_Mod_act_68 rfl ?_
    refine j_ge C 1 2 rfl rfl (by decide) (by decide) d_Mod_act_82 rfl (fun hc14 => absurd hc14 (by decide)) (fun hc14 => ?_)
    refine lv_iconst (v := nI 0) hx hb d_Mod_act_85 (by decide) ?_
    exact kret (nI 0) [(y0, .inr (7, [.ref ya, .int (nI nt), .ref yo, .int (nI no), .ref ym, .ref yl, .ref yg, .ref yw, .ref yh, .ref yc, .ref yd, .ref yb, .ref yk, .ref yz, .int (nI 1), .int (b2 fl), .ref yr])), (yg, .inl (E.2.1, 32, .inl k5)), (yw, .inl (E.2.2.1, 64, .inl k6)), (yh, .inl (E.2.2.1, 8, .inl k7)), (yc, .inl (E.2.1, 32, .inl k8)), (yd, .inl (E.2.1, 32, .inl k9)), (yb, .inl (E.2.1, 512, .inl kb)), (yk, .inl (E.2.1, 1920, .inl f)), (yz, .inl (E.2.2.1, 24, .inl sz))] _ _ _ _ d_Mod_act_86 (⟨_, _, _, _, _, _, _, _, rfl, hB, Or.inr ⟨rfl, rfl⟩⟩) rfl hP hS
  · have hx1 : sz (S.length + 1) = nI x.length ∧ x.length ≤ 80 ∧ lay f ((S.length + 1) * 80) x := rep_top hrep
    have hy1 : sz S.length = nI y.length ∧ y.length ≤ 80 ∧ lay f (S.length * 80) y := rep_top (rep_tail hrep)
    have hr0 : rep f sz S := rep_tail (rep_tail hrep)
    have hlen : S.length + 2 ≤ 24 := hlen
    have hP : va_P E.1 clz [(y0, .inr (7, [.ref ya, .int (nI nt), .ref yo, .int (nI no), .ref ym, .ref yl, .ref yg, .ref yw, .ref yh, .ref yc, .ref yd, .ref yb, .ref yk, .ref yz, .int (nI (S.length + 2)), .int (b2 fl), .ref yr])), (yg, .inl (E.2.1, 32, .inl k5)), (yw, .inl (E.2.2.1, 64, .inl k6)), (yh, .inl (E.2.2.1, 8, .inl k7)), (yc, .inl (E.2.1, 32, .inl k8)), (yd, .inl (E.2.1, 32, .inl k9)), (yb, .inl (E.2.1, 512, .inl kb)), (yk, .inl (E.2.1, 1920, .inl f)), (yz, .inl (E.2.2.1, 24, .inl sz))] H := hP
    have hD : va_D A [(y0, .inr (7, [.ref ya, .int (nI nt), .ref yo, .int (nI no), .ref ym, .ref yl, .ref yg, .ref yw, .ref yh, .ref yc, .ref yd, .ref yb, .ref yk, .ref yz, .int (nI (S.length + 2)), .int (b2 fl), .ref yr])), (yg, .inl (E.2.1, 32, .inl k5)), (yw, .inl (E.2.2.1, 64, .inl k6)), (yh, .inl (E.2.2.1, 8, .inl k7)), (yc, .inl (E.2.1, 32, .inl k8)), (yd, .inl (E.2.1, 32, .inl k9)), (yb, .inl (E.2.1, 512, .inl kb)), (yk, .inl (E.2.1, 1920, .inl f)), (yz, .inl (E.2.2.1, 24, .inl sz))] := hD
    refine lv_aload_n hx hb d_Mod_act_0 rfl (lv_at hl 0 rfl) ?_
    refine n_get C fg_Mod_66 hP 0 rfl rfl d_Mod_act_1 ?_
    refine lv_iconst (v := nI 2) hx hb d_Mod_act_4 (by decide) ?_
    refine lv_isub hx hb d_Mod_act_5 ?_
    refine tope (z := nI S.length) ((pk_sub (by omega)).trans (congrArg nI (by omega))) ?_
    refine lv_istore_n (lv' := [(3, .int (nI S.length)), (0, .ref y0), (1, .int (nI 90)), (2, .int ht)]) hx hb d_Mod_act_6 rfl hl (by decide) rfl (fun ls hl => ?_)
    refine lv_aload_n hx hb d_Mod_act_7 rfl (lv_at hl 1 rfl) ?_
    refine n_get C fg_Mod_66 hP 0 rfl rfl d_Mod_act_8 ?_
    refine lv_iconst (v := nI 1) hx hb d_Mod_act_11 (by decide) ?_
    refine lv_isub hx hb d_Mod_act_12 ?_
    refine tope (z := nI (S.length + 1)) ((pk_sub (by omega)).trans (congrArg nI (by omega))) ?_
    refine lv_istore (lv' := [(4, .int (nI (S.length + 1))), (3, .int (nI S.length)), (0, .ref y0), (1, .int (nI 90)), (2, .int ht)]) hx hb d_Mod_act_13 hl (by decide) rfl (fun ls hl => ?_)
    refine lv_iload_n hx hb d_Mod_act_15 rfl (lv_at hl 3 rfl) ?_
    refine lv_bipush (v := nI 82) hx hb d_Mod_act_16 (by decide) ?_
    refine j_eq C 90 82 rfl rfl (by decide) (by decide) d_Mod_act_18 rfl (fun hc15 => absurd hc15 (by decide)) (fun hc15 => ?_)
    refine lv_iload_n hx hb d_Mod_act_21 rfl (lv_at hl 3 rfl) ?_
    refine lv_bipush (v := nI 83) hx hb d_Mod_act_22 (by decide) ?_
    refine j_eq C 90 83 rfl rfl (by decide) (by decide) d_Mod_act_24 rfl (fun hc16 => absurd hc16 (by decide)) (fun hc16 => ?_)
    refine lv_iload_n hx hb d_Mod_act_27 rfl (lv_at hl 3 rfl) ?_
    refine lv_bipush (v := nI 86) hx hb d_Mod_act_28 (by decide) ?_
    refine j_eq C 90 86 rfl rfl (by decide) (by decide) d_Mod_act_30 rfl (fun hc17 => absurd hc17 (by decide)) (fun hc17 => ?_)
    refine lv_iload_n hx hb d_Mod_act_33 rfl (lv_at hl 3 rfl) ?_
    refine lv_bipush (v := nI 89) hx hb d_Mod_act_34 (by decide) ?_
    refine j_lt C 90 89 rfl rfl (by decide) (by decide) d_Mod_act_36 rfl (fun hc18 => absurd hc18 (by decide)) (fun hc18 => ?_)
    refine lv_iload_n hx hb d_Mod_act_39 rfl (lv_at hl 3 rfl) ?_
    refine lv_bipush (v := nI 92) hx hb d_Mod_act_40 (by decide) ?_
    refine j_le C 90 92 rfl rfl (by decide) (by decide) d_Mod_act_42 rfl (fun hc19 => ?_) (fun hc19 => absurd hc19 (by decide))
    refine lv_iconst (v := nI 1) hx hb d_Mod_act_51 (by decide) ?_
    refine lv_goto hx hb d_Mod_act_52 rfl ?_
    refine lv_istore (lv' := [(5, .int (nI 1)), (4, .int (nI (S.length + 1))), (3, .int (nI S.length)), (0, .ref y0), (1, .int (nI 90)), (2, .int ht)]) hx hb d_Mod_act_56 hl (by decide) rfl (fun ls hl => ?_)
    refine lv_aload_n hx hb d_Mod_act_58 rfl (lv_at hl 3 rfl) ?_
    refine n_get C fg_Mod_66 hP 0 rfl rfl d_Mod_act_59 ?_
    refine lv_iload hx hb d_Mod_act_62 (lv_at hl 0 rfl) ?_
    refine z_eq C 1 rfl (by omega) d_Mod_act_64 rfl (fun hc20 => absurd hc20 (by omega)) (fun hc20 => ?_)
    refine lv_iconst (v := nI 2) hx hb d_Mod_act_67 (by decide) ?_
    refine lv_goto hx hb d_Mod_act_68 rfl ?_
    refine j_ge C (S.length + 2) 2 rfl rfl (by omega) (by omega) d_Mod_act_82 rfl (fun hc21 => ?_) (fun hc21 => absurd hc21 (by omega))
    refine lv_iload_n hx hb d_Mod_act_87 rfl (lv_at hl 4 rfl) ?_
    refine lv_bipush (v := nI 88) hx hb d_Mod_act_88 (by decide) ?_
    refine j_lt C 90 88 rfl rfl (by decide) (by decide) d_Mod_act_90 rfl (fun hc22 => absurd hc22 (by decide)) (fun hc22 => ?_)
    refine lv_iload_n hx hb d_Mod_act_93 rfl (lv_at hl 4 rfl) ?_
    refine lv_bipush (v := nI 91) hx hb d_Mod_act_94 (by decide) ?_
    refine j_le C 90 91 rfl rfl (by decide) (by decide) d_Mod_act_96 rfl (fun hc23 => ?_) (fun hc23 => absurd hc23 (by decide))
    refine lv_iconst (v := nI 1) hx hb d_Mod_act_105 (by decide) ?_
    refine lv_goto hx hb d_Mod_act_106 rfl ?_
    refine lv_istore (lv' := [(6, .int (nI 1)), (5, .int (nI 1)), (4, .int (nI (S.length + 1))), (3, .int (nI S.length)), (0, .ref y0), (1, .int (nI 90)), (2, .int ht)]) hx hb d_Mod_act_110 hl (by decide) rfl (fun ls hl => ?_)
    refine lv_iload hx hb d_Mod_act_112 (lv_at hl 0 rfl) ?_
    refine z_eq C 1 rfl (by omega) d_Mod_act_114 rfl (fun hc24 => absurd hc24 (by omega)) (fun hc24 => ?_)
    refine lv_aload_n hx hb d_Mod_act_117 rfl (lv_at hl 4 rfl) ?_
    refine n_get C fg_Mod_44 hP 0 rfl rfl d_Mod_act_118 ?_
    refine lv_iload hx hb d_Mod_act_121 (lv_at hl 2 rfl) ?_
    refine n_iald C hP 8 rfl (S.length + 1) rfl (by omega) (by omega) d_Mod_act_123 ?_
    refine tope (z := nI x.length) (hx1.1) ?_
    refine lv_iconst (v := nI 4) hx hb d_Mod_act_124 (by decide) ?_
    refine j_gt C x.length 4 rfl rfl (by omega) (by omega) d_Mod_act_125 rfl (fun hc25 => ?_) (fun hc25 => ?_)
    · refine lv_iconst (v := nI 0) hx hb d_Mod_act_143 (by decide) ?_
      exact kret (nI 0) [(y0, .inr (7, [.ref ya, .int (nI nt), .ref yo, .int (nI no), .ref ym, .ref yl, .ref yg, .ref yw, .ref yh, .ref yc, .ref yd, .ref yb, .ref yk, .ref yz, .int (nI (S.length + 2)), .int (b2 fl), .ref yr])), (yg, .inl (E.2.1, 32, .inl k5)), (yw, .inl (E.2.2.1, 64, .inl k6)), (yh, .inl (E.2.2.1, 8, .inl k7)), (yc, .inl (E.2.1, 32, .inl k8)), (yd, .inl (E.2.1, 32, .inl k9)), (yb, .inl (E.2.1, 512, .inl kb)), (yk, .inl (E.2.1, 1920, .inl f)), (yz, .inl (E.2.2.1, 24, .inl sz))] _ _ _ _ d_Mod_act_144 (⟨_, _, _, _, _, _, _, _, rfl, hB, Or.inr ⟨by show (if y.length ≤ 4 ∧ x.length ≤ 4 then some (numB (numL y - numL x) :: S) else none) = _; rw [if_neg (by omega)], rfl⟩⟩) rfl hP hS
    · refine lv_iload hx hb d_Mod_act_128 (lv_at hl 1 rfl) ?_
      refine z_eq C 1 rfl (by omega) d_Mod_act_130 rfl (fun hc26 => absurd hc26 (by omega)) (fun hc26 => ?_)
      refine lv_aload_n hx hb d_Mod_act_133 rfl (lv_at hl 4 rfl) ?_
      refine n_get C fg_Mod_44 hP 0 rfl rfl d_Mod_act_134 ?_
      refine lv_iload_n hx hb d_Mod_act_137 rfl (lv_at hl 3 rfl) ?_
      refine n_iald C hP 8 rfl S.length rfl (by omega) (by omega) d_Mod_act_138 ?_
      refine tope (z := nI y.length) (hy1.1) ?_
      refine lv_iconst (v := nI 4) hx hb d_Mod_act_139 (by decide) ?_
      refine j_le C y.length 4 rfl rfl (by omega) (by omega) d_Mod_act_140 rfl (fun hc27 => ?_) (fun hc27 => ?_)
      · refine lv_iload hx hb d_Mod_act_145 (lv_at hl 1 rfl) ?_
        refine z_eq C 1 rfl (by omega) d_Mod_act_147 rfl (fun hc28 => absurd hc28 (by omega)) (fun hc28 => ?_)
        refine lv_iload hx hb d_Mod_act_150 (lv_at hl 0 rfl) ?_
        refine z_eq C 1 rfl (by omega) d_Mod_act_152 rfl (fun hc29 => absurd hc29 (by omega)) (fun hc29 => ?_)
        refine lv_aload_n hx hb d_Mod_act_155 rfl (lv_at hl 4 rfl) ?_
        refine lv_iload_n hx hb d_Mod_act_156 rfl (lv_at hl 3 rfl) ?_
        refine cal_I (As := [.int (nI S.length)]) (rest := []) C lk_Mod_81 (c_Mod_numberOf l E y0 ya yo ym yl yg yw yh yc yd yb yk yz yr nt no (S.length + 2) fl f sz S.length y (by omega) hy1.1 hy1.2.1 hy1.2.2 hB) (by decide) hP hD hS 0 7 rfl rfl [0, 7, 8] rfl (by decide) hl.1 rfl (Nat.le_of_ble_eq_true rfl) d_Mod_act_157 (fun r30 w1 H locs hp31 hP hD hS => ?_)
        obtain ⟨rfl, rfl⟩ := hp31
        have hP : va_P E.1 clz [(y0, .inr (7, [.ref ya, .int (nI nt), .ref yo, .int (nI no), .ref ym, .ref yl, .ref yg, .ref yw, .ref yh, .ref yc, .ref yd, .ref yb, .ref yk, .ref yz, .int (nI (S.length + 2)), .int (b2 fl), .ref yr])), (yg, .inl (E.2.1, 32, .inl k5)), (yw, .inl (E.2.2.1, 64, .inl k6)), (yh, .inl (E.2.2.1, 8, .inl k7)), (yc, .inl (E.2.1, 32, .inl k8)), (yd, .inl (E.2.1, 32, .inl k9)), (yb, .inl (E.2.1, 512, .inl kb)), (yk, .inl (E.2.1, 1920, .inl f)), (yz, .inl (E.2.2.1, 24, .inl sz))] H := hP
        have hD : va_D A [(y0, .inr (7, [.ref ya, .int (nI nt), .ref yo, .int (nI no), .ref ym, .ref yl, .ref yg, .ref yw, .ref yh, .ref yc, .ref yd, .ref yb, .ref yk, .ref yz, .int (nI (S.length + 2)), .int (b2 fl), .ref yr])), (yg, .inl (E.2.1, 32, .inl k5)), (yw, .inl (E.2.2.1, 64, .inl k6)), (yh, .inl (E.2.2.1, 8, .inl k7)), (yc, .inl (E.2.1, 32, .inl k8)), (yd, .inl (E.2.1, 32, .inl k9)), (yb, .inl (E.2.1, 512, .inl kb)), (yk, .inl (E.2.1, 1920, .inl f)), (yz, .inl (E.2.2.1, 24, .inl sz))] := hD
        refine lv_goto hx hb d_Mod_act_160 rfl ?_
        refine lv_istore (lv' := [(7, .int (numL y)), (6, .int (nI 1)), (5, .int (nI 1)), (4, .int (nI (S.length + 1))), (3, .int (nI S.length)), (0, .ref y0), (1, .int (nI 90)), (2, .int ht)]) hx hb d_Mod_act_164 hl (by decide) rfl (fun ls hl => ?_)
        refine lv_iload hx hb d_Mod_act_166 (lv_at hl 1 rfl) ?_
        refine z_eq C 1 rfl (by omega) d_Mod_act_168 rfl (fun hc32 => absurd hc32 (by omega)) (fun hc32 => ?_)
        refine lv_aload_n hx hb d_Mod_act_171 rfl (lv_at hl 5 rfl) ?_
        refine lv_iload hx hb d_Mod_act_172 (lv_at hl 3 rfl) ?_
        refine cal_I (As := [.int (nI (S.length + 1))]) (rest := []) C lk_Mod_81 (c_Mod_numberOf l E y0 ya yo ym yl yg yw yh yc yd yb yk yz yr nt no (S.length + 2) fl f sz (S.length + 1) x (by omega) hx1.1 hx1.2.1 hx1.2.2 hB) (by decide) hP hD hS 0 7 rfl rfl [0, 7, 8] rfl (by decide) hl.1 rfl (Nat.le_of_ble_eq_true rfl) d_Mod_act_174 (fun r33 w1 H locs hp34 hP hD hS => ?_)
        obtain ⟨rfl, rfl⟩ := hp34
        have hP : va_P E.1 clz [(y0, .inr (7, [.ref ya, .int (nI nt), .ref yo, .int (nI no), .ref ym, .ref yl, .ref yg, .ref yw, .ref yh, .ref yc, .ref yd, .ref yb, .ref yk, .ref yz, .int (nI (S.length + 2)), .int (b2 fl), .ref yr])), (yg, .inl (E.2.1, 32, .inl k5)), (yw, .inl (E.2.2.1, 64, .inl k6)), (yh, .inl (E.2.2.1, 8, .inl k7)), (yc, .inl (E.2.1, 32, .inl k8)), (yd, .inl (E.2.1, 32, .inl k9)), (yb, .inl (E.2.1, 512, .inl kb)), (yk, .inl (E.2.1, 1920, .inl f)), (yz, .inl (E.2.2.1, 24, .inl sz))] H := hP
        have hD : va_D A [(y0, .inr (7, [.ref ya, .int (nI nt), .ref yo, .int (nI no), .ref ym, .ref yl, .ref yg, .ref yw, .ref yh, .ref yc, .ref yd, .ref yb, .ref yk, .ref yz, .int (nI (S.length + 2)), .int (b2 fl), .ref yr])), (yg, .inl (E.2.1, 32, .inl k5)), (yw, .inl (E.2.2.1, 64, .inl k6)), (yh, .inl (E.2.2.1, 8, .inl k7)), (yc, .inl (E.2.1, 32, .inl k8)), (yd, .inl (E.2.1, 32, .inl k9)), (yb, .inl (E.2.1, 512, .inl kb)), (yk, .inl (E.2.1, 1920, .inl f)), (yz, .inl (E.2.2.1, 24, .inl sz))] := hD
        refine lv_goto hx hb d_Mod_act_177 rfl ?_
        refine lv_istore (lv' := [(8, .int (numL x)), (7, .int (numL y)), (6, .int (nI 1)), (5, .int (nI 1)), (4, .int (nI (S.length + 1))), (3, .int (nI S.length)), (0, .ref y0), (1, .int (nI 90)), (2, .int ht)]) hx hb d_Mod_act_181 hl (by decide) rfl (fun ls hl => ?_)
        refine lv_iload_n hx hb d_Mod_act_183 rfl (lv_at hl 7 rfl) ?_
        refine lv_tableIn hx hb d_Mod_act_184 (by decide) (by decide) rfl rfl ?_
        refine lv_aload_n hx hb d_Mod_act_585 rfl (lv_at hl 6 rfl) ?_
        refine lv_dup hx hb d_Mod_act_586 rfl ?_
        refine n_get C fg_Mod_66 hP 0 rfl rfl d_Mod_act_587 ?_
        refine lv_iconst (v := nI 2) hx hb d_Mod_act_590 (by decide) ?_
        refine lv_isub hx hb d_Mod_act_591 ?_
        refine tope (z := nI S.length) ((pk_sub (by omega)).trans (congrArg nI (by omega))) ?_
        refine n_put (v := .int (nI S.length)) C fp_Mod_66 hP hD hS 0 rfl (rfl) rfl (Nat.le_of_ble_eq_true rfl) d_Mod_act_592 (fun H locs hP hD hS => ?_)
        have hP : va_P E.1 clz [(y0, .inr (7, [.ref ya, .int (nI nt), .ref yo, .int (nI no), .ref ym, .ref yl, .ref yg, .ref yw, .ref yh, .ref yc, .ref yd, .ref yb, .ref yk, .ref yz, .int (nI S.length), .int (b2 fl), .ref yr])), (yg, .inl (E.2.1, 32, .inl k5)), (yw, .inl (E.2.2.1, 64, .inl k6)), (yh, .inl (E.2.2.1, 8, .inl k7)), (yc, .inl (E.2.1, 32, .inl k8)), (yd, .inl (E.2.1, 32, .inl k9)), (yb, .inl (E.2.1, 512, .inl kb)), (yk, .inl (E.2.1, 1920, .inl f)), (yz, .inl (E.2.2.1, 24, .inl sz))] H := hP
        have hD : va_D A [(y0, .inr (7, [.ref ya, .int (nI nt), .ref yo, .int (nI no), .ref ym, .ref yl, .ref yg, .ref yw, .ref yh, .ref yc, .ref yd, .ref yb, .ref yk, .ref yz, .int (nI S.length), .int (b2 fl), .ref yr])), (yg, .inl (E.2.1, 32, .inl k5)), (yw, .inl (E.2.2.1, 64, .inl k6)), (yh, .inl (E.2.2.1, 8, .inl k7)), (yc, .inl (E.2.1, 32, .inl k8)), (yd, .inl (E.2.1, 32, .inl k9)), (yb, .inl (E.2.1, 512, .inl kb)), (yk, .inl (E.2.1, 1920, .inl f)), (yz, .inl (E.2.2.1, 24, .inl sz))] := hD
        refine lv_aload_n hx hb d_Mod_act_595 rfl (lv_at hl 6 rfl) ?_
        refine lv_iload hx hb d_Mod_act_596 (lv_at hl 1 rfl) ?_
        refine lv_iload hx hb d_Mod_act_598 (lv_at hl 0 rfl) ?_
        refine lv_isub hx hb d_Mod_act_600 ?_
        refine cal_I (As := [.int ((numL y) - (numL x))]) (rest := []) C lk_Mod_89 (c_Mod_pushNumber l E y0 ya yo ym yl yg yw yh yc yd yb yk yz yr nt no fl f sz k8 S ((numL y) - (numL x)) hr0 hB (by first | omega | (simp only [List.length_cons]; omega) | (rw [List.length_drop]; omega))) (by decide) hP hD hS 0 7 rfl rfl [0, 7, 8, 4] rfl (by decide) hl.1 rfl (Nat.le_of_ble_eq_true rfl) d_Mod_act_601 (fun r40 w1 H locs hp41 hP hD hS => ?_)
        obtain ⟨rfl, fq35, zq36, cq37, rfl, hrq38, hbq39⟩ := hp41
        have hP : va_P E.1 clz [(y0, .inr (7, [.ref ya, .int (nI nt), .ref yo, .int (nI no), .ref ym, .ref yl, .ref yg, .ref yw, .ref yh, .ref yc, .ref yd, .ref yb, .ref yk, .ref yz, .int (nI (S.length + 1)), .int (b2 fl), .ref yr])), (yg, .inl (E.2.1, 32, .inl k5)), (yw, .inl (E.2.2.1, 64, .inl k6)), (yh, .inl (E.2.2.1, 8, .inl k7)), (yc, .inl (E.2.1, 32, .inl cq37)), (yd, .inl (E.2.1, 32, .inl k9)), (yb, .inl (E.2.1, 512, .inl kb)), (yk, .inl (E.2.1, 1920, .inl fq35)), (yz, .inl (E.2.2.1, 24, .inl zq36))] H := hP
        have hD : va_D A [(y0, .inr (7, [.ref ya, .int (nI nt), .ref yo, .int (nI no), .ref ym, .ref yl, .ref yg, .ref yw, .ref yh, .ref yc, .ref yd, .ref yb, .ref yk, .ref yz, .int (nI (S.length + 1)), .int (b2 fl), .ref yr])), (yg, .inl (E.2.1, 32, .inl k5)), (yw, .inl (E.2.2.1, 64, .inl k6)), (yh, .inl (E.2.2.1, 8, .inl k7)), (yc, .inl (E.2.1, 32, .inl cq37)), (yd, .inl (E.2.1, 32, .inl k9)), (yb, .inl (E.2.1, 512, .inl kb)), (yk, .inl (E.2.1, 1920, .inl fq35)), (yz, .inl (E.2.2.1, 24, .inl zq36))] := hD
        exact kret (b2 true) [(y0, .inr (7, [.ref ya, .int (nI nt), .ref yo, .int (nI no), .ref ym, .ref yl, .ref yg, .ref yw, .ref yh, .ref yc, .ref yd, .ref yb, .ref yk, .ref yz, .int (nI (S.length + 1)), .int (b2 fl), .ref yr])), (yg, .inl (E.2.1, 32, .inl k5)), (yw, .inl (E.2.2.1, 64, .inl k6)), (yh, .inl (E.2.2.1, 8, .inl k7)), (yc, .inl (E.2.1, 32, .inl cq37)), (yd, .inl (E.2.1, 32, .inl k9)), (yb, .inl (E.2.1, 512, .inl kb)), (yk, .inl (E.2.1, 1920, .inl fq35)), (yz, .inl (E.2.2.1, 24, .inl zq36))] _ _ _ _ d_Mod_act_604 (⟨_, _, _, _, _, _, _, _, rfl, hbq39, Or.inl ⟨(numB (numL y - numL x) :: S), by show (if y.length ≤ 4 ∧ x.length ≤ 4 then some (numB (numL y - numL x) :: S) else none) = _; rw [if_pos (by omega)], rfl, by first | rfl | (simp only [List.length_cons]; omega) | (simp only [List.length_cons]), hrq38, by first | (simp only [List.length_cons]; omega) | (simp only [List.length_cons]) | omega⟩⟩) rfl hP hS
      · refine lv_iconst (v := nI 0) hx hb d_Mod_act_143 (by decide) ?_
        exact kret (nI 0) [(y0, .inr (7, [.ref ya, .int (nI nt), .ref yo, .int (nI no), .ref ym, .ref yl, .ref yg, .ref yw, .ref yh, .ref yc, .ref yd, .ref yb, .ref yk, .ref yz, .int (nI (S.length + 2)), .int (b2 fl), .ref yr])), (yg, .inl (E.2.1, 32, .inl k5)), (yw, .inl (E.2.2.1, 64, .inl k6)), (yh, .inl (E.2.2.1, 8, .inl k7)), (yc, .inl (E.2.1, 32, .inl k8)), (yd, .inl (E.2.1, 32, .inl k9)), (yb, .inl (E.2.1, 512, .inl kb)), (yk, .inl (E.2.1, 1920, .inl f)), (yz, .inl (E.2.2.1, 24, .inl sz))] _ _ _ _ d_Mod_act_144 (⟨_, _, _, _, _, _, _, _, rfl, hB, Or.inr ⟨by show (if y.length ≤ 4 ∧ x.length ≤ 4 then some (numB (numL y - numL x) :: S) else none) = _; rw [if_neg (by omega)], rfl⟩⟩) rfl hP hS

set_option maxHeartbeats 4000000 in
set_option maxRecDepth 100000 in
theorem c_act_91 (l : Launch) (E : En) (y0 ya yo ym yl yg yw yh yc yd yb yk yz yr nt no : Nat) (fl : Bool) (k5 k6 k7 k8 k9 kb f sz : Nat → Int32) (S : Stk) (msg : Byl) (hrep : rep f sz S) (hB : fB f) (hB5 : fB k5) (hlen : S.length ≤ 24) (hm : lay k5 0 msg) (hm32 : msg.length = 32) (ht : Int32) : CtI l y_Mod_act b_Mod_act 11 .boolean (rmd 4) E [.ref y0, .int (nI 91), .int ht] [(y0, .inr (7, [.ref ya, .int (nI nt), .ref yo, .int (nI no), .ref ym, .ref yl, .ref yg, .ref yw, .ref yh, .ref yc, .ref yd, .ref yb, .ref yk, .ref yz, .int (nI S.length), .int (b2 fl), .ref yr])), (yg, .inl (E.2.1, 32, .inl k5)), (yw, .inl (E.2.2.1, 64, .inl k6)), (yh, .inl (E.2.2.1, 8, .inl k7)), (yc, .inl (E.2.1, 32, .inl k8)), (yd, .inl (E.2.1, 32, .inl k9)), (yb, .inl (E.2.1, 512, .inl kb)), (yk, .inl (E.2.1, 1920, .inl f)), (yz, .inl (E.2.2.1, 24, .inl sz))] (stepM E y0 ya yo ym yl yg yw yh yc yd yb yk yz yr nt no fl k5 (actS 91 ht msg S)) := by
  refine CtI.of (by decide) (Nat.le_of_ble_eq_true rfl) (stepM_nar) ?_
  intro p e s m args below meth c A Q H locs ls C hP hD hS hl kret
  have hx := C.1
  have hb := C.2.1
  have hl : lv_has ls 11 [(0, .ref y0), (1, .int (nI 91)), (2, .int ht)] := hl
  rcases S with _ | ⟨x, _ | ⟨y, S⟩⟩
  · have hP : va_P E.1 clz [(y0, .inr (7, [.ref ya, .int (nI nt), .ref yo, .int (nI no), .ref ym, .ref yl, .ref yg, .ref yw, .ref yh, .ref yc, .ref yd, .ref yb, .ref yk, .ref yz, .int (nI 0), .int (b2 fl), .ref yr])), (yg, .inl (E.2.1, 32, .inl k5)), (yw, .inl (E.2.2.1, 64, .inl k6)), (yh, .inl (E.2.2.1, 8, .inl k7)), (yc, .inl (E.2.1, 32, .inl k8)), (yd, .inl (E.2.1, 32, .inl k9)), (yb, .inl (E.2.1, 512, .inl kb)), (yk, .inl (E.2.1, 1920, .inl f)), (yz, .inl (E.2.2.1, 24, .inl sz))] H := hP
    have hD : va_D A [(y0, .inr (7, [.ref ya, .int (nI nt), .ref yo, .int (nI no), .ref ym, .ref yl, .ref yg, .ref yw, .ref yh, .ref yc, .ref yd, .ref yb, .ref yk, .ref yz, .int (nI 0), .int (b2 fl), .ref yr])), (yg, .inl (E.2.1, 32, .inl k5)), (yw, .inl (E.2.2.1, 64, .inl k6)), (yh, .inl (E.2.2.1, 8, .inl k7)), (yc, .inl (E.2.1, 32, .inl k8)), (yd, .inl (E.2.1, 32, .inl k9)), (yb, .inl (E.2.1, 512, .inl kb)), (yk, .inl (E.2.1, 1920, .inl f)), (yz, .inl (E.2.2.1, 24, .inl sz))] := hD
    refine lv_aload_n hx hb d_Mod_act_0 rfl (lv_at hl 0 rfl) ?_
    refine n_get C fg_Mod_66 hP 0 rfl rfl d_Mod_act_1 ?_
    refine lv_iconst (v := nI 2) hx hb d_Mod_act_4 (by decide) ?_
    refine lv_isub hx hb d_Mod_act_5 ?_
    refine tope (z := (-2)) (by decide) ?_
    refine lv_istore_n (lv' := [(3, .int (-2)), (0, .ref y0), (1, .int (nI 91)), (2, .int ht)]) hx hb d_Mod_act_6 rfl hl (by decide) rfl (fun ls hl => ?_)
    refine lv_aload_n hx hb d_Mod_act_7 rfl (lv_at hl 1 rfl) ?_
    refine n_get C fg_Mod_66 hP 0 rfl rfl d_Mod_act_8 ?_
    refine lv_iconst (v := nI 1) hx hb d_Mod_act_11 (by decide) ?_
    refine lv_isub hx hb d_Mod_act_12 ?_
    refine tope (z := (-1)) (by decide) ?_
    refine lv_istore (lv' := [(4, .int (-1)), (3, .int (-2)), (0, .ref y0), (1, .int (nI 91)), (2, .int ht)]) hx hb d_Mod_act_13 hl (by decide) rfl (fun ls hl => ?_)
    refine lv_iload_n hx hb d_Mod_act_15 rfl (lv_at hl 3 rfl) ?_
    refine lv_bipush (v := nI 82) hx hb d_Mod_act_16 (by decide) ?_
    refine j_eq C 91 82 rfl rfl (by decide) (by decide) d_Mod_act_18 rfl (fun hc1 => absurd hc1 (by decide)) (fun hc1 => ?_)
    refine lv_iload_n hx hb d_Mod_act_21 rfl (lv_at hl 3 rfl) ?_
    refine lv_bipush (v := nI 83) hx hb d_Mod_act_22 (by decide) ?_
    refine j_eq C 91 83 rfl rfl (by decide) (by decide) d_Mod_act_24 rfl (fun hc2 => absurd hc2 (by decide)) (fun hc2 => ?_)
    refine lv_iload_n hx hb d_Mod_act_27 rfl (lv_at hl 3 rfl) ?_
    refine lv_bipush (v := nI 86) hx hb d_Mod_act_28 (by decide) ?_
    refine j_eq C 91 86 rfl rfl (by decide) (by decide) d_Mod_act_30 rfl (fun hc3 => absurd hc3 (by decide)) (fun hc3 => ?_)
    refine lv_iload_n hx hb d_Mod_act_33 rfl (lv_at hl 3 rfl) ?_
    refine lv_bipush (v := nI 89) hx hb d_Mod_act_34 (by decide) ?_
    refine j_lt C 91 89 rfl rfl (by decide) (by decide) d_Mod_act_36 rfl (fun hc4 => absurd hc4 (by decide)) (fun hc4 => ?_)
    refine lv_iload_n hx hb d_Mod_act_39 rfl (lv_at hl 3 rfl) ?_
    refine lv_bipush (v := nI 92) hx hb d_Mod_act_40 (by decide) ?_
    refine j_le C 91 92 rfl rfl (by decide) (by decide) d_Mod_act_42 rfl (fun hc5 => ?_) (fun hc5 => absurd hc5 (by decide))
    refine lv_iconst (v := nI 1) hx hb d_Mod_act_51 (by decide) ?_
    refine lv_goto hx hb d_Mod_act_52 rfl ?_
    refine lv_istore (lv' := [(5, .int (nI 1)), (4, .int (-1)), (3, .int (-2)), (0, .ref y0), (1, .int (nI 91)), (2, .int ht)]) hx hb d_Mod_act_56 hl (by decide) rfl (fun ls hl => ?_)
    refine lv_aload_n hx hb d_Mod_act_58 rfl (lv_at hl 3 rfl) ?_
    refine n_get C fg_Mod_66 hP 0 rfl rfl d_Mod_act_59 ?_
    refine lv_iload hx hb d_Mod_act_62 (lv_at hl 0 rfl) ?_
    refine z_eq C 1 rfl (by omega) d_Mod_act_64 rfl (fun hc6 => absurd hc6 (by omega)) (fun hc6 => ?_)
    refine lv_iconst (v := nI 2) hx hb d_Mod_act_67 (by decide) ?_
    refine lv_goto hx hb d_Mod_act_68 rfl ?_
    refine j_ge C 0 2 rfl rfl (by decide) (by decide) d_Mod_act_82 rfl (fun hc7 => absurd hc7 (by decide)) (fun hc7 => ?_)
    refine lv_iconst (v := nI 0) hx hb d_Mod_act_85 (by decide) ?_
    exact kret (nI 0) [(y0, .inr (7, [.ref ya, .int (nI nt), .ref yo, .int (nI no), .ref ym, .ref yl, .ref yg, .ref yw, .ref yh, .ref yc, .ref yd, .ref yb, .ref yk, .ref yz, .int (nI 0), .int (b2 fl), .ref yr])), (yg, .inl (E.2.1, 32, .inl k5)), (yw, .inl (E.2.2.1, 64, .inl k6)), (yh, .inl (E.2.2.1, 8, .inl k7)), (yc, .inl (E.2.1, 32, .inl k8)), (yd, .inl (E.2.1, 32, .inl k9)), (yb, .inl (E.2.1, 512, .inl kb)), (yk, .inl (E.2.1, 1920, .inl f)), (yz, .inl (E.2.2.1, 24, .inl sz))] _ _ _ _ d_Mod_act_86 (⟨_, _, _, _, _, _, _, _, rfl, hB, Or.inr ⟨rfl, rfl⟩⟩) rfl hP hS
  · have hP : va_P E.1 clz [(y0, .inr (7, [.ref ya, .int (nI nt), .ref yo, .int (nI no), .ref ym, .ref yl, .ref yg, .ref yw, .ref yh, .ref yc, .ref yd, .ref yb, .ref yk, .ref yz, .int (nI 1), .int (b2 fl), .ref yr])), (yg, .inl (E.2.1, 32, .inl k5)), (yw, .inl (E.2.2.1, 64, .inl k6)), (yh, .inl (E.2.2.1, 8, .inl k7)), (yc, .inl (E.2.1, 32, .inl k8)), (yd, .inl (E.2.1, 32, .inl k9)), (yb, .inl (E.2.1, 512, .inl kb)), (yk, .inl (E.2.1, 1920, .inl f)), (yz, .inl (E.2.2.1, 24, .inl sz))] H := hP
    have hD : va_D A [(y0, .inr (7, [.ref ya, .int (nI nt), .ref yo, .int (nI no), .ref ym, .ref yl, .ref yg, .ref yw, .ref yh, .ref yc, .ref yd, .ref yb, .ref yk, .ref yz, .int (nI 1), .int (b2 fl), .ref yr])), (yg, .inl (E.2.1, 32, .inl k5)), (yw, .inl (E.2.2.1, 64, .inl k6)), (yh, .inl (E.2.2.1, 8, .inl k7)), (yc, .inl (E.2.1, 32, .inl k8)), (yd, .inl (E.2.1, 32, .inl k9)), (yb, .inl (E.2.1, 512, .inl kb)), (yk, .inl (E.2.1, 1920, .inl f)), (yz, .inl (E.2.2.1, 24, .inl sz))] := hD
    refine lv_aload_n hx hb d_Mod_act_0 rfl (lv_at hl 0 rfl) ?_
    refine n_get C fg_Mod_66 hP 0 rfl rfl d_Mod_act_1 ?_
    refine lv_iconst (v := nI 2) hx hb d_Mod_act_4 (by decide) ?_
    refine lv_isub hx hb d_Mod_act_5 ?_
    refine tope (z := (-1)) (by decide) ?_
    refine lv_istore_n (lv' := [(3, .int (-1)), (0, .ref y0), (1, .int (nI 91)), (2, .int ht)]) hx hb d_Mod_act_6 rfl hl (by decide) rfl (fun ls hl => ?_)
    refine lv_aload_n hx hb d_Mod_act_7 rfl (lv_at hl 1 rfl) ?_
    refine n_get C fg_Mod_66 hP 0 rfl rfl d_Mod_act_8 ?_
    refine lv_iconst (v := nI 1) hx hb d_Mod_act_11 (by decide) ?_
    refine lv_isub hx hb d_Mod_act_12 ?_
    refine tope (z := nI 0) (pk_sub (by omega)) ?_
    refine lv_istore (lv' := [(4, .int (nI 0)), (3, .int (-1)), (0, .ref y0), (1, .int (nI 91)), (2, .int ht)]) hx hb d_Mod_act_13 hl (by decide) rfl (fun ls hl => ?_)
    refine lv_iload_n hx hb d_Mod_act_15 rfl (lv_at hl 3 rfl) ?_
    refine lv_bipush (v := nI 82) hx hb d_Mod_act_16 (by decide) ?_
    refine j_eq C 91 82 rfl rfl (by decide) (by decide) d_Mod_act_18 rfl (fun hc8 => absurd hc8 (by decide)) (fun hc8 => ?_)
    refine lv_iload_n hx hb d_Mod_act_21 rfl (lv_at hl 3 rfl) ?_
    refine lv_bipush (v := nI 83) hx hb d_Mod_act_22 (by decide) ?_
    refine j_eq C 91 83 rfl rfl (by decide) (by decide) d_Mod_act_24 rfl (fun hc9 => absurd hc9 (by decide)) (fun hc9 => ?_)
    refine lv_iload_n hx hb d_Mod_act_27 rfl (lv_at hl 3 rfl) ?_
    refine lv_bipush (v := nI 86) hx hb d_Mod_act_28 (by decide) ?_
    refine j_eq C 91 86 rfl rfl (by decide) (by decide) d_Mod_act_30 rfl (fun hc10 => absurd hc10 (by decide)) (fun hc10 => ?_)
    refine lv_iload_n hx hb d_Mod_act_33 rfl (lv_at hl 3 rfl) ?_
    refine lv_bipush (v := nI 89) hx hb d_Mod_act_34 (by decide) ?_
    refine j_lt C 91 89 rfl rfl (by decide) (by decide) d_Mod_act_36 rfl (fun hc11 => absurd hc11 (by decide)) (fun hc11 => ?_)
    refine lv_iload_n hx hb d_Mod_act_39 rfl (lv_at hl 3 rfl) ?_
    refine lv_bipush (v := nI 92) hx hb d_Mod_act_40 (by decide) ?_
    refine j_le C 91 92 rfl rfl (by decide) (by decide) d_Mod_act_42 rfl (fun hc12 => ?_) (fun hc12 => absurd hc12 (by decide))
    refine lv_iconst (v := nI 1) hx hb d_Mod_act_51 (by decide) ?_
    refine lv_goto hx hb d_Mod_act_52 rfl ?_
    refine lv_istore (lv' := [(5, .int (nI 1)), (4, .int (nI 0)), (3, .int (-1)), (0, .ref y0), (1, .int (nI 91)), (2, .int ht)]) hx hb d_Mod_act_56 hl (by decide) rfl (fun ls hl => ?_)
    refine lv_aload_n hx hb d_Mod_act_58 rfl (lv_at hl 3 rfl) ?_
    refine n_get C fg_Mod_66 hP 0 rfl rfl d_Mod_act_59 ?_
    refine lv_iload hx hb d_Mod_act_62 (lv_at hl 0 rfl) ?_
    refine z_eq C 1 rfl (by omega) d_Mod_act_64 rfl (fun hc13 => absurd hc13 (by omega)) (fun hc13 => ?_)
    refine lv_iconst (v := nI 2) hx hb d_Mod_act_67 (by decide) ?_
    refine lv_goto hx hb d_Mod_act_68 rfl ?_
    refine j_ge C 1 2 rfl rfl (by decide) (by decide) d_Mod_act_82 rfl (fun hc14 => absurd hc14 (by decide)) (fun hc14 => ?_)
    refine lv_iconst (v := nI 0) hx hb d_Mod_act_85 (by decide) ?_
    exact kret (nI 0) [(y0, .inr (7, [.ref ya, .int (nI nt), .ref yo, .int (nI no), .ref ym, .ref yl, .ref yg, .ref yw, .ref yh, .ref yc, .ref yd, .ref yb, .ref yk, .ref yz, .int (nI 1), .int (b2 fl), .ref yr])), (yg, .inl (E.2.1, 32, .inl k5)), (yw, .inl (E.2.2.1, 64, .inl k6)), (yh, .inl (E.2.2.1, 8, .inl k7)), (yc, .inl (E.2.1, 32, .inl k8)), (yd, .inl (E.2.1, 32, .inl k9)), (yb, .inl (E.2.1, 512, .inl kb)), (yk, .inl (E.2.1, 1920, .inl f)), (yz, .inl (E.2.2.1, 24, .inl sz))] _ _ _ _ d_Mod_act_86 (⟨_, _, _, _, _, _, _, _, rfl, hB, Or.inr ⟨rfl, rfl⟩⟩) rfl hP hS
  · have hx1 : sz (S.length + 1) = nI x.length ∧ x.length ≤ 80 ∧ lay f ((S.length + 1) * 80) x := rep_top hrep
    have hy1 : sz S.length = nI y.length ∧ y.length ≤ 80 ∧ lay f (S.length * 80) y := rep_top (rep_tail hrep)
    have hr0 : rep f sz S := rep_tail (rep_tail hrep)
    have hlen : S.length + 2 ≤ 24 := hlen
    have hP : va_P E.1 clz [(y0, .inr (7, [.ref ya, .int (nI nt), .ref yo, .int (nI no), .ref ym, .ref yl, .ref yg, .ref yw, .ref yh, .ref yc, .ref yd, .ref yb, .ref yk, .ref yz, .int (nI (S.length + 2)), .int (b2 fl), .ref yr])), (yg, .inl (E.2.1, 32, .inl k5)), (yw, .inl (E.2.2.1, 64, .inl k6)), (yh, .inl (E.2.2.1, 8, .inl k7)), (yc, .inl (E.2.1, 32, .inl k8)), (yd, .inl (E.2.1, 32, .inl k9)), (yb, .inl (E.2.1, 512, .inl kb)), (yk, .inl (E.2.1, 1920, .inl f)), (yz, .inl (E.2.2.1, 24, .inl sz))] H := hP
    have hD : va_D A [(y0, .inr (7, [.ref ya, .int (nI nt), .ref yo, .int (nI no), .ref ym, .ref yl, .ref yg, .ref yw, .ref yh, .ref yc, .ref yd, .ref yb, .ref yk, .ref yz, .int (nI (S.length + 2)), .int (b2 fl), .ref yr])), (yg, .inl (E.2.1, 32, .inl k5)), (yw, .inl (E.2.2.1, 64, .inl k6)), (yh, .inl (E.2.2.1, 8, .inl k7)), (yc, .inl (E.2.1, 32, .inl k8)), (yd, .inl (E.2.1, 32, .inl k9)), (yb, .inl (E.2.1, 512, .inl kb)), (yk, .inl (E.2.1, 1920, .inl f)), (yz, .inl (E.2.2.1, 24, .inl sz))] := hD
    refine lv_aload_n hx hb d_Mod_act_0 rfl (lv_at hl 0 rfl) ?_
    refine n_get C fg_Mod_66 hP 0 rfl rfl d_Mod_act_1 ?_
    refine lv_iconst (v := nI 2) hx hb d_Mod_act_4 (by decide) ?_
    refine lv_isub hx hb d_Mod_act_5 ?_
    refine tope (z := nI S.length) ((pk_sub (by omega)).trans (congrArg nI (by omega))) ?_
    refine lv_istore_n (lv' := [(3, .int (nI S.length)), (0, .ref y0), (1, .int (nI 91)), (2, .int ht)]) hx hb d_Mod_act_6 rfl hl (by decide) rfl (fun ls hl => ?_)
    refine lv_aload_n hx hb d_Mod_act_7 rfl (lv_at hl 1 rfl) ?_
    refine n_get C fg_Mod_66 hP 0 rfl rfl d_Mod_act_8 ?_
    refine lv_iconst (v := nI 1) hx hb d_Mod_act_11 (by decide) ?_
    refine lv_isub hx hb d_Mod_act_12 ?_
    refine tope (z := nI (S.length + 1)) ((pk_sub (by omega)).trans (congrArg nI (by omega))) ?_
    refine lv_istore (lv' := [(4, .int (nI (S.length + 1))), (3, .int (nI S.length)), (0, .ref y0), (1, .int (nI 91)), (2, .int ht)]) hx hb d_Mod_act_13 hl (by decide) rfl (fun ls hl => ?_)
    refine lv_iload_n hx hb d_Mod_act_15 rfl (lv_at hl 3 rfl) ?_
    refine lv_bipush (v := nI 82) hx hb d_Mod_act_16 (by decide) ?_
    refine j_eq C 91 82 rfl rfl (by decide) (by decide) d_Mod_act_18 rfl (fun hc15 => absurd hc15 (by decide)) (fun hc15 => ?_)
    refine lv_iload_n hx hb d_Mod_act_21 rfl (lv_at hl 3 rfl) ?_
    refine lv_bipush (v := nI 83) hx hb d_Mod_act_22 (by decide) ?_
    refine j_eq C 91 83 rfl rfl (by decide) (by decide) d_Mod_act_24 rfl (fun hc16 => absurd hc16 (by decide)) (fun hc16 => ?_)
    refine lv_iload_n hx hb d_Mod_act_27 rfl (lv_at hl 3 rfl) ?_
    refine lv_bipush (v := nI 86) hx hb d_Mod_act_28 (by decide) ?_
    refine j_eq C 91 86 rfl rfl (by decide) (by decide) d_Mod_act_30 rfl (fun hc17 => absurd hc17 (by decide)) (fun hc17 => ?_)
    refine lv_iload_n hx hb d_Mod_act_33 rfl (lv_at hl 3 rfl) ?_
    refine lv_bipush (v := nI 89) hx hb d_Mod_act_34 (by decide) ?_
    refine j_lt C 91 89 rfl rfl (by decide) (by decide) d_Mod_act_36 rfl (fun hc18 => absurd hc18 (by decide)) (fun hc18 => ?_)
    refine lv_iload_n hx hb d_Mod_act_39 rfl (lv_at hl 3 rfl) ?_
    refine lv_bipush (v := nI 92) hx hb d_Mod_act_40 (by decide) ?_
    refine j_le C 91 92 rfl rfl (by decide) (by decide) d_Mod_act_42 rfl (fun hc19 => ?_) (fun hc19 => absurd hc19 (by decide))
    refine lv_iconst (v := nI 1) hx hb d_Mod_act_51 (by decide) ?_
    refine lv_goto hx hb d_Mod_act_52 rfl ?_
    refine lv_istore (lv' := [(5, .int (nI 1)), (4, .int (nI (S.length + 1))), (3, .int (nI S.length)), (0, .ref y0), (1, .int (nI 91)), (2, .int ht)]) hx hb d_Mod_act_56 hl (by decide) rfl (fun ls hl => ?_)
    refine lv_aload_n hx hb d_Mod_act_58 rfl (lv_at hl 3 rfl) ?_
    refine n_get C fg_Mod_66 hP 0 rfl rfl d_Mod_act_59 ?_
    refine lv_iload hx hb d_Mod_act_62 (lv_at hl 0 rfl) ?_
    refine z_eq C 1 rfl (by omega) d_Mod_act_64 rfl (fun hc20 => absurd hc20 (by omega)) (fun hc20 => ?_)
    refine lv_iconst (v := nI 2) hx hb d_Mod_act_67 (by decide) ?_
    refine lv_goto hx hb d_Mod_act_68 rfl ?_
    refine j_ge C (S.length + 2) 2 rfl rfl (by omega) (by omega) d_Mod_act_82 rfl (fun hc21 => ?_) (fun hc21 => absurd hc21 (by omega))
    refine lv_iload_n hx hb d_Mod_act_87 rfl (lv_at hl 4 rfl) ?_
    refine lv_bipush (v := nI 88) hx hb d_Mod_act_88 (by decide) ?_
    refine j_lt C 91 88 rfl rfl (by decide) (by decide) d_Mod_act_90 rfl (fun hc22 => absurd hc22 (by decide)) (fun hc22 => ?_)
    refine lv_iload_n hx hb d_Mod_act_93 rfl (lv_at hl 4 rfl) ?_
    refine lv_bipush (v := nI 91) hx hb d_Mod_act_94 (by decide) ?_
    refine j_le C 91 91 rfl rfl (by decide) (by decide) d_Mod_act_96 rfl (fun hc23 => ?_) (fun hc23 => absurd hc23 (by decide))
    refine lv_iconst (v := nI 1) hx hb d_Mod_act_105 (by decide) ?_
    refine lv_goto hx hb d_Mod_act_106 rfl ?_
    refine lv_istore (lv' := [(6, .int (nI 1)), (5, .int (nI 1)), (4, .int (nI (S.length + 1))), (3, .int (nI S.length)), (0, .ref y0), (1, .int (nI 91)), (2, .int ht)]) hx hb d_Mod_act_110 hl (by decide) rfl (fun ls hl => ?_)
    refine lv_iload hx hb d_Mod_act_112 (lv_at hl 0 rfl) ?_
    refine z_eq C 1 rfl (by omega) d_Mod_act_114 rfl (fun hc24 => absurd hc24 (by omega)) (fun hc24 => ?_)
    refine lv_aload_n hx hb d_Mod_act_117 rfl (lv_at hl 4 rfl) ?_
    refine n_get C fg_Mod_44 hP 0 rfl rfl d_Mod_act_118 ?_
    refine lv_iload hx hb d_Mod_act_121 (lv_at hl 2 rfl) ?_
    refine n_iald C hP 8 rfl (S.length + 1) rfl (by omega) (by omega) d_Mod_act_123 ?_
    refine tope (z := nI x.length) (hx1.1) ?_
    refine lv_iconst (v := nI 4) hx hb d_Mod_act_124 (by decide) ?_
    refine j_gt C x.length 4 rfl rfl (by omega) (by omega) d_Mod_act_125 rfl (fun hc25 => ?_) (fun hc25 => ?_)
    · refine lv_iconst (v := nI 0) hx hb d_Mod_act_143 (by decide) ?_
      exact kret (nI 0) [(y0, .inr (7, [.ref ya, .int (nI nt), .ref yo, .int (nI no), .ref ym, .ref yl, .ref yg, .ref yw, .ref yh, .ref yc, .ref yd, .ref yb, .ref yk, .ref yz, .int (nI (S.length + 2)), .int (b2 fl), .ref yr])), (yg, .inl (E.2.1, 32, .inl k5)), (yw, .inl (E.2.2.1, 64, .inl k6)), (yh, .inl (E.2.2.1, 8, .inl k7)), (yc, .inl (E.2.1, 32, .inl k8)), (yd, .inl (E.2.1, 32, .inl k9)), (yb, .inl (E.2.1, 512, .inl kb)), (yk, .inl (E.2.1, 1920, .inl f)), (yz, .inl (E.2.2.1, 24, .inl sz))] _ _ _ _ d_Mod_act_144 (⟨_, _, _, _, _, _, _, _, rfl, hB, Or.inr ⟨by show (if y.length ≤ 4 ∧ x.length ≤ 4 then some (numB (b2 (decide (numL y < numL x))) :: S) else none) = _; rw [if_neg (by omega)], rfl⟩⟩) rfl hP hS
    · refine lv_iload hx hb d_Mod_act_128 (lv_at hl 1 rfl) ?_
      refine z_eq C 1 rfl (by omega) d_Mod_act_130 rfl (fun hc26 => absurd hc26 (by omega)) (fun hc26 => ?_)
      refine lv_aload_n hx hb d_Mod_act_133 rfl (lv_at hl 4 rfl) ?_
      refine n_get C fg_Mod_44 hP 0 rfl rfl d_Mod_act_134 ?_
      refine lv_iload_n hx hb d_Mod_act_137 rfl (lv_at hl 3 rfl) ?_
      refine n_iald C hP 8 rfl S.length rfl (by omega) (by omega) d_Mod_act_138 ?_
      refine tope (z := nI y.length) (hy1.1) ?_
      refine lv_iconst (v := nI 4) hx hb d_Mod_act_139 (by decide) ?_
      refine j_le C y.length 4 rfl rfl (by omega) (by omega) d_Mod_act_140 rfl (fun hc27 => ?_) (fun hc27 => ?_)
      · refine lv_iload hx hb d_Mod_act_145 (lv_at hl 1 rfl) ?_
        refine z_eq C 1 rfl (by omega) d_Mod_act_147 rfl (fun hc28 => absurd hc28 (by omega)) (fun hc28 => ?_)
        refine lv_iload hx hb d_Mod_act_150 (lv_at hl 0 rfl) ?_
        refine z_eq C 1 rfl (by omega) d_Mod_act_152 rfl (fun hc29 => absurd hc29 (by omega)) (fun hc29 => ?_)
        refine lv_aload_n hx hb d_Mod_act_155 rfl (lv_at hl 4 rfl) ?_
        refine lv_iload_n hx hb d_Mod_act_156 rfl (lv_at hl 3 rfl) ?_
        refine cal_I (As := [.int (nI S.length)]) (rest := []) C lk_Mod_81 (c_Mod_numberOf l E y0 ya yo ym yl yg yw yh yc yd yb yk yz yr nt no (S.length + 2) fl f sz S.length y (by omega) hy1.1 hy1.2.1 hy1.2.2 hB) (by decide) hP hD hS 0 7 rfl rfl [0, 7, 8] rfl (by decide) hl.1 rfl (Nat.le_of_ble_eq_true rfl) d_Mod_act_157 (fun r30 w1 H locs hp31 hP hD hS => ?_)
        obtain ⟨rfl, rfl⟩ := hp31
        have hP : va_P E.1 clz [(y0, .inr (7, [.ref ya, .int (nI nt), .ref yo, .int (nI no), .ref ym, .ref yl, .ref yg, .ref yw, .ref yh, .ref yc, .ref yd, .ref yb, .ref yk, .ref yz, .int (nI (S.length + 2)), .int (b2 fl), .ref yr])), (yg, .inl (E.2.1, 32, .inl k5)), (yw, .inl (E.2.2.1, 64, .inl k6)), (yh, .inl (E.2.2.1, 8, .inl k7)), (yc, .inl (E.2.1, 32, .inl k8)), (yd, .inl (E.2.1, 32, .inl k9)), (yb, .inl (E.2.1, 512, .inl kb)), (yk, .inl (E.2.1, 1920, .inl f)), (yz, .inl (E.2.2.1, 24, .inl sz))] H := hP
        have hD : va_D A [(y0, .inr (7, [.ref ya, .int (nI nt), .ref yo, .int (nI no), .ref ym, .ref yl, .ref yg, .ref yw, .ref yh, .ref yc, .ref yd, .ref yb, .ref yk, .ref yz, .int (nI (S.length + 2)), .int (b2 fl), .ref yr])), (yg, .inl (E.2.1, 32, .inl k5)), (yw, .inl (E.2.2.1, 64, .inl k6)), (yh, .inl (E.2.2.1, 8, .inl k7)), (yc, .inl (E.2.1, 32, .inl k8)), (yd, .inl (E.2.1, 32, .inl k9)), (yb, .inl (E.2.1, 512, .inl kb)), (yk, .inl (E.2.1, 1920, .inl f)), (yz, .inl (E.2.2.1, 24, .inl sz))] := hD
        refine lv_goto hx hb d_Mod_act_160 rfl ?_
        refine lv_istore (lv' := [(7, .int (numL y)), (6, .int (nI 1)), (5, .int (nI 1)), (4, .int (nI (S.length + 1))), (3, .int (nI S.length)), (0, .ref y0), (1, .int (nI 91)), (2, .int ht)]) hx hb d_Mod_act_164 hl (by decide) rfl (fun ls hl => ?_)
        refine lv_iload hx hb d_Mod_act_166 (lv_at hl 1 rfl) ?_
        refine z_eq C 1 rfl (by omega) d_Mod_act_168 rfl (fun hc32 => absurd hc32 (by omega)) (fun hc32 => ?_)
        refine lv_aload_n hx hb d_Mod_act_171 rfl (lv_at hl 5 rfl) ?_
        refine lv_iload hx hb d_Mod_act_172 (lv_at hl 3 rfl) ?_
        refine cal_I (As := [.int (nI (S.length + 1))]) (rest := []) C lk_Mod_81 (c_Mod_numberOf l E y0 ya yo ym yl yg yw yh yc yd yb yk yz yr nt no (S.length + 2) fl f sz (S.length + 1) x (by omega) hx1.1 hx1.2.1 hx1.2.2 hB) (by decide) hP hD hS 0 7 rfl rfl [0, 7, 8] rfl (by decide) hl.1 rfl (Nat.le_of_ble_eq_true rfl) d_Mod_act_174 (fun r33 w1 H locs hp34 hP hD hS => ?_)
        obtain ⟨rfl, rfl⟩ := hp34
        have hP : va_P E.1 clz [(y0, .inr (7, [.ref ya, .int (nI nt), .ref yo, .int (nI no), .ref ym, .ref yl, .ref yg, .ref yw, .ref yh, .ref yc, .ref yd, .ref yb, .ref yk, .ref yz, .int (nI (S.length + 2)), .int (b2 fl), .ref yr])), (yg, .inl (E.2.1, 32, .inl k5)), (yw, .inl (E.2.2.1, 64, .inl k6)), (yh, .inl (E.2.2.1, 8, .inl k7)), (yc, .inl (E.2.1, 32, .inl k8)), (yd, .inl (E.2.1, 32, .inl k9)), (yb, .inl (E.2.1, 512, .inl kb)), (yk, .inl (E.2.1, 1920, .inl f)), (yz, .inl (E.2.2.1, 24, .inl sz))] H := hP
        have hD : va_D A [(y0, .inr (7, [.ref ya, .int (nI nt), .ref yo, .int (nI no), .ref ym, .ref yl, .ref yg, .ref yw, .ref yh, .ref yc, .ref yd, .ref yb, .ref yk, .ref yz, .int (nI (S.length + 2)), .int (b2 fl), .ref yr])), (yg, .inl (E.2.1, 32, .inl k5)), (yw, .inl (E.2.2.1, 64, .inl k6)), (yh, .inl (E.2.2.1, 8, .inl k7)), (yc, .inl (E.2.1, 32, .inl k8)), (yd, .inl (E.2.1, 32, .inl k9)), (yb, .inl (E.2.1, 512, .inl kb)), (yk, .inl (E.2.1, 1920, .inl f)), (yz, .inl (E.2.2.1, 24, .inl sz))] := hD
        refine lv_goto hx hb d_Mod_act_177 rfl ?_
        refine lv_istore (lv' := [(8, .int (numL x)), (7, .int (numL y)), (6, .int (nI 1)), (5, .int (nI 1)), (4, .int (nI (S.length + 1))), (3, .int (nI S.length)), (0, .ref y0), (1, .int (nI 91)), (2, .int ht)]) hx hb d_Mod_act_181 hl (by decide) rfl (fun ls hl => ?_)
        refine lv_iload_n hx hb d_Mod_act_183 rfl (lv_at hl 7 rfl) ?_
        refine lv_tableIn hx hb d_Mod_act_184 (by decide) (by decide) rfl rfl ?_
        refine lv_aload_n hx hb d_Mod_act_605 rfl (lv_at hl 6 rfl) ?_
        refine lv_dup hx hb d_Mod_act_606 rfl ?_
        refine n_get C fg_Mod_66 hP 0 rfl rfl d_Mod_act_607 ?_
        refine lv_iconst (v := nI 2) hx hb d_Mod_act_610 (by decide) ?_
        refine lv_isub hx hb d_Mod_act_611 ?_
        refine tope (z := nI S.length) ((pk_sub (by omega)).trans (congrArg nI (by omega))) ?_
        refine n_put (v := .int (nI S.length)) C fp_Mod_66 hP hD hS 0 rfl (rfl) rfl (Nat.le_of_ble_eq_true rfl) d_Mod_act_612 (fun H locs hP hD hS => ?_)
        have hP : va_P E.1 clz [(y0, .inr (7, [.ref ya, .int (nI nt), .ref yo, .int (nI no), .ref ym, .ref yl, .ref yg, .ref yw, .ref yh, .ref yc, .ref yd, .ref yb, .ref yk, .ref yz, .int (nI S.length), .int (b2 fl), .ref yr])), (yg, .inl (E.2.1, 32, .inl k5)), (yw, .inl (E.2.2.1, 64, .inl k6)), (yh, .inl (E.2.2.1, 8, .inl k7)), (yc, .inl (E.2.1, 32, .inl k8)), (yd, .inl (E.2.1, 32, .inl k9)), (yb, .inl (E.2.1, 512, .inl kb)), (yk, .inl (E.2.1, 1920, .inl f)), (yz, .inl (E.2.2.1, 24, .inl sz))] H := hP
        have hD : va_D A [(y0, .inr (7, [.ref ya, .int (nI nt), .ref yo, .int (nI no), .ref ym, .ref yl, .ref yg, .ref yw, .ref yh, .ref yc, .ref yd, .ref yb, .ref yk, .ref yz, .int (nI S.length), .int (b2 fl), .ref yr])), (yg, .inl (E.2.1, 32, .inl k5)), (yw, .inl (E.2.2.1, 64, .inl k6)), (yh, .inl (E.2.2.1, 8, .inl k7)), (yc, .inl (E.2.1, 32, .inl k8)), (yd, .inl (E.2.1, 32, .inl k9)), (yb, .inl (E.2.1, 512, .inl kb)), (yk, .inl (E.2.1, 1920, .inl f)), (yz, .inl (E.2.2.1, 24, .inl sz))] := hD
        refine lv_aload_n hx hb d_Mod_act_615 rfl (lv_at hl 6 rfl) ?_
        refine lv_iload hx hb d_Mod_act_616 (lv_at hl 1 rfl) ?_
        refine lv_iload hx hb d_Mod_act_618 (lv_at hl 0 rfl) ?_
        refine lv_icmp_ge hx hb d_Mod_act_620 rfl (fun hc35 => ?_) (fun hc35 => ?_)
        · refine lv_iconst (v := nI 0) hx hb d_Mod_act_627 (by decide) ?_
          refine cal_I (As := [.int (nI 0)]) (rest := []) C lk_Mod_89 (c_Mod_pushNumber l E y0 ya yo ym yl yg yw yh yc yd yb yk yz yr nt no fl f sz k8 S (nI 0) hr0 hB (by first | omega | (simp only [List.length_cons]; omega) | (rw [List.length_drop]; omega))) (by decide) hP hD hS 0 7 rfl rfl [0, 7, 8, 4] rfl (by decide) hl.1 rfl (Nat.le_of_ble_eq_true rfl) d_Mod_act_628 (fun r41 w1 H locs hp42 hP hD hS => ?_)
          obtain ⟨rfl, fq36, zq37, cq38, rfl, hrq39, hbq40⟩ := hp42
          have hP : va_P E.1 clz [(y0, .inr (7, [.ref ya, .int (nI nt), .ref yo, .int (nI no), .ref ym, .ref yl, .ref yg, .ref yw, .ref yh, .ref yc, .ref yd, .ref yb, .ref yk, .ref yz, .int (nI (S.length + 1)), .int (b2 fl), .ref yr])), (yg, .inl (E.2.1, 32, .inl k5)), (yw, .inl (E.2.2.1, 64, .inl k6)), (yh, .inl (E.2.2.1, 8, .inl k7)), (yc, .inl (E.2.1, 32, .inl cq38)), (yd, .inl (E.2.1, 32, .inl k9)), (yb, .inl (E.2.1, 512, .inl kb)), (yk, .inl (E.2.1, 1920, .inl fq36)), (yz, .inl (E.2.2.1, 24, .inl zq37))] H := hP
          have hD : va_D A [(y0, .inr (7, [.ref ya, .int (nI nt), .ref yo, .int (nI no), .ref ym, .ref yl, .ref yg, .ref yw, .ref yh, .ref yc, .ref yd, .ref yb, .ref yk, .ref yz, .int (nI (S.length + 1)), .int (b2 fl), .ref yr])), (yg, .inl (E.2.1, 32, .inl k5)), (yw, .inl (E.2.2.1, 64, .inl k6)), (yh, .inl (E.2.2.1, 8, .inl k7)), (yc, .inl (E.2.1, 32, .inl cq38)), (yd, .inl (E.2.1, 32, .inl k9)), (yb, .inl (E.2.1, 512, .inl kb)), (yk, .inl (E.2.1, 1920, .inl fq36)), (yz, .inl (E.2.2.1, 24, .inl zq37))] := hD
          exact kret (b2 true) [(y0, .inr (7, [.ref ya, .int (nI nt), .ref yo, .int (nI no), .ref ym, .ref yl, .ref yg, .ref yw, .ref yh, .ref yc, .ref yd, .ref yb, .ref yk, .ref yz, .int (nI (S.length + 1)), .int (b2 fl), .ref yr])), (yg, .inl (E.2.1, 32, .inl k5)), (yw, .inl (E.2.2.1, 64, .inl k6)), (yh, .inl (E.2.2.1, 8, .inl k7)), (yc, .inl (E.2.1, 32, .inl cq38)), (yd, .inl (E.2.1, 32, .inl k9)), (yb, .inl (E.2.1, 512, .inl kb)), (yk, .inl (E.2.1, 1920, .inl fq36)), (yz, .inl (E.2.2.1, 24, .inl zq37))] _ _ _ _ d_Mod_act_631 (⟨_, _, _, _, _, _, _, _, rfl, hbq40, Or.inl ⟨(numB (b2 false) :: S), by show (if y.length ≤ 4 ∧ x.length ≤ 4 then some (numB (b2 (decide (numL y < numL x))) :: S) else none) = _; rw [if_pos (by omega), decide_eq_false (Int32.not_lt.mpr hc35)], rfl, by first | rfl | (simp only [List.length_cons]; omega) | (simp only [List.length_cons]), hrq39, by first | (simp only [List.length_cons]; omega) | (simp only [List.length_cons]) | omega⟩⟩) rfl hP hS
        · refine lv_iconst (v := nI 1) hx hb d_Mod_act_623 (by decide) ?_
          refine lv_goto hx hb d_Mod_act_624 rfl ?_
          refine cal_I (As := [.int (nI 1)]) (rest := []) C lk_Mod_89 (c_Mod_pushNumber l E y0 ya yo ym yl yg yw yh yc yd yb yk yz yr nt no fl f sz k8 S (nI 1) hr0 hB (by first | omega | (simp only [List.length_cons]; omega) | (rw [List.length_drop]; omega))) (by decide) hP hD hS 0 7 rfl rfl [0, 7, 8, 4] rfl (by decide) hl.1 rfl (Nat.le_of_ble_eq_true rfl) d_Mod_act_628 (fun r48 w1 H locs hp49 hP hD hS => ?_)
          obtain ⟨rfl, fq43, zq44, cq45, rfl, hrq46, hbq47⟩ := hp49
          have hP : va_P E.1 clz [(y0, .inr (7, [.ref ya, .int (nI nt), .ref yo, .int (nI no), .ref ym, .ref yl, .ref yg, .ref yw, .ref yh, .ref yc, .ref yd, .ref yb, .ref yk, .ref yz, .int (nI (S.length + 1)), .int (b2 fl), .ref yr])), (yg, .inl (E.2.1, 32, .inl k5)), (yw, .inl (E.2.2.1, 64, .inl k6)), (yh, .inl (E.2.2.1, 8, .inl k7)), (yc, .inl (E.2.1, 32, .inl cq45)), (yd, .inl (E.2.1, 32, .inl k9)), (yb, .inl (E.2.1, 512, .inl kb)), (yk, .inl (E.2.1, 1920, .inl fq43)), (yz, .inl (E.2.2.1, 24, .inl zq44))] H := hP
          have hD : va_D A [(y0, .inr (7, [.ref ya, .int (nI nt), .ref yo, .int (nI no), .ref ym, .ref yl, .ref yg, .ref yw, .ref yh, .ref yc, .ref yd, .ref yb, .ref yk, .ref yz, .int (nI (S.length + 1)), .int (b2 fl), .ref yr])), (yg, .inl (E.2.1, 32, .inl k5)), (yw, .inl (E.2.2.1, 64, .inl k6)), (yh, .inl (E.2.2.1, 8, .inl k7)), (yc, .inl (E.2.1, 32, .inl cq45)), (yd, .inl (E.2.1, 32, .inl k9)), (yb, .inl (E.2.1, 512, .inl kb)), (yk, .inl (E.2.1, 1920, .inl fq43)), (yz, .inl (E.2.2.1, 24, .inl zq44))] := hD
          exact kret (b2 true) [(y0, .inr (7, [.ref ya, .int (nI nt), .ref yo, .int (nI no), .ref ym, .ref yl, .ref yg, .ref yw, .ref yh, .ref yc, .ref yd, .ref yb, .ref yk, .ref yz, .int (nI (S.length + 1)), .int (b2 fl), .ref yr])), (yg, .inl (E.2.1, 32, .inl k5)), (yw, .inl (E.2.2.1, 64, .inl k6)), (yh, .inl (E.2.2.1, 8, .inl k7)), (yc, .inl (E.2.1, 32, .inl cq45)), (yd, .inl (E.2.1, 32, .inl k9)), (yb, .inl (E.2.1, 512, .inl kb)), (yk, .inl (E.2.1, 1920, .inl fq43)), (yz, .inl (E.2.2.1, 24, .inl zq44))] _ _ _ _ d_Mod_act_631 (⟨_, _, _, _, _, _, _, _, rfl, hbq47, Or.inl ⟨(numB (b2 true) :: S), by show (if y.length ≤ 4 ∧ x.length ≤ 4 then some (numB (b2 (decide (numL y < numL x))) :: S) else none) = _; rw [if_pos (by omega), decide_eq_true (Int32.not_le.mp hc35)], rfl, by first | rfl | (simp only [List.length_cons]; omega) | (simp only [List.length_cons]), hrq46, by first | (simp only [List.length_cons]; omega) | (simp only [List.length_cons]) | omega⟩⟩) rfl hP hS
      · refine lv_iconst (v := nI 0) hx hb d_Mod_act_143 (by decide) ?_
        exact kret (nI 0) [(y0, .inr (7, [.ref ya, .int (nI nt), .ref yo, .int (nI no), .ref ym, .ref yl, .ref yg, .ref yw, .ref yh, .ref yc, .ref yd, .ref yb, .ref yk, .ref yz, .int (nI (S.length + 2)), .int (b2 fl), .ref yr])), (yg, .inl (E.2.1, 32, .inl k5)), (yw, .inl (E.2.2.1, 64, .inl k6)), (yh, .inl (E.2.2.1, 8, .inl k7)), (yc, .inl (E.2.1, 32, .inl k8)), (yd, .inl (E.2.1, 32, .inl k9)), (yb, .inl (E.2.1, 512, .inl kb)), (yk, .inl (E.2.1, 1920, .inl f)), (yz, .inl (E.2.2.1, 24, .inl sz))] _ _ _ _ d_Mod_act_144 (⟨_, _, _, _, _, _, _, _, rfl, hB, Or.inr ⟨by show (if y.length ≤ 4 ∧ x.length ≤ 4 then some (numB (b2 (decide (numL y < numL x))) :: S) else none) = _; rw [if_neg (by omega)], rfl⟩⟩) rfl hP hS

set_option maxHeartbeats 4000000 in
set_option maxRecDepth 100000 in
theorem c_act_92 (l : Launch) (E : En) (y0 ya yo ym yl yg yw yh yc yd yb yk yz yr nt no : Nat) (fl : Bool) (k5 k6 k7 k8 k9 kb f sz : Nat → Int32) (S : Stk) (msg : Byl) (hrep : rep f sz S) (hB : fB f) (hB5 : fB k5) (hlen : S.length ≤ 24) (hm : lay k5 0 msg) (hm32 : msg.length = 32) (ht : Int32) : CtI l y_Mod_act b_Mod_act 11 .boolean (rmd 4) E [.ref y0, .int (nI 92), .int ht] [(y0, .inr (7, [.ref ya, .int (nI nt), .ref yo, .int (nI no), .ref ym, .ref yl, .ref yg, .ref yw, .ref yh, .ref yc, .ref yd, .ref yb, .ref yk, .ref yz, .int (nI S.length), .int (b2 fl), .ref yr])), (yg, .inl (E.2.1, 32, .inl k5)), (yw, .inl (E.2.2.1, 64, .inl k6)), (yh, .inl (E.2.2.1, 8, .inl k7)), (yc, .inl (E.2.1, 32, .inl k8)), (yd, .inl (E.2.1, 32, .inl k9)), (yb, .inl (E.2.1, 512, .inl kb)), (yk, .inl (E.2.1, 1920, .inl f)), (yz, .inl (E.2.2.1, 24, .inl sz))] (stepM E y0 ya yo ym yl yg yw yh yc yd yb yk yz yr nt no fl k5 (actS 92 ht msg S)) := by
  refine CtI.of (by decide) (Nat.le_of_ble_eq_true rfl) (stepM_nar) ?_
  intro p e s m args below meth c A Q H locs ls C hP hD hS hl kret
  have hx := C.1
  have hb := C.2.1
  have hl : lv_has ls 11 [(0, .ref y0), (1, .int (nI 92)), (2, .int ht)] := hl
  rcases S with _ | ⟨x, _ | ⟨y, S⟩⟩
  · have hP : va_P E.1 clz [(y0, .inr (7, [.ref ya, .int (nI nt), .ref yo, .int (nI no), .ref ym, .ref yl, .ref yg, .ref yw, .ref yh, .ref yc, .ref yd, .ref yb, .ref yk, .ref yz, .int (nI 0), .int (b2 fl), .ref yr])), (yg, .inl (E.2.1, 32, .inl k5)), (yw, .inl (E.2.2.1, 64, .inl k6)), (yh, .inl (E.2.2.1, 8, .inl k7)), (yc, .inl (E.2.1, 32, .inl k8)), (yd, .inl (E.2.1, 32, .inl k9)), (yb, .inl (E.2.1, 512, .inl kb)), (yk, .inl (E.2.1, 1920, .inl f)), (yz, .inl (E.2.2.1, 24, .inl sz))] H := hP
    have hD : va_D A [(y0, .inr (7, [.ref ya, .int (nI nt), .ref yo, .int (nI no), .ref ym, .ref yl, .ref yg, .ref yw, .ref yh, .ref yc, .ref yd, .ref yb, .ref yk, .ref yz, .int (nI 0), .int (b2 fl), .ref yr])), (yg, .inl (E.2.1, 32, .inl k5)), (yw, .inl (E.2.2.1, 64, .inl k6)), (yh, .inl (E.2.2.1, 8, .inl k7)), (yc, .inl (E.2.1, 32, .inl k8)), (yd, .inl (E.2.1, 32, .inl k9)), (yb, .inl (E.2.1, 512, .inl kb)), (yk, .inl (E.2.1, 1920, .inl f)), (yz, .inl (E.2.2.1, 24, .inl sz))] := hD
    refine lv_aload_n hx hb d_Mod_act_0 rfl (lv_at hl 0 rfl) ?_
    refine n_get C fg_Mod_66 hP 0 rfl rfl d_Mod_act_1 ?_
    refine lv_iconst (v := nI 2) hx hb d_Mod_act_4 (by decide) ?_
    refine lv_isub hx hb d_Mod_act_5 ?_
    refine tope (z := (-2)) (by decide) ?_
    refine lv_istore_n (lv' := [(3, .int (-2)), (0, .ref y0), (1, .int (nI 92)), (2, .int ht)]) hx hb d_Mod_act_6 rfl hl (by decide) rfl (fun ls hl => ?_)
    refine lv_aload_n hx hb d_Mod_act_7 rfl (lv_at hl 1 rfl) ?_
    refine n_get C fg_Mod_66 hP 0 rfl rfl d_Mod_act_8 ?_
    refine lv_iconst (v := nI 1) hx hb d_Mod_act_11 (by decide) ?_
    refine lv_isub hx hb d_Mod_act_12 ?_
    refine tope (z := (-1)) (by decide) ?_
    refine lv_istore (lv' := [(4, .int (-1)), (3, .int (-2)), (0, .ref y0), (1, .int (nI 92)), (2, .int ht)]) hx hb d_Mod_act_13 hl (by decide) rfl (fun ls hl => ?_)
    refine lv_iload_n hx hb d_Mod_act_15 rfl (lv_at hl 3 rfl) ?_
    refine lv_bipush (v := nI 82) hx hb d_Mod_act_16 (by decide) ?_
    refine j_eq C 92 82 rfl rfl (by decide) (by decide) d_Mod_act_18 rfl (fun hc1 => absurd hc1 (by decide)) (fun hc1 => ?_)
    refine lv_iload_n hx hb d_Mod_act_21 rfl (lv_at hl 3 rfl) ?_
    refine lv_bipush (v := nI 83) hx hb d_Mod_act_22 (by decide) ?_
    refine j_eq C 92 83 rfl rfl (by decide) (by decide) d_Mod_act_24 rfl (fun hc2 => absurd hc2 (by decide)) (fun hc2 => ?_)
    refine lv_iload_n hx hb d_Mod_act_27 rfl (lv_at hl 3 rfl) ?_
    refine lv_bipush (v := nI 86) hx hb d_Mod_act_28 (by decide) ?_
    refine j_eq C 92 86 rfl rfl (by decide) (by decide) d_Mod_act_30 rfl (fun hc3 => absurd hc3 (by decide)) (fun hc3 => ?_)
    refine lv_iload_n hx hb d_Mod_act_33 rfl (lv_at hl 3 rfl) ?_
    refine lv_bipush (v := nI 89) hx hb d_Mod_act_34 (by decide) ?_
    refine j_lt C 92 89 rfl rfl (by decide) (by decide) d_Mod_act_36 rfl (fun hc4 => absurd hc4 (by decide)) (fun hc4 => ?_)
    refine lv_iload_n hx hb d_Mod_act_39 rfl (lv_at hl 3 rfl) ?_
    refine lv_bipush (v := nI 92) hx hb d_Mod_act_40 (by decide) ?_
    refine j_le C 92 92 rfl rfl (by decide) (by decide) d_Mod_act_42 rfl (fun hc5 => ?_) (fun hc5 => absurd hc5 (by decide))
    refine lv_iconst (v := nI 1) hx hb d_Mod_act_51 (by decide) ?_
    refine lv_goto hx hb d_Mod_act_52 rfl ?_
    refine lv_istore (lv' := [(5, .int (nI 1)), (4, .int (-1)), (3, .int (-2)), (0, .ref y0), (1, .int (nI 92)), (2, .int ht)]) hx hb d_Mod_act_56 hl (by decide) rfl (fun ls hl => ?_)
    refine lv_aload_n hx hb d_Mod_act_58 rfl (lv_at hl 3 rfl) ?_
    refine n_get C fg_Mod_66 hP 0 rfl rfl d_Mod_act_59 ?_
    refine lv_iload hx hb d_Mod_act_62 (lv_at hl 0 rfl) ?_
    refine z_eq C 1 rfl (by omega) d_Mod_act_64 rfl (fun hc6 => absurd hc6 (by omega)) (fun hc6 => ?_)
    refine lv_iconst (v := nI 2) hx hb d_Mod_act_67 (by decide) ?_
    refine lv_goto hx hb d_Mod_act_68 rfl ?_
    refine j_ge C 0 2 rfl rfl (by decide) (by decide) d_Mod_act_82 rfl (fun hc7 => absurd hc7 (by decide)) (fun hc7 => ?_)
    refine lv_iconst (v := nI 0) hx hb d_Mod_act_85 (by decide) ?_
    exact kret (nI 0) [(y0, .inr (7, [.ref ya, .int (nI nt), .ref yo, .int (nI no), .ref ym, .ref yl, .ref yg, .ref yw, .ref yh, .ref yc, .ref yd, .ref yb, .ref yk, .ref yz, .int (nI 0), .int (b2 fl), .ref yr])), (yg, .inl (E.2.1, 32, .inl k5)), (yw, .inl (E.2.2.1, 64, .inl k6)), (yh, .inl (E.2.2.1, 8, .inl k7)), (yc, .inl (E.2.1, 32, .inl k8)), (yd, .inl (E.2.1, 32, .inl k9)), (yb, .inl (E.2.1, 512, .inl kb)), (yk, .inl (E.2.1, 1920, .inl f)), (yz, .inl (E.2.2.1, 24, .inl sz))] _ _ _ _ d_Mod_act_86 (⟨_, _, _, _, _, _, _, _, rfl, hB, Or.inr ⟨rfl, rfl⟩⟩) rfl hP hS
  · have hP : va_P E.1 clz [(y0, .inr (7, [.ref ya, .int (nI nt), .ref yo, .int (nI no), .ref ym, .ref yl, .ref yg, .ref yw, .ref yh, .ref yc, .ref yd, .ref yb, .ref yk, .ref yz, .int (nI 1), .int (b2 fl), .ref yr])), (yg, .inl (E.2.1, 32, .inl k5)), (yw, .inl (E.2.2.1, 64, .inl k6)), (yh, .inl (E.2.2.1, 8, .inl k7)), (yc, .inl (E.2.1, 32, .inl k8)), (yd, .inl (E.2.1, 32, .inl k9)), (yb, .inl (E.2.1, 512, .inl kb)), (yk, .inl (E.2.1, 1920, .inl f)), (yz, .inl (E.2.2.1, 24, .inl sz))] H := hP
    have hD : va_D A [(y0, .inr (7, [.ref ya, .int (nI nt), .ref yo, .int (nI no), .ref ym, .ref yl, .ref yg, .ref yw, .ref yh, .ref yc, .ref yd, .ref yb, .ref yk, .ref yz, .int (nI 1), .int (b2 fl), .ref yr])), (yg, .inl (E.2.1, 32, .inl k5)), (yw, .inl (E.2.2.1, 64, .inl k6)), (yh, .inl (E.2.2.1, 8, .inl k7)), (yc, .inl (E.2.1, 32, .inl k8)), (yd, .inl (E.2.1, 32, .inl k9)), (yb, .inl (E.2.1, 512, .inl kb)), (yk, .inl (E.2.1, 1920, .inl f)), (yz, .inl (E.2.2.1, 24, .inl sz))] := hD
    refine lv_aload_n hx hb d_Mod_act_0 rfl (lv_at hl 0 rfl) ?_
    refine n_get C fg_Mod_66 hP 0 rfl rfl d_Mod_act_1 ?_
    refine lv_iconst (v := nI 2) hx hb d_Mod_act_4 (by decide) ?_
    refine lv_isub hx hb d_Mod_act_5 ?_
    refine tope (z := (-1)) (by decide) ?_
    refine lv_istore_n (lv' := [(3, .int (-1)), (0, .ref y0), (1, .int (nI 92)), (2, .int ht)]) hx hb d_Mod_act_6 rfl hl (by decide) rfl (fun ls hl => ?_)
    refine lv_aload_n hx hb d_Mod_act_7 rfl (lv_at hl 1 rfl) ?_
    refine n_get C fg_Mod_66 hP 0 rfl rfl d_Mod_act_8 ?_
    refine lv_iconst (v := nI 1) hx hb d_Mod_act_11 (by decide) ?_
    refine lv_isub hx hb d_Mod_act_12 ?_
    refine tope (z := nI 0) (pk_sub (by omega)) ?_
    refine lv_istore (lv' := [(4, .int (nI 0)), (3, .int (-1)), (0, .ref y0), (1, .int (nI 92)), (2, .int ht)]) hx hb d_Mod_act_13 hl (by decide) rfl (fun ls hl => ?_)
    refine lv_iload_n hx hb d_Mod_act_15 rfl (lv_at hl 3 rfl) ?_
    refine lv_bipush (v := nI 82) hx hb d_Mod_act_16 (by decide) ?_
    refine j_eq C 92 82 rfl rfl (by decide) (by decide) d_Mod_act_18 rfl (fun hc8 => absurd hc8 (by decide)) (fun hc8 => ?_)
    refine lv_iload_n hx hb d_Mod_act_21 rfl (lv_at hl 3 rfl) ?_
    refine lv_bipush (v := nI 83) hx hb d_Mod_act_22 (by decide) ?_
    refine j_eq C 92 83 rfl rfl (by decide) (by decide) d_Mod_act_24 rfl (fun hc9 => absurd hc9 (by decide)) (fun hc9 => ?_)
    refine lv_iload_n hx hb d_Mod_act_27 rfl (lv_at hl 3 rfl) ?_
    refine lv_bipush (v := nI 86) hx hb d_Mod_act_28 (by decide) ?_
    refine j_eq C 92 86 rfl rfl (by decide) (by decide) d_Mod_act_30 rfl (fun hc10 => absurd hc10 (by decide)) (fun hc10 => ?_)
    refine lv_iload_n hx hb d_Mod_act_33 rfl (lv_at hl 3 rfl) ?_
    refine lv_bipush (v := nI 89) hx hb d_Mod_act_34 (by decide) ?_
    refine j_lt C 92 89 rfl rfl (by decide) (by decide) d_Mod_act_36 rfl (fun hc11 => absurd hc11 (by decide)) (fun hc11 => ?_)
    refine lv_iload_n hx hb d_Mod_act_39 rfl (lv_at hl 3 rfl) ?_
    refine lv_bipush (v := nI 92) hx hb d_Mod_act_40 (by decide) ?_
    refine j_le C 92 92 rfl rfl (by decide) (by decide) d_Mod_act_42 rfl (fun hc12 => ?_) (fun hc12 => absurd hc12 (by decide))
    refine lv_iconst (v := nI 1) hx hb d_Mod_act_51 (by decide) ?_
    refine lv_goto hx hb d_Mod_act_52 rfl ?_
    refine lv_istore (lv' := [(5, .int (nI 1)), (4, .int (nI 0)), (3, .int (-1)), (0, .ref y0), (1, .int (nI 92)), (2, .int ht)]) hx hb d_Mod_act_56 hl (by decide) rfl (fun ls hl => ?_)
    refine lv_aload_n hx hb d_Mod_act_58 rfl (lv_at hl 3 rfl) ?_
    refine n_get C fg_Mod_66 hP 0 rfl rfl d_Mod_act_59 ?_
    refine lv_iload hx hb d_Mod_act_62 (lv_at hl 0 rfl) ?_
    refine z_eq C 1 rfl (by omega) d_Mod_act_64 rfl (fun hc13 => absurd hc13 (by omega)) (fun hc13 => ?_)
    refine lv_iconst (v := nI 2) hx hb d_Mod_act_67 (by decide) ?_
    refine lv_goto hx hb d_Mod_act_68 rfl ?_
    refine j_ge C 1 2 rfl rfl (by decide) (by decide) d_Mod_act_82 rfl (fun hc14 => absurd hc14 (by decide)) (fun hc14 => ?_)
    refine lv_iconst (v := nI 0) hx hb d_Mod_act_85 (by decide) ?_
    exact kret (nI 0) [(y0, .inr (7, [.ref ya, .int (nI nt), .ref yo, .int (nI no), .ref ym, .ref yl, .ref yg, .ref yw, .ref yh, .ref yc, .ref yd, .ref yb, .ref yk, .ref yz, .int (nI 1), .int (b2 fl), .ref yr])), (yg, .inl (E.2.1, 32, .inl k5)), (yw, .inl (E.2.2.1, 64, .inl k6)), (yh, .inl (E.2.2.1, 8, .inl k7)), (yc, .inl (E.2.1, 32, .inl k8)), (yd, .inl (E.2.1, 32, .inl k9)), (yb, .inl (E.2.1, 512, .inl kb)), (yk, .inl (E.2.1, 1920, .inl f)), (yz, .inl (E.2.2.1, 24, .inl sz))] _ _ _ _ d_Mod_act_86 (⟨_, _, _, _, _, _, _, _, rfl, hB, Or.inr ⟨rfl, rfl⟩⟩) rfl hP hS
  · have hx1 : sz (S.length + 1) = nI x.length ∧ x.length ≤ 80 ∧ lay f ((S.length + 1) * 80) x := rep_top hrep
    have hy1 : sz S.length = nI y.length ∧ y.length ≤ 80 ∧ lay f (S.length * 80) y := rep_top (rep_tail hrep)
    have hr0 : rep f sz S := rep_tail (rep_tail hrep)
    have hlen : S.length + 2 ≤ 24 := hlen
    have hP : va_P E.1 clz [(y0, .inr (7, [.ref ya, .int (nI nt), .ref yo, .int (nI no), .ref ym, .ref yl, .ref yg, .ref yw, .ref yh, .ref yc, .ref yd, .ref yb, .ref yk, .ref yz, .int (nI (S.length + 2)), .int (b2 fl), .ref yr])), (yg, .inl (E.2.1, 32, .inl k5)), (yw, .inl (E.2.2.1, 64, .inl k6)), (yh, .inl (E.2.2.1, 8, .inl k7)), (yc, .inl (E.2.1, 32, .inl k8)), (yd, .inl (E.2.1, 32, .inl k9)), (yb, .inl (E.2.1, 512, .inl kb)), (yk, .inl (E.2.1, 1920, .inl f)), (yz, .inl (E.2.2.1, 24, .inl sz))] H := hP
    have hD : va_D A [(y0, .inr (7, [.ref ya, .int (nI nt), .ref yo, .int (nI no), .ref ym, .ref yl, .ref yg, .ref yw, .ref yh, .ref yc, .ref yd, .ref yb, .ref yk, .ref yz, .int (nI (S.length + 2)), .int (b2 fl), .ref yr])), (yg, .inl (E.2.1, 32, .inl k5)), (yw, .inl (E.2.2.1, 64, .inl k6)), (yh, .inl (E.2.2.1, 8, .inl k7)), (yc, .inl (E.2.1, 32, .inl k8)), (yd, .inl (E.2.1, 32, .inl k9)), (yb, .inl (E.2.1, 512, .inl kb)), (yk, .inl (E.2.1, 1920, .inl f)), (yz, .inl (E.2.2.1, 24, .inl sz))] := hD
    refine lv_aload_n hx hb d_Mod_act_0 rfl (lv_at hl 0 rfl) ?_
    refine n_get C fg_Mod_66 hP 0 rfl rfl d_Mod_act_1 ?_
    refine lv_iconst (v := nI 2) hx hb d_Mod_act_4 (by decide) ?_
    refine lv_isub hx hb d_Mod_act_5 ?_
    refine tope (z := nI S.length) ((pk_sub (by omega)).trans (congrArg nI (by omega))) ?_
    refine lv_istore_n (lv' := [(3, .int (nI S.length)), (0, .ref y0), (1, .int (nI 92)), (2, .int ht)]) hx hb d_Mod_act_6 rfl hl (by decide) rfl (fun ls hl => ?_)
    refine lv_aload_n hx hb d_Mod_act_7 rfl (lv_at hl 1 rfl) ?_
    refine n_get C fg_Mod_66 hP 0 rfl rfl d_Mod_act_8 ?_
    refine lv_iconst (v := nI 1) hx hb d_Mod_act_11 (by decide) ?_
    refine lv_isub hx hb d_Mod_act_12 ?_
    refine tope (z := nI (S.length + 1)) ((pk_sub (by omega)).trans (congrArg nI (by omega))) ?_
    refine lv_istore (lv' := [(4, .int (nI (S.length + 1))), (3, .int (nI S.length)), (0, .ref y0), (1, .int (nI 92)), (2, .int ht)]) hx hb d_Mod_act_13 hl (by decide) rfl (fun ls hl => ?_)
    refine lv_iload_n hx hb d_Mod_act_15 rfl (lv_at hl 3 rfl) ?_
    refine lv_bipush (v := nI 82) hx hb d_Mod_act_16 (by decide) ?_
    refine j_eq C 92 82 rfl rfl (by decide) (by decide) d_Mod_act_18 rfl (fun hc15 => absurd hc15 (by decide)) (fun hc15 => ?_)
    refine lv_iload_n hx hb d_Mod_act_21 rfl (lv_at hl 3 rfl) ?_
    refine lv_bipush (v := nI 83) hx hb d_Mod_act_22 (by decide) ?_
    refine j_eq C 92 83 rfl rfl (by decide) (by decide) d_Mod_act_24 rfl (fun hc16 => absurd hc16 (by decide)) (fun hc16 => ?_)
    refine lv_iload_n hx hb d_Mod_act_27 rfl (lv_at hl 3 rfl) ?_
    refine lv_bipush (v := nI 86) hx hb d_Mod_act_28 (by decide) ?_
    refine j_eq C 92 86 rfl rfl (by decide) (by decide) d_Mod_act_30 rfl (fun hc17 => absurd hc17 (by decide)) (fun hc17 => ?_)
    refine lv_iload_n hx hb d_Mod_act_33 rfl (lv_at hl 3 rfl) ?_
    refine lv_bipush (v := nI 89) hx hb d_Mod_act_34 (by decide) ?_
    refine j_lt C 92 89 rfl rfl (by decide) (by decide) d_Mod_act_36 rfl (fun hc18 => absurd hc18 (by decide)) (fun hc18 => ?_)
    refine lv_iload_n hx hb d_Mod_act_39 rfl (lv_at hl 3 rfl) ?_
    refine lv_bipush (v := nI 92) hx hb d_Mod_act_40 (by decide) ?_
    refine j_le C 92 92 rfl rfl (by decide) (by decide) d_Mod_act_42 rfl (fun hc19 => ?_) (fun hc19 => absurd hc19 (by decide))
    refine lv_iconst (v := nI 1) hx hb d_Mod_act_51 (by decide) ?_
    refine lv_goto hx hb d_Mod_act_52 rfl ?_
    refine lv_istore (lv' := [(5, .int (nI 1)), (4, .int (nI (S.length + 1))), (3, .int (nI S.length)), (0, .ref y0), (1, .int (nI 92)), (2, .int ht)]) hx hb d_Mod_act_56 hl (by decide) rfl (fun ls hl => ?_)
    refine lv_aload_n hx hb d_Mod_act_58 rfl (lv_at hl 3 rfl) ?_
    refine n_get C fg_Mod_66 hP 0 rfl rfl d_Mod_act_59 ?_
    refine lv_iload hx hb d_Mod_act_62 (lv_at hl 0 rfl) ?_
    refine z_eq C 1 rfl (by omega) d_Mod_act_64 rfl (fun hc20 => absurd hc20 (by omega)) (fun hc20 => ?_)
    refine lv_iconst (v := nI 2) hx hb d_Mod_act_67 (by decide) ?_
    refine lv_goto hx hb d_Mod_act_68 rfl ?_
    refine j_ge C (S.length + 2) 2 rfl rfl (by omega) (by omega) d_Mod_act_82 rfl (fun hc21 => ?_) (fun hc21 => absurd hc21 (by omega))
    refine lv_iload_n hx hb d_Mod_act_87 rfl (lv_at hl 4 rfl) ?_
    refine lv_bipush (v := nI 88) hx hb d_Mod_act_88 (by decide) ?_
    refine j_lt C 92 88 rfl rfl (by decide) (by decide) d_Mod_act_90 rfl (fun hc22 => absurd hc22 (by decide)) (fun hc22 => ?_)
    refine lv_iload_n hx hb d_Mod_act_93 rfl (lv_at hl 4 rfl) ?_
    refine lv_bipush (v := nI 91) hx hb d_Mod_act_94 (by decide) ?_
    refine j_le C 92 91 rfl rfl (by decide) (by decide) d_Mod_act_96 rfl (fun hc23 => absurd hc23 (by decide)) (fun hc23 => ?_)
    refine lv_iload_n hx hb d_Mod_act_99 rfl (lv_at hl 4 rfl) ?_
    refine lv_bipush (v := nI 96) hx hb d_Mod_act_100 (by decide) ?_
    refine j_ne C 92 96 rfl rfl (by decide) (by decide) d_Mod_act_102 rfl (fun hc24 => ?_) (fun hc24 => absurd hc24 (by decide))
    refine lv_iconst (v := nI 0) hx hb d_Mod_act_109 (by decide) ?_
    refine lv_istore (lv' := [(6, .int (nI 0)), (5, .int (nI 1)), (4, .int (nI (S.length + 1))), (3, .int (nI S.length)), (0, .ref y0), (1, .int (nI 92)), (2, .int ht)]) hx hb d_Mod_act_110 hl (by decide) rfl (fun ls hl => ?_)
    refine lv_iload hx hb d_Mod_act_112 (lv_at hl 0 rfl) ?_
    refine z_eq C 0 rfl (by omega) d_Mod_act_114 rfl (fun hc25 => ?_) (fun hc25 => absurd hc25 (by omega))
    refine lv_iload hx hb d_Mod_act_145 (lv_at hl 1 rfl) ?_
    refine z_eq C 1 rfl (by omega) d_Mod_act_147 rfl (fun hc26 => absurd hc26 (by omega)) (fun hc26 => ?_)
    refine lv_iload hx hb d_Mod_act_150 (lv_at hl 0 rfl) ?_
    refine z_eq C 0 rfl (by omega) d_Mod_act_152 rfl (fun hc27 => ?_) (fun hc27 => absurd hc27 (by omega))
    refine lv_iconst (v := nI 0) hx hb d_Mod_act_163 (by decide) ?_
    refine lv_istore (lv' := [(7, .int (nI 0)), (6, .int (nI 0)), (5, .int (nI 1)), (4, .int (nI (S.length + 1))), (3, .int (nI S.length)), (0, .ref y0), (1, .int (nI 92)), (2, .int ht)]) hx hb d_Mod_act_164 hl (by decide) rfl (fun ls hl => ?_)
    refine lv_iload hx hb d_Mod_act_166 (lv_at hl 1 rfl) ?_
    refine z_eq C 0 rfl (by omega) d_Mod_act_168 rfl (fun hc28 => ?_) (fun hc28 => absurd hc28 (by omega))
    refine lv_iconst (v := nI 0) hx hb d_Mod_act_180 (by decide) ?_
    refine lv_istore (lv' := [(8, .int (nI 0)), (7, .int (nI 0)), (6, .int (nI 0)), (5, .int (nI 1)), (4, .int (nI (S.length + 1))), (3, .int (nI S.length)), (0, .ref y0), (1, .int (nI 92)), (2, .int ht)]) hx hb d_Mod_act_181 hl (by decide) rfl (fun ls hl => ?_)
    refine lv_iload_n hx hb d_Mod_act_183 rfl (lv_at hl 7 rfl) ?_
    refine lv_tableIn hx hb d_Mod_act_184 (by decide) (by decide) rfl rfl ?_
    refine lv_aload_n hx hb d_Mod_act_632 rfl (lv_at hl 6 rfl) ?_
    refine lv_dup hx hb d_Mod_act_633 rfl ?_
    refine n_get C fg_Mod_66 hP 0 rfl rfl d_Mod_act_634 ?_
    refine lv_iconst (v := nI 2) hx hb d_Mod_act_637 (by decide) ?_
    refine lv_isub hx hb d_Mod_act_638 ?_
    refine tope (z := nI S.length) ((pk_sub (by omega)).trans (congrArg nI (by omega))) ?_
    refine n_put (v := .int (nI S.length)) C fp_Mod_66 hP hD hS 0 rfl (rfl) rfl (Nat.le_of_ble_eq_true rfl) d_Mod_act_639 (fun H locs hP hD hS => ?_)
    have hP : va_P E.1 clz [(y0, .inr (7, [.ref ya, .int (nI nt), .ref yo, .int (nI no), .ref ym, .ref yl, .ref yg, .ref yw, .ref yh, .ref yc, .ref yd, .ref yb, .ref yk, .ref yz, .int (nI S.length), .int (b2 fl), .ref yr])), (yg, .inl (E.2.1, 32, .inl k5)), (yw, .inl (E.2.2.1, 64, .inl k6)), (yh, .inl (E.2.2.1, 8, .inl k7)), (yc, .inl (E.2.1, 32, .inl k8)), (yd, .inl (E.2.1, 32, .inl k9)), (yb, .inl (E.2.1, 512, .inl kb)), (yk, .inl (E.2.1, 1920, .inl f)), (yz, .inl (E.2.2.1, 24, .inl sz))] H := hP
    have hD : va_D A [(y0, .inr (7, [.ref ya, .int (nI nt), .ref yo, .int (nI no), .ref ym, .ref yl, .ref yg, .ref yw, .ref yh, .ref yc, .ref yd, .ref yb, .ref yk, .ref yz, .int (nI S.length), .int (b2 fl), .ref yr])), (yg, .inl (E.2.1, 32, .inl k5)), (yw, .inl (E.2.2.1, 64, .inl k6)), (yh, .inl (E.2.2.1, 8, .inl k7)), (yc, .inl (E.2.1, 32, .inl k8)), (yd, .inl (E.2.1, 32, .inl k9)), (yb, .inl (E.2.1, 512, .inl kb)), (yk, .inl (E.2.1, 1920, .inl f)), (yz, .inl (E.2.2.1, 24, .inl sz))] := hD
    refine lv_aload_n hx hb d_Mod_act_642 rfl (lv_at hl 6 rfl) ?_
    refine lv_aload_n hx hb d_Mod_act_643 rfl (lv_at hl 6 rfl) ?_
    refine lv_iload_n hx hb d_Mod_act_644 rfl (lv_at hl 5 rfl) ?_
    refine cal_I (As := [.int (nI S.length)]) (rest := [.ref y0]) C lk_Mod_93 (c_Mod_isTrue l E y0 ya yo ym yl yg yw yh yc yd yb yk yz yr nt no S.length fl f sz S.length y (by omega) hy1.1 hy1.2.1 hy1.2.2) (by decide) hP hD hS 0 7 rfl rfl [0, 7, 8] rfl (by decide) hl.1 rfl (Nat.le_of_ble_eq_true rfl) d_Mod_act_645 (fun r29 w1 H locs hp30 hP hD hS => ?_)
    obtain ⟨rfl, rfl⟩ := hp30
    have hP : va_P E.1 clz [(y0, .inr (7, [.ref ya, .int (nI nt), .ref yo, .int (nI no), .ref ym, .ref yl, .ref yg, .ref yw, .ref yh, .ref yc, .ref yd, .ref yb, .ref yk, .ref yz, .int (nI S.length), .int (b2 fl), .ref yr])), (yg, .inl (E.2.1, 32, .inl k5)), (yw, .inl (E.2.2.1, 64, .inl k6)), (yh, .inl (E.2.2.1, 8, .inl k7)), (yc, .inl (E.2.1, 32, .inl k8)), (yd, .inl (E.2.1, 32, .inl k9)), (yb, .inl (E.2.1, 512, .inl kb)), (yk, .inl (E.2.1, 1920, .inl f)), (yz, .inl (E.2.2.1, 24, .inl sz))] H := hP
    have hD : va_D A [(y0, .inr (7, [.ref ya, .int (nI nt), .ref yo, .int (nI no), .ref ym, .ref yl, .ref yg, .ref yw, .ref yh, .ref yc, .ref yd, .ref yb, .ref yk, .ref yz, .int (nI S.length), .int (b2 fl), .ref yr])), (yg, .inl (E.2.1, 32, .inl k5)), (yw, .inl (E.2.2.1, 64, .inl k6)), (yh, .inl (E.2.2.1, 8, .inl k7)), (yc, .inl (E.2.1, 32, .inl k8)), (yd, .inl (E.2.1, 32, .inl k9)), (yb, .inl (E.2.1, 512, .inl kb)), (yk, .inl (E.2.1, 1920, .inl f)), (yz, .inl (E.2.2.1, 24, .inl sz))] := hD
    refine zb_eq C (isT y) rfl d_Mod_act_648 rfl (fun hc31 => ?_) (fun hc31 => ?_)
    · refine lv_iconst (v := nI 0) hx hb d_Mod_act_664 (by decide) ?_
      refine cal_I (As := [.int (nI 0)]) (rest := []) C lk_Mod_89 (c_Mod_pushNumber l E y0 ya yo ym yl yg yw yh yc yd yb yk yz yr nt no fl f sz k8 S (nI 0) hr0 hB (by first | omega | (simp only [List.length_cons]; omega) | (rw [List.length_drop]; omega))) (by decide) hP hD hS 0 7 rfl rfl [0, 7, 8, 4] rfl (by decide) hl.1 rfl (Nat.le_of_ble_eq_true rfl) d_Mod_act_665 (fun r37 w1 H locs hp38 hP hD hS => ?_)
      obtain ⟨rfl, fq32, zq33, cq34, rfl, hrq35, hbq36⟩ := hp38
      have hP : va_P E.1 clz [(y0, .inr (7, [.ref ya, .int (nI nt), .ref yo, .int (nI no), .ref ym, .ref yl, .ref yg, .ref yw, .ref yh, .ref yc, .ref yd, .ref yb, .ref yk, .ref yz, .int (nI (S.length + 1)), .int (b2 fl), .ref yr])), (yg, .inl (E.2.1, 32, .inl k5)), (yw, .inl (E.2.2.1, 64, .inl k6)), (yh, .inl (E.2.2.1, 8, .inl k7)), (yc, .inl (E.2.1, 32, .inl cq34)), (yd, .inl (E.2.1, 32, .inl k9)), (yb, .inl (E.2.1, 512, .inl kb)), (yk, .inl (E.2.1, 1920, .inl fq32)), (yz, .inl (E.2.2.1, 24, .inl zq33))] H := hP
      have hD : va_D A [(y0, .inr (7, [.ref ya, .int (nI nt), .ref yo, .int (nI no), .ref ym, .ref yl, .ref yg, .ref yw, .ref yh, .ref yc, .ref yd, .ref yb, .ref yk, .ref yz, .int (nI (S.length + 1)), .int (b2 fl), .ref yr])), (yg, .inl (E.2.1, 32, .inl k5)), (yw, .inl (E.2.2.1, 64, .inl k6)), (yh, .inl (E.2.2.1, 8, .inl k7)), (yc, .inl (E.2.1, 32, .inl cq34)), (yd, .inl (E.2.1, 32, .inl k9)), (yb, .inl (E.2.1, 512, .inl kb)), (yk, .inl (E.2.1, 1920, .inl fq32)), (yz, .inl (E.2.2.1, 24, .inl zq33))] := hD
      exact kret (b2 true) [(y0, .inr (7, [.ref ya, .int (nI nt), .ref yo, .int (nI no), .ref ym, .ref yl, .ref yg, .ref yw, .ref yh, .ref yc, .ref yd, .ref yb, .ref yk, .ref yz, .int (nI (S.length + 1)), .int (b2 fl), .ref yr])), (yg, .inl (E.2.1, 32, .inl k5)), (yw, .inl (E.2.2.1, 64, .inl k6)), (yh, .inl (E.2.2.1, 8, .inl k7)), (yc, .inl (E.2.1, 32, .inl cq34)), (yd, .inl (E.2.1, 32, .inl k9)), (yb, .inl (E.2.1, 512, .inl kb)), (yk, .inl (E.2.1, 1920, .inl fq32)), (yz, .inl (E.2.2.1, 24, .inl zq33))] _ _ _ _ d_Mod_act_668 (⟨_, _, _, _, _, _, _, _, rfl, hbq36, Or.inl ⟨(numB (b2 false) :: S), by show some (numB (b2 (isT y && isT x)) :: S) = _; rw [hc31]; rfl, rfl, by first | rfl | (simp only [List.length_cons]; omega) | (simp only [List.length_cons]), hrq35, by first | (simp only [List.length_cons]; omega) | (simp only [List.length_cons]) | omega⟩⟩) rfl hP hS
    · refine lv_aload_n hx hb d_Mod_act_651 rfl (lv_at hl 6 rfl) ?_
      refine lv_iload hx hb d_Mod_act_652 (lv_at hl 4 rfl) ?_
      refine cal_I (As := [.int (nI (S.length + 1))]) (rest := [.ref y0]) C lk_Mod_93 (c_Mod_isTrue l E y0 ya yo ym yl yg yw yh yc yd yb yk yz yr nt no S.length fl f sz (S.length + 1) x (by omega) hx1.1 hx1.2.1 hx1.2.2) (by decide) hP hD hS 0 7 rfl rfl [0, 7, 8] rfl (by decide) hl.1 rfl (Nat.le_of_ble_eq_true rfl) d_Mod_act_654 (fun r39 w1 H locs hp40 hP hD hS => ?_)
      obtain ⟨rfl, rfl⟩ := hp40
      have hP : va_P E.1 clz [(y0, .inr (7, [.ref ya, .int (nI nt), .ref yo, .int (nI no), .ref ym, .ref yl, .ref yg, .ref yw, .ref yh, .ref yc, .ref yd, .ref yb, .ref yk, .ref yz, .int (nI S.length), .int (b2 fl), .ref yr])), (yg, .inl (E.2.1, 32, .inl k5)), (yw, .inl (E.2.2.1, 64, .inl k6)), (yh, .inl (E.2.2.1, 8, .inl k7)), (yc, .inl (E.2.1, 32, .inl k8)), (yd, .inl (E.2.1, 32, .inl k9)), (yb, .inl (E.2.1, 512, .inl kb)), (yk, .inl (E.2.1, 1920, .inl f)), (yz, .inl (E.2.2.1, 24, .inl sz))] H := hP
      have hD : va_D A [(y0, .inr (7, [.ref ya, .int (nI nt), .ref yo, .int (nI no), .ref ym, .ref yl, .ref yg, .ref yw, .ref yh, .ref yc, .ref yd, .ref yb, .ref yk, .ref yz, .int (nI S.length), .int (b2 fl), .ref yr])), (yg, .inl (E.2.1, 32, .inl k5)), (yw, .inl (E.2.2.1, 64, .inl k6)), (yh, .inl (E.2.2.1, 8, .inl k7)), (yc, .inl (E.2.1, 32, .inl k8)), (yd, .inl (E.2.1, 32, .inl k9)), (yb, .inl (E.2.1, 512, .inl kb)), (yk, .inl (E.2.1, 1920, .inl f)), (yz, .inl (E.2.2.1, 24, .inl sz))] := hD
      refine zb_eq C (isT x) rfl d_Mod_act_657 rfl (fun hc41 => ?_) (fun hc41 => ?_)
      · refine lv_iconst (v := nI 0) hx hb d_Mod_act_664 (by decide) ?_
        refine cal_I (As := [.int (nI 0)]) (rest := []) C lk_Mod_89 (c_Mod_pushNumber l E y0 ya yo ym yl yg yw yh yc yd yb yk yz yr nt no fl f sz k8 S (nI 0) hr0 hB (by first | omega | (simp only [List.length_cons]; omega) | (rw [List.length_drop]; omega))) (by decide) hP hD hS 0 7 rfl rfl [0, 7, 8, 4] rfl (by decide) hl.1 rfl (Nat.le_of_ble_eq_true rfl) d_Mod_act_665 (fun r47 w1 H locs hp48 hP hD hS => ?_)
        obtain ⟨rfl, fq42, zq43, cq44, rfl, hrq45, hbq46⟩ := hp48
        have hP : va_P E.1 clz [(y0, .inr (7, [.ref ya, .int (nI nt), .ref yo, .int (nI no), .ref ym, .ref yl, .ref yg, .ref yw, .ref yh, .ref yc, .ref yd, .ref yb, .ref yk, .ref yz, .int (nI (S.length + 1)), .int (b2 fl), .ref yr])), (yg, .inl (E.2.1, 32, .inl k5)), (yw, .inl (E.2.2.1, 64, .inl k6)), (yh, .inl (E.2.2.1, 8, .inl k7)), (yc, .inl (E.2.1, 32, .inl cq44)), (yd, .inl (E.2.1, 32, .inl k9)), (yb, .inl (E.2.1, 512, .inl kb)), (yk, .inl (E.2.1, 1920, .inl fq42)), (yz, .inl (E.2.2.1, 24, .inl zq43))] H := hP
        have hD : va_D A [(y0, .inr (7, [.ref ya, .int (nI nt), .ref yo, .int (nI no), .ref ym, .ref yl, .ref yg, .ref yw, .ref yh, .ref yc, .ref yd, .ref yb, .ref yk, .ref yz, .int (nI (S.length + 1)), .int (b2 fl), .ref yr])), (yg, .inl (E.2.1, 32, .inl k5)), (yw, .inl (E.2.2.1, 64, .inl k6)), (yh, .inl (E.2.2.1, 8, .inl k7)), (yc, .inl (E.2.1, 32, .inl cq44)), (yd, .inl (E.2.1, 32, .inl k9)), (yb, .inl (E.2.1, 512, .inl kb)), (yk, .inl (E.2.1, 1920, .inl fq42)), (yz, .inl (E.2.2.1, 24, .inl zq43))] := hD
        exact kret (b2 true) [(y0, .inr (7, [.ref ya, .int (nI nt), .ref yo, .int (nI no), .ref ym, .ref yl, .ref yg, .ref yw, .ref yh, .ref yc, .ref yd, .ref yb, .ref yk, .ref yz, .int (nI (S.length + 1)), .int (b2 fl), .ref yr])), (yg, .inl (E.2.1, 32, .inl k5)), (yw, .inl (E.2.2.1, 64, .inl k6)), (yh, .inl (E.2.2.1, 8, .inl k7)), (yc, .inl (E.2.1, 32, .inl cq44)), (yd, .inl (E.2.1, 32, .inl k9)), (yb, .inl (E.2.1, 512, .inl kb)), (yk, .inl (E.2.1, 1920, .inl fq42)), (yz, .inl (E.2.2.1, 24, .inl zq43))] _ _ _ _ d_Mod_act_668 (⟨_, _, _, _, _, _, _, _, rfl, hbq46, Or.inl ⟨(numB (b2 false) :: S), by show some (numB (b2 (isT y && isT x)) :: S) = _; rw [hc31, hc41]; rfl, rfl, by first | rfl | (simp only [List.length_cons]; omega) | (simp only [List.length_cons]), hrq45, by first | (simp only [List.length_cons]; omega) | (simp only [List.length_cons]) | omega⟩⟩) rfl hP hS
      · refine lv_iconst (v := nI 1) hx hb d_Mod_act_660 (by decide) ?_
        refine lv_goto hx hb d_Mod_act_661 rfl ?_
        refine cal_I (As := [.int (nI 1)]) (rest := []) C lk_Mod_89 (c_Mod_pushNumber l E y0 ya yo ym yl yg yw yh yc yd yb yk yz yr nt no fl f sz k8 S (nI 1) hr0 hB (by first | omega | (simp only [List.length_cons]; omega) | (rw [List.length_drop]; omega))) (by decide) hP hD hS 0 7 rfl rfl [0, 7, 8, 4] rfl (by decide) hl.1 rfl (Nat.le_of_ble_eq_true rfl) d_Mod_act_665 (fun r54 w1 H locs hp55 hP hD hS => ?_)
        obtain ⟨rfl, fq49, zq50, cq51, rfl, hrq52, hbq53⟩ := hp55
        have hP : va_P E.1 clz [(y0, .inr (7, [.ref ya, .int (nI nt), .ref yo, .int (nI no), .ref ym, .ref yl, .ref yg, .ref yw, .ref yh, .ref yc, .ref yd, .ref yb, .ref yk, .ref yz, .int (nI (S.length + 1)), .int (b2 fl), .ref yr])), (yg, .inl (E.2.1, 32, .inl k5)), (yw, .inl (E.2.2.1, 64, .inl k6)), (yh, .inl (E.2.2.1, 8, .inl k7)), (yc, .inl (E.2.1, 32, .inl cq51)), (yd, .inl (E.2.1, 32, .inl k9)), (yb, .inl (E.2.1, 512, .inl kb)), (yk, .inl (E.2.1, 1920, .inl fq49)), (yz, .inl (E.2.2.1, 24, .inl zq50))] H := hP
        have hD : va_D A [(y0, .inr (7, [.ref ya, .int (nI nt), .ref yo, .int (nI no), .ref ym, .ref yl, .ref yg, .ref yw, .ref yh, .ref yc, .ref yd, .ref yb, .ref yk, .ref yz, .int (nI (S.length + 1)), .int (b2 fl), .ref yr])), (yg, .inl (E.2.1, 32, .inl k5)), (yw, .inl (E.2.2.1, 64, .inl k6)), (yh, .inl (E.2.2.1, 8, .inl k7)), (yc, .inl (E.2.1, 32, .inl cq51)), (yd, .inl (E.2.1, 32, .inl k9)), (yb, .inl (E.2.1, 512, .inl kb)), (yk, .inl (E.2.1, 1920, .inl fq49)), (yz, .inl (E.2.2.1, 24, .inl zq50))] := hD
        exact kret (b2 true) [(y0, .inr (7, [.ref ya, .int (nI nt), .ref yo, .int (nI no), .ref ym, .ref yl, .ref yg, .ref yw, .ref yh, .ref yc, .ref yd, .ref yb, .ref yk, .ref yz, .int (nI (S.length + 1)), .int (b2 fl), .ref yr])), (yg, .inl (E.2.1, 32, .inl k5)), (yw, .inl (E.2.2.1, 64, .inl k6)), (yh, .inl (E.2.2.1, 8, .inl k7)), (yc, .inl (E.2.1, 32, .inl cq51)), (yd, .inl (E.2.1, 32, .inl k9)), (yb, .inl (E.2.1, 512, .inl kb)), (yk, .inl (E.2.1, 1920, .inl fq49)), (yz, .inl (E.2.2.1, 24, .inl zq50))] _ _ _ _ d_Mod_act_668 (⟨_, _, _, _, _, _, _, _, rfl, hbq53, Or.inl ⟨(numB (b2 true) :: S), by show some (numB (b2 (isT y && isT x)) :: S) = _; rw [hc31, hc41]; rfl, rfl, by first | rfl | (simp only [List.length_cons]; omega) | (simp only [List.length_cons]), hrq52, by first | (simp only [List.length_cons]; omega) | (simp only [List.length_cons]) | omega⟩⟩) rfl hP hS

set_option maxHeartbeats 4000000 in
set_option maxRecDepth 100000 in
theorem c_act_93 (l : Launch) (E : En) (y0 ya yo ym yl yg yw yh yc yd yb yk yz yr nt no : Nat) (fl : Bool) (k5 k6 k7 k8 k9 kb f sz : Nat → Int32) (S : Stk) (msg : Byl) (hrep : rep f sz S) (hB : fB f) (hB5 : fB k5) (hlen : S.length ≤ 24) (hm : lay k5 0 msg) (hm32 : msg.length = 32) (ht : Int32) : CtI l y_Mod_act b_Mod_act 11 .boolean (rmd 4) E [.ref y0, .int (nI 93), .int ht] [(y0, .inr (7, [.ref ya, .int (nI nt), .ref yo, .int (nI no), .ref ym, .ref yl, .ref yg, .ref yw, .ref yh, .ref yc, .ref yd, .ref yb, .ref yk, .ref yz, .int (nI S.length), .int (b2 fl), .ref yr])), (yg, .inl (E.2.1, 32, .inl k5)), (yw, .inl (E.2.2.1, 64, .inl k6)), (yh, .inl (E.2.2.1, 8, .inl k7)), (yc, .inl (E.2.1, 32, .inl k8)), (yd, .inl (E.2.1, 32, .inl k9)), (yb, .inl (E.2.1, 512, .inl kb)), (yk, .inl (E.2.1, 1920, .inl f)), (yz, .inl (E.2.2.1, 24, .inl sz))] (stepM E y0 ya yo ym yl yg yw yh yc yd yb yk yz yr nt no fl k5 (actS 93 ht msg S)) := by
  refine CtI.of (by decide) (Nat.le_of_ble_eq_true rfl) (stepM_nar) ?_
  intro p e s m args below meth c A Q H locs ls C hP hD hS hl kret
  have hx := C.1
  have hb := C.2.1
  have hl : lv_has ls 11 [(0, .ref y0), (1, .int (nI 93)), (2, .int ht)] := hl
  rcases S with _ | ⟨x, S⟩
  · have hP : va_P E.1 clz [(y0, .inr (7, [.ref ya, .int (nI nt), .ref yo, .int (nI no), .ref ym, .ref yl, .ref yg, .ref yw, .ref yh, .ref yc, .ref yd, .ref yb, .ref yk, .ref yz, .int (nI 0), .int (b2 fl), .ref yr])), (yg, .inl (E.2.1, 32, .inl k5)), (yw, .inl (E.2.2.1, 64, .inl k6)), (yh, .inl (E.2.2.1, 8, .inl k7)), (yc, .inl (E.2.1, 32, .inl k8)), (yd, .inl (E.2.1, 32, .inl k9)), (yb, .inl (E.2.1, 512, .inl kb)), (yk, .inl (E.2.1, 1920, .inl f)), (yz, .inl (E.2.2.1, 24, .inl sz))] H := hP
    have hD : va_D A [(y0, .inr (7, [.ref ya, .int (nI nt), .ref yo, .int (nI no), .ref ym, .ref yl, .ref yg, .ref yw, .ref yh, .ref yc, .ref yd, .ref yb, .ref yk, .ref yz, .int (nI 0), .int (b2 fl), .ref yr])), (yg, .inl (E.2.1, 32, .inl k5)), (yw, .inl (E.2.2.1, 64, .inl k6)), (yh, .inl (E.2.2.1, 8, .inl k7)), (yc, .inl (E.2.1, 32, .inl k8)), (yd, .inl (E.2.1, 32, .inl k9)), (yb, .inl (E.2.1, 512, .inl kb)), (yk, .inl (E.2.1, 1920, .inl f)), (yz, .inl (E.2.2.1, 24, .inl sz))] := hD
    refine lv_aload_n hx hb d_Mod_act_0 rfl (lv_at hl 0 rfl) ?_
    refine n_get C fg_Mod_66 hP 0 rfl rfl d_Mod_act_1 ?_
    refine lv_iconst (v := nI 2) hx hb d_Mod_act_4 (by decide) ?_
    refine lv_isub hx hb d_Mod_act_5 ?_
    refine tope (z := (-2)) (by decide) ?_
    refine lv_istore_n (lv' := [(3, .int (-2)), (0, .ref y0), (1, .int (nI 93)), (2, .int ht)]) hx hb d_Mod_act_6 rfl hl (by decide) rfl (fun ls hl => ?_)
    refine lv_aload_n hx hb d_Mod_act_7 rfl (lv_at hl 1 rfl) ?_
    refine n_get C fg_Mod_66 hP 0 rfl rfl d_Mod_act_8 ?_
    refine lv_iconst (v := nI 1) hx hb d_Mod_act_11 (by decide) ?_
    refine lv_isub hx hb d_Mod_act_12 ?_
    refine tope (z := (-1)) (by decide) ?_
    refine lv_istore (lv' := [(4, .int (-1)), (3, .int (-2)), (0, .ref y0), (1, .int (nI 93)), (2, .int ht)]) hx hb d_Mod_act_13 hl (by decide) rfl (fun ls hl => ?_)
    refine lv_iload_n hx hb d_Mod_act_15 rfl (lv_at hl 3 rfl) ?_
    refine lv_bipush (v := nI 82) hx hb d_Mod_act_16 (by decide) ?_
    refine j_eq C 93 82 rfl rfl (by decide) (by decide) d_Mod_act_18 rfl (fun hc1 => absurd hc1 (by decide)) (fun hc1 => ?_)
    refine lv_iload_n hx hb d_Mod_act_21 rfl (lv_at hl 3 rfl) ?_
    refine lv_bipush (v := nI 83) hx hb d_Mod_act_22 (by decide) ?_
    refine j_eq C 93 83 rfl rfl (by decide) (by decide) d_Mod_act_24 rfl (fun hc2 => absurd hc2 (by decide)) (fun hc2 => ?_)
    refine lv_iload_n hx hb d_Mod_act_27 rfl (lv_at hl 3 rfl) ?_
    refine lv_bipush (v := nI 86) hx hb d_Mod_act_28 (by decide) ?_
    refine j_eq C 93 86 rfl rfl (by decide) (by decide) d_Mod_act_30 rfl (fun hc3 => absurd hc3 (by decide)) (fun hc3 => ?_)
    refine lv_iload_n hx hb d_Mod_act_33 rfl (lv_at hl 3 rfl) ?_
    refine lv_bipush (v := nI 89) hx hb d_Mod_act_34 (by decide) ?_
    refine j_lt C 93 89 rfl rfl (by decide) (by decide) d_Mod_act_36 rfl (fun hc4 => absurd hc4 (by decide)) (fun hc4 => ?_)
    refine lv_iload_n hx hb d_Mod_act_39 rfl (lv_at hl 3 rfl) ?_
    refine lv_bipush (v := nI 92) hx hb d_Mod_act_40 (by decide) ?_
    refine j_le C 93 92 rfl rfl (by decide) (by decide) d_Mod_act_42 rfl (fun hc5 => absurd hc5 (by decide)) (fun hc5 => ?_)
    refine lv_iload_n hx hb d_Mod_act_45 rfl (lv_at hl 3 rfl) ?_
    refine lv_bipush (v := nI 95) hx hb d_Mod_act_46 (by decide) ?_
    refine j_ne C 93 95 rfl rfl (by decide) (by decide) d_Mod_act_48 rfl (fun hc6 => ?_) (fun hc6 => absurd hc6 (by decide))
    refine lv_iconst (v := nI 0) hx hb d_Mod_act_55 (by decide) ?_
    refine lv_istore (lv' := [(5, .int (nI 0)), (4, .int (-1)), (3, .int (-2)), (0, .ref y0), (1, .int (nI 93)), (2, .int ht)]) hx hb d_Mod_act_56 hl (by decide) rfl (fun ls hl => ?_)
    refine lv_aload_n hx hb d_Mod_act_58 rfl (lv_at hl 3 rfl) ?_
    refine n_get C fg_Mod_66 hP 0 rfl rfl d_Mod_act_59 ?_
    refine lv_iload hx hb d_Mod_act_62 (lv_at hl 0 rfl) ?_
    refine z_eq C 0 rfl (by omega) d_Mod_act_64 rfl (fun hc7 => ?_) (fun hc7 => absurd hc7 (by omega))
    refine lv_iload_n hx hb d_Mod_act_71 rfl (lv_at hl 4 rfl) ?_
    refine lv_bipush (v := nI 102) hx hb d_Mod_act_72 (by decide) ?_
    refine j_ne C 93 102 rfl rfl (by decide) (by decide) d_Mod_act_74 rfl (fun hc8 => ?_) (fun hc8 => absurd hc8 (by decide))
    refine lv_iconst (v := nI 1) hx hb d_Mod_act_81 (by decide) ?_
    refine j_ge C 0 1 rfl rfl (by decide) (by decide) d_Mod_act_82 rfl (fun hc9 => absurd hc9 (by decide)) (fun hc9 => ?_)
    refine lv_iconst (v := nI 0) hx hb d_Mod_act_85 (by decide) ?_
    exact kret (nI 0) [(y0, .inr (7, [.ref ya, .int (nI nt), .ref yo, .int (nI no), .ref ym, .ref yl, .ref yg, .ref yw, .ref yh, .ref yc, .ref yd, .ref yb, .ref yk, .ref yz, .int (nI 0), .int (b2 fl), .ref yr])), (yg, .inl (E.2.1, 32, .inl k5)), (yw, .inl (E.2.2.1, 64, .inl k6)), (yh, .inl (E.2.2.1, 8, .inl k7)), (yc, .inl (E.2.1, 32, .inl k8)), (yd, .inl (E.2.1, 32, .inl k9)), (yb, .inl (E.2.1, 512, .inl kb)), (yk, .inl (E.2.1, 1920, .inl f)), (yz, .inl (E.2.2.1, 24, .inl sz))] _ _ _ _ d_Mod_act_86 (⟨_, _, _, _, _, _, _, _, rfl, hB, Or.inr ⟨rfl, rfl⟩⟩) rfl hP hS
  · have hx1 : sz S.length = nI x.length ∧ x.length ≤ 80 ∧ lay f (S.length * 80) x := rep_top hrep
    have hr0 : rep f sz S := rep_tail hrep
    have hlen : S.length + 1 ≤ 24 := hlen
    have hP : va_P E.1 clz [(y0, .inr (7, [.ref ya, .int (nI nt), .ref yo, .int (nI no), .ref ym, .ref yl, .ref yg, .ref yw, .ref yh, .ref yc, .ref yd, .ref yb, .ref yk, .ref yz, .int (nI (S.length + 1)), .int (b2 fl), .ref yr])), (yg, .inl (E.2.1, 32, .inl k5)), (yw, .inl (E.2.2.1, 64, .inl k6)), (yh, .inl (E.2.2.1, 8, .inl k7)), (yc, .inl (E.2.1, 32, .inl k8)), (yd, .inl (E.2.1, 32, .inl k9)), (yb, .inl (E.2.1, 512, .inl kb)), (yk, .inl (E.2.1, 1920, .inl f)), (yz, .inl (E.2.2.1, 24, .inl sz))] H := hP
    have hD : va_D A [(y0, .inr (7, [.ref ya, .int (nI nt), .ref yo, .int (nI no), .ref ym, .ref yl, .ref yg, .ref yw, .ref yh, .ref yc, .ref yd, .ref yb, .ref yk, .ref yz, .int (nI (S.length + 1)), .int (b2 fl), .ref yr])), (yg, .inl (E.2.1, 32, .inl k5)), (yw, .inl (E.2.2.1, 64, .inl k6)), (yh, .inl (E.2.2.1, 8, .inl k7)), (yc, .inl (E.2.1, 32, .inl k8)), (yd, .inl (E.2.1, 32, .inl k9)), (yb, .inl (E.2.1, 512, .inl kb)), (yk, .inl (E.2.1, 1920, .inl f)), (yz, .inl (E.2.2.1, 24, .inl sz))] := hD
    refine lv_aload_n hx hb d_Mod_act_0 rfl (lv_at hl 0 rfl) ?_
    refine n_get C fg_Mod_66 hP 0 rfl rfl d_Mod_act_1 ?_
    refine lv_iconst (v := nI 2) hx hb d_Mod_act_4 (by decide) ?_
    refine lv_isub hx hb d_Mod_act_5 ?_
    refine lv_istore_n (lv' := [(3, .int ((nI (S.length + 1)) - (nI 2))), (0, .ref y0), (1, .int (nI 93)), (2, .int ht)]) hx hb d_Mod_act_6 rfl hl (by decide) rfl (fun ls hl => ?_)
    refine lv_aload_n hx hb d_Mod_act_7 rfl (lv_at hl 1 rfl) ?_
    refine n_get C fg_Mod_66 hP 0 rfl rfl d_Mod_act_8 ?_
    refine lv_iconst (v := nI 1) hx hb d_Mod_act_11 (by decide) ?_
    refine lv_isub hx hb d_Mod_act_12 ?_
    refine tope (z := nI S.length) ((pk_sub (by omega)).trans (congrArg nI (by omega))) ?_
    refine lv_istore (lv' := [(4, .int (nI S.length)), (3, .int ((nI (S.length + 1)) - (nI 2))), (0, .ref y0), (1, .int (nI 93)), (2, .int ht)]) hx hb d_Mod_act_13 hl (by decide) rfl (fun ls hl => ?_)
    refine lv_iload_n hx hb d_Mod_act_15 rfl (lv_at hl 3 rfl) ?_
    refine lv_bipush (v := nI 82) hx hb d_Mod_act_16 (by decide) ?_
    refine j_eq C 93 82 rfl rfl (by decide) (by decide) d_Mod_act_18 rfl (fun hc10 => absurd hc10 (by decide)) (fun hc10 => ?_)
    refine lv_iload_n hx hb d_Mod_act_21 rfl (lv_at hl 3 rfl) ?_
    refine lv_bipush (v := nI 83) hx hb d_Mod_act_22 (by decide) ?_
    refine j_eq C 93 83 rfl rfl (by decide) (by decide) d_Mod_act_24 rfl (fun hc11 => absurd hc11 (by decide)) (fun hc11 => ?_)
    refine lv_iload_n hx hb d_Mod_act_27 rfl (lv_at hl 3 rfl) ?_
    refine lv_bipush (v := nI 86) hx hb d_Mod_act_28 (by decide) ?_
    refine j_eq C 93 86 rfl rfl (by decide) (by decide) d_Mod_act_30 rfl (fun hc12 => absurd hc12 (by decide)) (fun hc12 => ?_)
    refine lv_iload_n hx hb d_Mod_act_33 rfl (lv_at hl 3 rfl) ?_
    refine lv_bipush (v := nI 89) hx hb d_Mod_act_34 (by decide) ?_
    refine j_lt C 93 89 rfl rfl (by decide) (by decide) d_Mod_act_36 rfl (fun hc13 => absurd hc13 (by decide)) (fun hc13 => ?_)
    refine lv_iload_n hx hb d_Mod_act_39 rfl (lv_at hl 3 rfl) ?_
    refine lv_bipush (v := nI 92) hx hb d_Mod_act_40 (by decide) ?_
    refine j_le C 93 92 rfl rfl (by decide) (by decide) d_Mod_act_42 rfl (fun hc14 => absurd hc14 (by decide)) (fun hc14 => ?_)
    refine lv_iload_n hx hb d_Mod_act_45 rfl (lv_at hl 3 rfl) ?_
    refine lv_bipush (v := nI 95) hx hb d_Mod_act_46 (by decide) ?_
    refine j_ne C 93 95 rfl rfl (by decide) (by decide) d_Mod_act_48 rfl (fun hc15 => ?_) (fun hc15 => absurd hc15 (by decide))
    refine lv_iconst (v := nI 0) hx hb d_Mod_act_55 (by decide) ?_
    refine lv_istore (lv' := [(5, .int (nI 0)), (4, .int (nI S.length)), (3, .int ((nI (S.length + 1)) - (nI 2))), (0, .ref y0), (1, .int (nI 93)), (2, .int ht)]) hx hb d_Mod_act_56 hl (by decide) rfl (fun ls hl => ?_)
    refine lv_aload_n hx hb d_Mod_act_58 rfl (lv_at hl 3 rfl) ?_
    refine n_get C fg_Mod_66 hP 0 rfl rfl d_Mod_act_59 ?_
    refine lv_iload hx hb d_Mod_act_62 (lv_at hl 0 rfl) ?_
    refine z_eq C 0 rfl (by omega) d_Mod_act_64 rfl (fun hc16 => ?_) (fun hc16 => absurd hc16 (by omega))
    refine lv_iload_n hx hb d_Mod_act_71 rfl (lv_at hl 4 rfl) ?_
    refine lv_bipush (v := nI 102) hx hb d_Mod_act_72 (by decide) ?_
    refine j_ne C 93 102 rfl rfl (by decide) (by decide) d_Mod_act_74 rfl (fun hc17 => ?_) (fun hc17 => absurd hc17 (by decide))
    refine lv_iconst (v := nI 1) hx hb d_Mod_act_81 (by decide) ?_
    refine j_ge C (S.length + 1) 1 rfl rfl (by omega) (by omega) d_Mod_act_82 rfl (fun hc18 => ?_) (fun hc18 => absurd hc18 (by omega))
    refine lv_iload_n hx hb d_Mod_act_87 rfl (lv_at hl 4 rfl) ?_
    refine lv_bipush (v := nI 88) hx hb d_Mod_act_88 (by decide) ?_
    refine j_lt C 93 88 rfl rfl (by decide) (by decide) d_Mod_act_90 rfl (fun hc19 => absurd hc19 (by decide)) (fun hc19 => ?_)
    refine lv_iload_n hx hb d_Mod_act_93 rfl (lv_at hl 4 rfl) ?_
    refine lv_bipush (v := nI 91) hx hb d_Mod_act_94 (by decide) ?_
    refine j_le C 93 91 rfl rfl (by decide) (by decide) d_Mod_act_96 rfl (fun hc20 => absurd hc20 (by decide)) (fun hc20 => ?_)
    refine lv_iload_n hx hb d_Mod_act_99 rfl (lv_at hl 4 rfl) ?_
    refine lv_bipush (v := nI 96) hx hb d_Mod_act_100 (by decide) ?_
    refine j_ne C 93 96 rfl rfl (by decide) (by decide) d_Mod_act_102 rfl (fun hc21 => ?_) (fun hc21 => absurd hc21 (by decide))
    refine lv_iconst (v := nI 0) hx hb d_Mod_act_109 (by decide) ?_
    refine lv_istore (lv' := [(6, .int (nI 0)), (5, .int (nI 0)), (4, .int (nI S.length)), (3, .int ((nI (S.length + 1)) - (nI 2))), (0, .ref y0), (1, .int (nI 93)), (2, .int ht)]) hx hb d_Mod_act_110 hl (by decide) rfl (fun ls hl => ?_)
    refine lv_iload hx hb d_Mod_act_112 (lv_at hl 0 rfl) ?_
    refine z_eq C 0 rfl (by omega) d_Mod_act_114 rfl (fun hc22 => ?_) (fun hc22 => absurd hc22 (by omega))
    refine lv_iload hx hb d_Mod_act_145 (lv_at hl 1 rfl) ?_
    refine z_eq C 0 rfl (by omega) d_Mod_act_147 rfl (fun hc23 => ?_) (fun hc23 => absurd hc23 (by omega))
    refine lv_iconst (v := nI 0) hx hb d_Mod_act_163 (by decide) ?_
    refine lv_istore (lv' := [(7, .int (nI 0)), (6, .int (nI 0)), (5, .int (nI 0)), (4, .int (nI S.length)), (3, .int ((nI (S.length + 1)) - (nI 2))), (0, .ref y0), (1, .int (nI 93)), (2, .int ht)]) hx hb d_Mod_act_164 hl (by decide) rfl (fun ls hl => ?_)
    refine lv_iload hx hb d_Mod_act_166 (lv_at hl 1 rfl) ?_
    refine z_eq C 0 rfl (by omega) d_Mod_act_168 rfl (fun hc24 => ?_) (fun hc24 => absurd hc24 (by omega))
    refine lv_iconst (v := nI 0) hx hb d_Mod_act_180 (by decide) ?_
    refine lv_istore (lv' := [(8, .int (nI 0)), (7, .int (nI 0)), (6, .int (nI 0)), (5, .int (nI 0)), (4, .int (nI S.length)), (3, .int ((nI (S.length + 1)) - (nI 2))), (0, .ref y0), (1, .int (nI 93)), (2, .int ht)]) hx hb d_Mod_act_181 hl (by decide) rfl (fun ls hl => ?_)
    refine lv_iload_n hx hb d_Mod_act_183 rfl (lv_at hl 7 rfl) ?_
    refine lv_tableIn hx hb d_Mod_act_184 (by decide) (by decide) rfl rfl ?_
    refine lv_aload_n hx hb d_Mod_act_669 rfl (lv_at hl 6 rfl) ?_
    refine lv_aload_n hx hb d_Mod_act_670 rfl (lv_at hl 6 rfl) ?_
    refine n_get C fg_Mod_41 hP 0 rfl rfl d_Mod_act_671 ?_
    refine lv_bipush (v := nI 80) hx hb d_Mod_act_674 (by decide) ?_
    refine lv_iload hx hb d_Mod_act_676 (lv_at hl 4 rfl) ?_
    refine lv_imul hx hb d_Mod_act_678 ?_
    refine tope (z := nI (S.length * 80)) ((pk_mul _ _).trans (congrArg nI (Nat.mul_comm _ _))) ?_
    refine lv_aload_n hx hb d_Mod_act_679 rfl (lv_at hl 6 rfl) ?_
    refine n_get C fg_Mod_44 hP 0 rfl rfl d_Mod_act_680 ?_
    refine lv_iload hx hb d_Mod_act_683 (lv_at hl 4 rfl) ?_
    refine n_iald C hP 8 rfl S.length rfl (by omega) (by omega) d_Mod_act_685 ?_
    refine tope (z := nI x.length) (hx1.1) ?_
    refine lv_aload_n hx hb d_Mod_act_686 rfl (lv_at hl 6 rfl) ?_
    refine n_get C fg_Mod_35 hP 0 rfl rfl d_Mod_act_687 ?_
    refine lv_iconst (v := nI 0) hx hb d_Mod_act_690 (by decide) ?_
    refine cal_V (As := [.ref yk, .int (nI (S.length * 80)), .int (nI x.length), .ref yd, .int (nI 0)]) (rest := []) C lk_Mod_62 (c_Mod_sha l E y0 ya yo ym yl yg yw yh yc yd yb yk yz yr nt no (S.length + 1) fl yk 1920 (S.length * 80) x.length 0 yd 32 k6 k7 f k9 (by omega) (by omega) (by omega) (by omega)) (by decide) hP hD hS 0 7 rfl rfl [0, 2, 3, 7, 5] rfl (by decide) hl.1 rfl (Nat.le_of_ble_eq_true rfl) d_Mod_act_691 (fun w1 H locs hp28 hP hD hS => ?_)
    obtain ⟨wz25, hz26, rfl⟩ := hp28
    have hP : va_P E.1 clz [(y0, .inr (7, [.ref ya, .int (nI nt), .ref yo, .int (nI no), .ref ym, .ref yl, .ref yg, .ref yw, .ref yh, .ref yc, .ref yd, .ref yb, .ref yk, .ref yz, .int (nI (S.length + 1)), .int (b2 fl), .ref yr])), (yg, .inl (E.2.1, 32, .inl k5)), (yw, .inl (E.2.2.1, 64, .inl wz25)), (yh, .inl (E.2.2.1, 8, .inl hz26)), (yc, .inl (E.2.1, 32, .inl k8)), (yd, .inl (E.2.1, 32, .inl (va_cpy (shaF (fun q => f ((S.length * 80) + q)) x.length) k9 0 0 32))), (yb, .inl (E.2.1, 512, .inl kb)), (yk, .inl (E.2.1, 1920, .inl f)), (yz, .inl (E.2.2.1, 24, .inl sz))] H := hP
    have hD : va_D A [(y0, .inr (7, [.ref ya, .int (nI nt), .ref yo, .int (nI no), .ref ym, .ref yl, .ref yg, .ref yw, .ref yh, .ref yc, .ref yd, .ref yb, .ref yk, .ref yz, .int (nI (S.length + 1)), .int (b2 fl), .ref yr])), (yg, .inl (E.2.1, 32, .inl k5)), (yw, .inl (E.2.2.1, 64, .inl wz25)), (yh, .inl (E.2.2.1, 8, .inl hz26)), (yc, .inl (E.2.1, 32, .inl k8)), (yd, .inl (E.2.1, 32, .inl (va_cpy (shaF (fun q => f ((S.length * 80) + q)) x.length) k9 0 0 32))), (yb, .inl (E.2.1, 512, .inl kb)), (yk, .inl (E.2.1, 1920, .inl f)), (yz, .inl (E.2.2.1, 24, .inl sz))] := hD
    refine lv_aload_n hx hb d_Mod_act_694 rfl (lv_at hl 6 rfl) ?_
    refine lv_dup hx hb d_Mod_act_695 rfl ?_
    refine n_get C fg_Mod_66 hP 0 rfl rfl d_Mod_act_696 ?_
    refine lv_iconst (v := nI 1) hx hb d_Mod_act_699 (by decide) ?_
    refine lv_isub hx hb d_Mod_act_700 ?_
    refine tope (z := nI S.length) ((pk_sub (by omega)).trans (congrArg nI (by omega))) ?_
    refine n_put (v := .int (nI S.length)) C fp_Mod_66 hP hD hS 0 rfl (rfl) rfl (Nat.le_of_ble_eq_true rfl) d_Mod_act_701 (fun H locs hP hD hS => ?_)
    have hP : va_P E.1 clz [(y0, .inr (7, [.ref ya, .int (nI nt), .ref yo, .int (nI no), .ref ym, .ref yl, .ref yg, .ref yw, .ref yh, .ref yc, .ref yd, .ref yb, .ref yk, .ref yz, .int (nI S.length), .int (b2 fl), .ref yr])), (yg, .inl (E.2.1, 32, .inl k5)), (yw, .inl (E.2.2.1, 64, .inl wz25)), (yh, .inl (E.2.2.1, 8, .inl hz26)), (yc, .inl (E.2.1, 32, .inl k8)), (yd, .inl (E.2.1, 32, .inl (va_cpy (shaF (fun q => f ((S.length * 80) + q)) x.length) k9 0 0 32))), (yb, .inl (E.2.1, 512, .inl kb)), (yk, .inl (E.2.1, 1920, .inl f)), (yz, .inl (E.2.2.1, 24, .inl sz))] H := hP
    have hD : va_D A [(y0, .inr (7, [.ref ya, .int (nI nt), .ref yo, .int (nI no), .ref ym, .ref yl, .ref yg, .ref yw, .ref yh, .ref yc, .ref yd, .ref yb, .ref yk, .ref yz, .int (nI S.length), .int (b2 fl), .ref yr])), (yg, .inl (E.2.1, 32, .inl k5)), (yw, .inl (E.2.2.1, 64, .inl wz25)), (yh, .inl (E.2.2.1, 8, .inl hz26)), (yc, .inl (E.2.1, 32, .inl k8)), (yd, .inl (E.2.1, 32, .inl (va_cpy (shaF (fun q => f ((S.length * 80) + q)) x.length) k9 0 0 32))), (yb, .inl (E.2.1, 512, .inl kb)), (yk, .inl (E.2.1, 1920, .inl f)), (yz, .inl (E.2.2.1, 24, .inl sz))] := hD
    refine lv_aload_n hx hb d_Mod_act_704 rfl (lv_at hl 6 rfl) ?_
    refine lv_aload_n hx hb d_Mod_act_705 rfl (lv_at hl 6 rfl) ?_
    refine n_get C fg_Mod_35 hP 0 rfl rfl d_Mod_act_706 ?_
    refine lv_iconst (v := nI 0) hx hb d_Mod_act_709 (by decide) ?_
    refine lv_bipush (v := nI 32) hx hb d_Mod_act_710 (by decide) ?_
    refine cal_I (As := [.ref yd, .int (nI 0), .int (nI 32)]) (rest := []) C lk_Mod_70 (c_Mod_push l E y0 ya yo ym yl yg yw yh yc yd yb yk yz yr nt no S.length fl 0 32 yd 32 f sz (va_cpy (shaF (fun q => f ((S.length * 80) + q)) x.length) k9 0 0 32) (by omega) (by omega) (by omega) (fun q hq => by rw [pk_cpy_in (by omega) (by omega)]; exact shaF_B _ _ _) (by omega)) (by decide) hP hD hS 0 7 rfl rfl [0, 7, 8, 5] rfl (by decide) hl.1 rfl (Nat.le_of_ble_eq_true rfl) d_Mod_act_712 (fun r29 w1 H locs hp30 hP hD hS => ?_)
    obtain ⟨rfl, rfl⟩ := hp30
    have hP : va_P E.1 clz [(y0, .inr (7, [.ref ya, .int (nI nt), .ref yo, .int (nI no), .ref ym, .ref yl, .ref yg, .ref yw, .ref yh, .ref yc, .ref yd, .ref yb, .ref yk, .ref yz, .int (nI (S.length + 1)), .int (b2 fl), .ref yr])), (yg, .inl (E.2.1, 32, .inl k5)), (yw, .inl (E.2.2.1, 64, .inl wz25)), (yh, .inl (E.2.2.1, 8, .inl hz26)), (yc, .inl (E.2.1, 32, .inl k8)), (yd, .inl (E.2.1, 32, .inl (va_cpy (shaF (fun q => f ((S.length * 80) + q)) x.length) k9 0 0 32))), (yb, .inl (E.2.1, 512, .inl kb)), (yk, .inl (E.2.1, 1920, .inl (va_cpy (va_cpy (shaF (fun q => f ((S.length * 80) + q)) x.length) k9 0 0 32) f 0 (S.length * 80) 32))), (yz, .inl (E.2.2.1, 24, .inl (upd sz S.length (nI 32))))] H := hP
    have hD : va_D A [(y0, .inr (7, [.ref ya, .int (nI nt), .ref yo, .int (nI no), .ref ym, .ref yl, .ref yg, .ref yw, .ref yh, .ref yc, .ref yd, .ref yb, .ref yk, .ref yz, .int (nI (S.length + 1)), .int (b2 fl), .ref yr])), (yg, .inl (E.2.1, 32, .inl k5)), (yw, .inl (E.2.2.1, 64, .inl wz25)), (yh, .inl (E.2.2.1, 8, .inl hz26)), (yc, .inl (E.2.1, 32, .inl k8)), (yd, .inl (E.2.1, 32, .inl (va_cpy (shaF (fun q => f ((S.length * 80) + q)) x.length) k9 0 0 32))), (yb, .inl (E.2.1, 512, .inl kb)), (yk, .inl (E.2.1, 1920, .inl (va_cpy (va_cpy (shaF (fun q => f ((S.length * 80) + q)) x.length) k9 0 0 32) f 0 (S.length * 80) 32))), (yz, .inl (E.2.2.1, 24, .inl (upd sz S.length (nI 32))))] := hD
    exact kret (b2 true) [(y0, .inr (7, [.ref ya, .int (nI nt), .ref yo, .int (nI no), .ref ym, .ref yl, .ref yg, .ref yw, .ref yh, .ref yc, .ref yd, .ref yb, .ref yk, .ref yz, .int (nI (S.length + 1)), .int (b2 fl), .ref yr])), (yg, .inl (E.2.1, 32, .inl k5)), (yw, .inl (E.2.2.1, 64, .inl wz25)), (yh, .inl (E.2.2.1, 8, .inl hz26)), (yc, .inl (E.2.1, 32, .inl k8)), (yd, .inl (E.2.1, 32, .inl (va_cpy (shaF (fun q => f ((S.length * 80) + q)) x.length) k9 0 0 32))), (yb, .inl (E.2.1, 512, .inl kb)), (yk, .inl (E.2.1, 1920, .inl (va_cpy (va_cpy (shaF (fun q => f ((S.length * 80) + q)) x.length) k9 0 0 32) f 0 (S.length * 80) 32))), (yz, .inl (E.2.2.1, 24, .inl (upd sz S.length (nI 32))))] _ _ _ _ d_Mod_act_715 (⟨_, _, _, _, _, _, _, _, rfl, fun j => by unfold va_cpy; split; split; exact shaF_B _ _ _; omega; exact hB j, Or.inl ⟨(shaL x :: S), rfl, rfl, by first | rfl | (simp only [List.length_cons]; omega) | (simp only [List.length_cons]), rep_cpy hr0 rfl (shaL_len _).symm (by show (shaL _).length ≤ 80; rw [shaL_len]; omega) (sha_lay hx1.2.2 rfl), by first | (simp only [List.length_cons]; omega) | (simp only [List.length_cons]) | omega⟩⟩) rfl hP hS

set_option maxHeartbeats 4000000 in
set_option maxRecDepth 100000 in
theorem c_act_94 (l : Launch) (E : En) (y0 ya yo ym yl yg yw yh yc yd yb yk yz yr nt no : Nat) (fl : Bool) (k5 k6 k7 k8 k9 kb f sz : Nat → Int32) (S : Stk) (msg : Byl) (hrep : rep f sz S) (hB : fB f) (hB5 : fB k5) (hlen : S.length ≤ 24) (hm : lay k5 0 msg) (hm32 : msg.length = 32) (ht : Int32) : CtI l y_Mod_act b_Mod_act 11 .boolean (rmd 4) E [.ref y0, .int (nI 94), .int ht] [(y0, .inr (7, [.ref ya, .int (nI nt), .ref yo, .int (nI no), .ref ym, .ref yl, .ref yg, .ref yw, .ref yh, .ref yc, .ref yd, .ref yb, .ref yk, .ref yz, .int (nI S.length), .int (b2 fl), .ref yr])), (yg, .inl (E.2.1, 32, .inl k5)), (yw, .inl (E.2.2.1, 64, .inl k6)), (yh, .inl (E.2.2.1, 8, .inl k7)), (yc, .inl (E.2.1, 32, .inl k8)), (yd, .inl (E.2.1, 32, .inl k9)), (yb, .inl (E.2.1, 512, .inl kb)), (yk, .inl (E.2.1, 1920, .inl f)), (yz, .inl (E.2.2.1, 24, .inl sz))] (stepM E y0 ya yo ym yl yg yw yh yc yd yb yk yz yr nt no fl k5 (actS 94 ht msg S)) := by
  refine CtI.of (by decide) (Nat.le_of_ble_eq_true rfl) (stepM_nar) ?_
  intro p e s m args below meth c A Q H locs ls C hP hD hS hl kret
  have hx := C.1
  have hb := C.2.1
  have hl : lv_has ls 11 [(0, .ref y0), (1, .int (nI 94)), (2, .int ht)] := hl
  rcases S with _ | ⟨x, S⟩
  · have hP : va_P E.1 clz [(y0, .inr (7, [.ref ya, .int (nI nt), .ref yo, .int (nI no), .ref ym, .ref yl, .ref yg, .ref yw, .ref yh, .ref yc, .ref yd, .ref yb, .ref yk, .ref yz, .int (nI 0), .int (b2 fl), .ref yr])), (yg, .inl (E.2.1, 32, .inl k5)), (yw, .inl (E.2.2.1, 64, .inl k6)), (yh, .inl (E.2.2.1, 8, .inl k7)), (yc, .inl (E.2.1, 32, .inl k8)), (yd, .inl (E.2.1, 32, .inl k9)), (yb, .inl (E.2.1, 512, .inl kb)), (yk, .inl (E.2.1, 1920, .inl f)), (yz, .inl (E.2.2.1, 24, .inl sz))] H := hP
    have hD : va_D A [(y0, .inr (7, [.ref ya, .int (nI nt), .ref yo, .int (nI no), .ref ym, .ref yl, .ref yg, .ref yw, .ref yh, .ref yc, .ref yd, .ref yb, .ref yk, .ref yz, .int (nI 0), .int (b2 fl), .ref yr])), (yg, .inl (E.2.1, 32, .inl k5)), (yw, .inl (E.2.2.1, 64, .inl k6)), (yh, .inl (E.2.2.1, 8, .inl k7)), (yc, .inl (E.2.1, 32, .inl k8)), (yd, .inl (E.2.1, 32, .inl k9)), (yb, .inl (E.2.1, 512, .inl kb)), (yk, .inl (E.2.1, 1920, .inl f)), (yz, .inl (E.2.2.1, 24, .inl sz))] := hD
    refine lv_aload_n hx hb d_Mod_act_0 rfl (lv_at hl 0 rfl) ?_
    refine n_get C fg_Mod_66 hP 0 rfl rfl d_Mod_act_1 ?_
    refine lv_iconst (v := nI 2) hx hb d_Mod_act_4 (by decide) ?_
    refine lv_isub hx hb d_Mod_act_5 ?_
    refine tope (z := (-2)) (by decide) ?_
    refine lv_istore_n (lv' := [(3, .int (-2)), (0, .ref y0), (1, .int (nI 94)), (2, .int ht)]) hx hb d_Mod_act_6 rfl hl (by decide) rfl (fun ls hl => ?_)
    refine lv_aload_n hx hb d_Mod_act_7 rfl (lv_at hl 1 rfl) ?_
    refine n_get C fg_Mod_66 hP 0 rfl rfl d_Mod_act_8 ?_
    refine lv_iconst (v := nI 1) hx hb d_Mod_act_11 (by decide) ?_
    refine lv_isub hx hb d_Mod_act_12 ?_
    refine tope (z := (-1)) (by decide) ?_
    refine lv_istore (lv' := [(4, .int (-1)), (3, .int (-2)), (0, .ref y0), (1, .int (nI 94)), (2, .int ht)]) hx hb d_Mod_act_13 hl (by decide) rfl (fun ls hl => ?_)
    refine lv_iload_n hx hb d_Mod_act_15 rfl (lv_at hl 3 rfl) ?_
    refine lv_bipush (v := nI 82) hx hb d_Mod_act_16 (by decide) ?_
    refine j_eq C 94 82 rfl rfl (by decide) (by decide) d_Mod_act_18 rfl (fun hc1 => absurd hc1 (by decide)) (fun hc1 => ?_)
    refine lv_iload_n hx hb d_Mod_act_21 rfl (lv_at hl 3 rfl) ?_
    refine lv_bipush (v := nI 83) hx hb d_Mod_act_22 (by decide) ?_
    refine j_eq C 94 83 rfl rfl (by decide) (by decide) d_Mod_act_24 rfl (fun hc2 => absurd hc2 (by decide)) (fun hc2 => ?_)
    refine lv_iload_n hx hb d_Mod_act_27 rfl (lv_at hl 3 rfl) ?_
    refine lv_bipush (v := nI 86) hx hb d_Mod_act_28 (by decide) ?_
    refine j_eq C 94 86 rfl rfl (by decide) (by decide) d_Mod_act_30 rfl (fun hc3 => absurd hc3 (by decide)) (fun hc3 => ?_)
    refine lv_iload_n hx hb d_Mod_act_33 rfl (lv_at hl 3 rfl) ?_
    refine lv_bipush (v := nI 89) hx hb d_Mod_act_34 (by decide) ?_
    refine j_lt C 94 89 rfl rfl (by decide) (by decide) d_Mod_act_36 rfl (fun hc4 => absurd hc4 (by decide)) (fun hc4 => ?_)
    refine lv_iload_n hx hb d_Mod_act_39 rfl (lv_at hl 3 rfl) ?_
    refine lv_bipush (v := nI 92) hx hb d_Mod_act_40 (by decide) ?_
    refine j_le C 94 92 rfl rfl (by decide) (by decide) d_Mod_act_42 rfl (fun hc5 => absurd hc5 (by decide)) (fun hc5 => ?_)
    refine lv_iload_n hx hb d_Mod_act_45 rfl (lv_at hl 3 rfl) ?_
    refine lv_bipush (v := nI 95) hx hb d_Mod_act_46 (by decide) ?_
    refine j_ne C 94 95 rfl rfl (by decide) (by decide) d_Mod_act_48 rfl (fun hc6 => ?_) (fun hc6 => absurd hc6 (by decide))
    refine lv_iconst (v := nI 0) hx hb d_Mod_act_55 (by decide) ?_
    refine lv_istore (lv' := [(5, .int (nI 0)), (4, .int (-1)), (3, .int (-2)), (0, .ref y0), (1, .int (nI 94)), (2, .int ht)]) hx hb d_Mod_act_56 hl (by decide) rfl (fun ls hl => ?_)
    refine lv_aload_n hx hb d_Mod_act_58 rfl (lv_at hl 3 rfl) ?_
    refine n_get C fg_Mod_66 hP 0 rfl rfl d_Mod_act_59 ?_
    refine lv_iload hx hb d_Mod_act_62 (lv_at hl 0 rfl) ?_
    refine z_eq C 0 rfl (by omega) d_Mod_act_64 rfl (fun hc7 => ?_) (fun hc7 => absurd hc7 (by omega))
    refine lv_iload_n hx hb d_Mod_act_71 rfl (lv_at hl 4 rfl) ?_
    refine lv_bipush (v := nI 102) hx hb d_Mod_act_72 (by decide) ?_
    refine j_ne C 94 102 rfl rfl (by decide) (by decide) d_Mod_act_74 rfl (fun hc8 => ?_) (fun hc8 => absurd hc8 (by decide))
    refine lv_iconst (v := nI 1) hx hb d_Mod_act_81 (by decide) ?_
    refine j_ge C 0 1 rfl rfl (by decide) (by decide) d_Mod_act_82 rfl (fun hc9 => absurd hc9 (by decide)) (fun hc9 => ?_)
    refine lv_iconst (v := nI 0) hx hb d_Mod_act_85 (by decide) ?_
    exact kret (nI 0) [(y0, .inr (7, [.ref ya, .int (nI nt), .ref yo, .int (nI no), .ref ym, .ref yl, .ref yg, .ref yw, .ref yh, .ref yc, .ref yd, .ref yb, .ref yk, .ref yz, .int (nI 0), .int (b2 fl), .ref yr])), (yg, .inl (E.2.1, 32, .inl k5)), (yw, .inl (E.2.2.1, 64, .inl k6)), (yh, .inl (E.2.2.1, 8, .inl k7)), (yc, .inl (E.2.1, 32, .inl k8)), (yd, .inl (E.2.1, 32, .inl k9)), (yb, .inl (E.2.1, 512, .inl kb)), (yk, .inl (E.2.1, 1920, .inl f)), (yz, .inl (E.2.2.1, 24, .inl sz))] _ _ _ _ d_Mod_act_86 (⟨_, _, _, _, _, _, _, _, rfl, hB, Or.inr ⟨rfl, rfl⟩⟩) rfl hP hS
  · have hx1 : sz S.length = nI x.length ∧ x.length ≤ 80 ∧ lay f (S.length * 80) x := rep_top hrep
    have hr0 : rep f sz S := rep_tail hrep
    have hlen : S.length + 1 ≤ 24 := hlen
    have hP : va_P E.1 clz [(y0, .inr (7, [.ref ya, .int (nI nt), .ref yo, .int (nI no), .ref ym, .ref yl, .ref yg, .ref yw, .ref yh, .ref yc, .ref yd, .ref yb, .ref yk, .ref yz, .int (nI (S.length + 1)), .int (b2 fl), .ref yr])), (yg, .inl (E.2.1, 32, .inl k5)), (yw, .inl (E.2.2.1, 64, .inl k6)), (yh, .inl (E.2.2.1, 8, .inl k7)), (yc, .inl (E.2.1, 32, .inl k8)), (yd, .inl (E.2.1, 32, .inl k9)), (yb, .inl (E.2.1, 512, .inl kb)), (yk, .inl (E.2.1, 1920, .inl f)), (yz, .inl (E.2.2.1, 24, .inl sz))] H := hP
    have hD : va_D A [(y0, .inr (7, [.ref ya, .int (nI nt), .ref yo, .int (nI no), .ref ym, .ref yl, .ref yg, .ref yw, .ref yh, .ref yc, .ref yd, .ref yb, .ref yk, .ref yz, .int (nI (S.length + 1)), .int (b2 fl), .ref yr])), (yg, .inl (E.2.1, 32, .inl k5)), (yw, .inl (E.2.2.1, 64, .inl k6)), (yh, .inl (E.2.2.1, 8, .inl k7)), (yc, .inl (E.2.1, 32, .inl k8)), (yd, .inl (E.2.1, 32, .inl k9)), (yb, .inl (E.2.1, 512, .inl kb)), (yk, .inl (E.2.1, 1920, .inl f)), (yz, .inl (E.2.2.1, 24, .inl sz))] := hD
    refine lv_aload_n hx hb d_Mod_act_0 rfl (lv_at hl 0 rfl) ?_
    refine n_get C fg_Mod_66 hP 0 rfl rfl d_Mod_act_1 ?_
    refine lv_iconst (v := nI 2) hx hb d_Mod_act_4 (by decide) ?_
    refine lv_isub hx hb d_Mod_act_5 ?_
    refine lv_istore_n (lv' := [(3, .int ((nI (S.length + 1)) - (nI 2))), (0, .ref y0), (1, .int (nI 94)), (2, .int ht)]) hx hb d_Mod_act_6 rfl hl (by decide) rfl (fun ls hl => ?_)
    refine lv_aload_n hx hb d_Mod_act_7 rfl (lv_at hl 1 rfl) ?_
    refine n_get C fg_Mod_66 hP 0 rfl rfl d_Mod_act_8 ?_
    refine lv_iconst (v := nI 1) hx hb d_Mod_act_11 (by decide) ?_
    refine lv_isub hx hb d_Mod_act_12 ?_
    refine tope (z := nI S.length) ((pk_sub (by omega)).trans (congrArg nI (by omega))) ?_
    refine lv_istore (lv' := [(4, .int (nI S.length)), (3, .int ((nI (S.length + 1)) - (nI 2))), (0, .ref y0), (1, .int (nI 94)), (2, .int ht)]) hx hb d_Mod_act_13 hl (by decide) rfl (fun ls hl => ?_)
    refine lv_iload_n hx hb d_Mod_act_15 rfl (lv_at hl 3 rfl) ?_
    refine lv_bipush (v := nI 82) hx hb d_Mod_act_16 (by decide) ?_
    refine j_eq C 94 82 rfl rfl (by decide) (by decide) d_Mod_act_18 rfl (fun hc10 => absurd hc10 (by decide)) (fun hc10 => ?_)
    refine lv_iload_n hx hb d_Mod_act_21 rfl (lv_at hl 3 rfl) ?_
    refine lv_bipush (v := nI 83) hx hb d_Mod_act_22 (by decide) ?_
    refine j_eq C 94 83 rfl rfl (by decide) (by decide) d_Mod_act_24 rfl (fun hc11 => absurd hc11 (by decide)) (fun hc11 => ?_)
    refine lv_iload_n hx hb d_Mod_act_27 rfl (lv_at hl 3 rfl) ?_
    refine lv_bipush (v := nI 86) hx hb d_Mod_act_28 (by decide) ?_
    refine j_eq C 94 86 rfl rfl (by decide) (by decide) d_Mod_act_30 rfl (fun hc12 => absurd hc12 (by decide)) (fun hc12 => ?_)
    refine lv_iload_n hx hb d_Mod_act_33 rfl (lv_at hl 3 rfl) ?_
    refine lv_bipush (v := nI 89) hx hb d_Mod_act_34 (by decide) ?_
    refine j_lt C 94 89 rfl rfl (by decide) (by decide) d_Mod_act_36 rfl (fun hc13 => absurd hc13 (by decide)) (fun hc13 => ?_)
    refine lv_iload_n hx hb d_Mod_act_39 rfl (lv_at hl 3 rfl) ?_
    refine lv_bipush (v := nI 92) hx hb d_Mod_act_40 (by decide) ?_
    refine j_le C 94 92 rfl rfl (by decide) (by decide) d_Mod_act_42 rfl (fun hc14 => absurd hc14 (by decide)) (fun hc14 => ?_)
    refine lv_iload_n hx hb d_Mod_act_45 rfl (lv_at hl 3 rfl) ?_
    refine lv_bipush (v := nI 95) hx hb d_Mod_act_46 (by decide) ?_
    refine j_ne C 94 95 rfl rfl (by decide) (by decide) d_Mod_act_48 rfl (fun hc15 => ?_) (fun hc15 => absurd hc15 (by decide))
    refine lv_iconst (v := nI 0) hx hb d_Mod_act_55 (by decide) ?_
    refine lv_istore (lv' := [(5, .int (nI 0)), (4, .int (nI S.length)), (3, .int ((nI (S.length + 1)) - (nI 2))), (0, .ref y0), (1, .int (nI 94)), (2, .int ht)]) hx hb d_Mod_act_56 hl (by decide) rfl (fun ls hl => ?_)
    refine lv_aload_n hx hb d_Mod_act_58 rfl (lv_at hl 3 rfl) ?_
    refine n_get C fg_Mod_66 hP 0 rfl rfl d_Mod_act_59 ?_
    refine lv_iload hx hb d_Mod_act_62 (lv_at hl 0 rfl) ?_
    refine z_eq C 0 rfl (by omega) d_Mod_act_64 rfl (fun hc16 => ?_) (fun hc16 => absurd hc16 (by omega))
    refine lv_iload_n hx hb d_Mod_act_71 rfl (lv_at hl 4 rfl) ?_
    refine lv_bipush (v := nI 102) hx hb d_Mod_act_72 (by decide) ?_
    refine j_ne C 94 102 rfl rfl (by decide) (by decide) d_Mod_act_74 rfl (fun hc17 => ?_) (fun hc17 => absurd hc17 (by decide))
    refine lv_iconst (v := nI 1) hx hb d_Mod_act_81 (by decide) ?_
    refine j_ge C (S.length + 1) 1 rfl rfl (by omega) (by omega) d_Mod_act_82 rfl (fun hc18 => ?_) (fun hc18 => absurd hc18 (by omega))
    refine lv_iload_n hx hb d_Mod_act_87 rfl (lv_at hl 4 rfl) ?_
    refine lv_bipush (v := nI 88) hx hb d_Mod_act_88 (by decide) ?_
    refine j_lt C 94 88 rfl rfl (by decide) (by decide) d_Mod_act_90 rfl (fun hc19 => absurd hc19 (by decide)) (fun hc19 => ?_)
    refine lv_iload_n hx hb d_Mod_act_93 rfl (lv_at hl 4 rfl) ?_
    refine lv_bipush (v := nI 91) hx hb d_Mod_act_94 (by decide) ?_
    refine j_le C 94 91 rfl rfl (by decide) (by decide) d_Mod_act_96 rfl (fun hc20 => absurd hc20 (by decide)) (fun hc20 => ?_)
    refine lv_iload_n hx hb d_Mod_act_99 rfl (lv_at hl 4 rfl) ?_
    refine lv_bipush (v := nI 96) hx hb d_Mod_act_100 (by decide) ?_
    refine j_ne C 94 96 rfl rfl (by decide) (by decide) d_Mod_act_102 rfl (fun hc21 => ?_) (fun hc21 => absurd hc21 (by decide))
    refine lv_iconst (v := nI 0) hx hb d_Mod_act_109 (by decide) ?_
    refine lv_istore (lv' := [(6, .int (nI 0)), (5, .int (nI 0)), (4, .int (nI S.length)), (3, .int ((nI (S.length + 1)) - (nI 2))), (0, .ref y0), (1, .int (nI 94)), (2, .int ht)]) hx hb d_Mod_act_110 hl (by decide) rfl (fun ls hl => ?_)
    refine lv_iload hx hb d_Mod_act_112 (lv_at hl 0 rfl) ?_
    refine z_eq C 0 rfl (by omega) d_Mod_act_114 rfl (fun hc22 => ?_) (fun hc22 => absurd hc22 (by omega))
    refine lv_iload hx hb d_Mod_act_145 (lv_at hl 1 rfl) ?_
    refine z_eq C 0 rfl (by omega) d_Mod_act_147 rfl (fun hc23 => ?_) (fun hc23 => absurd hc23 (by omega))
    refine lv_iconst (v := nI 0) hx hb d_Mod_act_163 (by decide) ?_
    refine lv_istore (lv' := [(7, .int (nI 0)), (6, .int (nI 0)), (5, .int (nI 0)), (4, .int (nI S.length)), (3, .int ((nI (S.length + 1)) - (nI 2))), (0, .ref y0), (1, .int (nI 94)), (2, .int ht)]) hx hb d_Mod_act_164 hl (by decide) rfl (fun ls hl => ?_)
    refine lv_iload hx hb d_Mod_act_166 (lv_at hl 1 rfl) ?_
    refine z_eq C 0 rfl (by omega) d_Mod_act_168 rfl (fun hc24 => ?_) (fun hc24 => absurd hc24 (by omega))
    refine lv_iconst (v := nI 0) hx hb d_Mod_act_180 (by decide) ?_
    refine lv_istore (lv' := [(8, .int (nI 0)), (7, .int (nI 0)), (6, .int (nI 0)), (5, .int (nI 0)), (4, .int (nI S.length)), (3, .int ((nI (S.length + 1)) - (nI 2))), (0, .ref y0), (1, .int (nI 94)), (2, .int ht)]) hx hb d_Mod_act_181 hl (by decide) rfl (fun ls hl => ?_)
    refine lv_iload_n hx hb d_Mod_act_183 rfl (lv_at hl 7 rfl) ?_
    refine lv_tableIn hx hb d_Mod_act_184 (by decide) (by decide) rfl rfl ?_
    refine lv_aload_n hx hb d_Mod_act_716 rfl (lv_at hl 6 rfl) ?_
    refine lv_aload_n hx hb d_Mod_act_717 rfl (lv_at hl 6 rfl) ?_
    refine n_get C fg_Mod_41 hP 0 rfl rfl d_Mod_act_718 ?_
    refine lv_bipush (v := nI 80) hx hb d_Mod_act_721 (by decide) ?_
    refine lv_iload hx hb d_Mod_act_723 (lv_at hl 4 rfl) ?_
    refine lv_imul hx hb d_Mod_act_725 ?_
    refine tope (z := nI (S.length * 80)) ((pk_mul _ _).trans (congrArg nI (Nat.mul_comm _ _))) ?_
    refine lv_aload_n hx hb d_Mod_act_726 rfl (lv_at hl 6 rfl) ?_
    refine n_get C fg_Mod_44 hP 0 rfl rfl d_Mod_act_727 ?_
    refine lv_iload hx hb d_Mod_act_730 (lv_at hl 4 rfl) ?_
    refine n_iald C hP 8 rfl S.length rfl (by omega) (by omega) d_Mod_act_732 ?_
    refine tope (z := nI x.length) (hx1.1) ?_
    refine lv_aload_n hx hb d_Mod_act_733 rfl (lv_at hl 6 rfl) ?_
    refine n_get C fg_Mod_35 hP 0 rfl rfl d_Mod_act_734 ?_
    refine lv_iconst (v := nI 0) hx hb d_Mod_act_737 (by decide) ?_
    refine cal_V (As := [.ref yk, .int (nI (S.length * 80)), .int (nI x.length), .ref yd, .int (nI 0)]) (rest := []) C lk_Mod_74 (c_Mod_hash l E y0 ya yo ym yl yg yw yh yc yd yb yk yz yr nt no (S.length + 1) fl yk 1920 (S.length * 80) x.length 0 yd 32 k6 k7 k8 f k9 (by omega) (by omega) (by omega) (by omega)) (by decide) hP hD hS 0 7 rfl rfl [0, 2, 3, 4, 7, 5] rfl (by decide) hl.1 rfl (Nat.le_of_ble_eq_true rfl) d_Mod_act_738 (fun w1 H locs hp28 hP hD hS => ?_)
    obtain ⟨wz25, hz26, rfl⟩ := hp28
    have hP : va_P E.1 clz [(y0, .inr (7, [.ref ya, .int (nI nt), .ref yo, .int (nI no), .ref ym, .ref yl, .ref yg, .ref yw, .ref yh, .ref yc, .ref yd, .ref yb, .ref yk, .ref yz, .int (nI (S.length + 1)), .int (b2 fl), .ref yr])), (yg, .inl (E.2.1, 32, .inl k5)), (yw, .inl (E.2.2.1, 64, .inl wz25)), (yh, .inl (E.2.2.1, 8, .inl hz26)), (yc, .inl (E.2.1, 32, .inl (va_cpy (shaF (fun q => f ((S.length * 80) + q)) x.length) k8 0 0 32))), (yd, .inl (E.2.1, 32, .inl (va_cpy (hashF (fun q => f ((S.length * 80) + q)) x.length) k9 0 0 32))), (yb, .inl (E.2.1, 512, .inl kb)), (yk, .inl (E.2.1, 1920, .inl f)), (yz, .inl (E.2.2.1, 24, .inl sz))] H := hP
    have hD : va_D A [(y0, .inr (7, [.ref ya, .int (nI nt), .ref yo, .int (nI no), .ref ym, .ref yl, .ref yg, .ref yw, .ref yh, .ref yc, .ref yd, .ref yb, .ref yk, .ref yz, .int (nI (S.length + 1)), .int (b2 fl), .ref yr])), (yg, .inl (E.2.1, 32, .inl k5)), (yw, .inl (E.2.2.1, 64, .inl wz25)), (yh, .inl (E.2.2.1, 8, .inl hz26)), (yc, .inl (E.2.1, 32, .inl (va_cpy (shaF (fun q => f ((S.length * 80) + q)) x.length) k8 0 0 32))), (yd, .inl (E.2.1, 32, .inl (va_cpy (hashF (fun q => f ((S.length * 80) + q)) x.length) k9 0 0 32))), (yb, .inl (E.2.1, 512, .inl kb)), (yk, .inl (E.2.1, 1920, .inl f)), (yz, .inl (E.2.2.1, 24, .inl sz))] := hD
    refine lv_aload_n hx hb d_Mod_act_741 rfl (lv_at hl 6 rfl) ?_
    refine lv_dup hx hb d_Mod_act_742 rfl ?_
    refine n_get C fg_Mod_66 hP 0 rfl rfl d_Mod_act_743 ?_
    refine lv_iconst (v := nI 1) hx hb d_Mod_act_746 (by decide) ?_
    refine lv_isub hx hb d_Mod_act_747 ?_
    refine tope (z := nI S.length) ((pk_sub (by omega)).trans (congrArg nI (by omega))) ?_
    refine n_put (v := .int (nI S.length)) C fp_Mod_66 hP hD hS 0 rfl (rfl) rfl (Nat.le_of_ble_eq_true rfl) d_Mod_act_748 (fun H locs hP hD hS => ?_)
    have hP : va_P E.1 clz [(y0, .inr (7, [.ref ya, .int (nI nt), .ref yo, .int (nI no), .ref ym, .ref yl, .ref yg, .ref yw, .ref yh, .ref yc, .ref yd, .ref yb, .ref yk, .ref yz, .int (nI S.length), .int (b2 fl), .ref yr])), (yg, .inl (E.2.1, 32, .inl k5)), (yw, .inl (E.2.2.1, 64, .inl wz25)), (yh, .inl (E.2.2.1, 8, .inl hz26)), (yc, .inl (E.2.1, 32, .inl (va_cpy (shaF (fun q => f ((S.length * 80) + q)) x.length) k8 0 0 32))), (yd, .inl (E.2.1, 32, .inl (va_cpy (hashF (fun q => f ((S.length * 80) + q)) x.length) k9 0 0 32))), (yb, .inl (E.2.1, 512, .inl kb)), (yk, .inl (E.2.1, 1920, .inl f)), (yz, .inl (E.2.2.1, 24, .inl sz))] H := hP
    have hD : va_D A [(y0, .inr (7, [.ref ya, .int (nI nt), .ref yo, .int (nI no), .ref ym, .ref yl, .ref yg, .ref yw, .ref yh, .ref yc, .ref yd, .ref yb, .ref yk, .ref yz, .int (nI S.length), .int (b2 fl), .ref yr])), (yg, .inl (E.2.1, 32, .inl k5)), (yw, .inl (E.2.2.1, 64, .inl wz25)), (yh, .inl (E.2.2.1, 8, .inl hz26)), (yc, .inl (E.2.1, 32, .inl (va_cpy (shaF (fun q => f ((S.length * 80) + q)) x.length) k8 0 0 32))), (yd, .inl (E.2.1, 32, .inl (va_cpy (hashF (fun q => f ((S.length * 80) + q)) x.length) k9 0 0 32))), (yb, .inl (E.2.1, 512, .inl kb)), (yk, .inl (E.2.1, 1920, .inl f)), (yz, .inl (E.2.2.1, 24, .inl sz))] := hD
    refine lv_aload_n hx hb d_Mod_act_751 rfl (lv_at hl 6 rfl) ?_
    refine lv_aload_n hx hb d_Mod_act_752 rfl (lv_at hl 6 rfl) ?_
    refine n_get C fg_Mod_35 hP 0 rfl rfl d_Mod_act_753 ?_
    refine lv_iconst (v := nI 0) hx hb d_Mod_act_756 (by decide) ?_
    refine lv_bipush (v := nI 32) hx hb d_Mod_act_757 (by decide) ?_
    refine cal_I (As := [.ref yd, .int (nI 0), .int (nI 32)]) (rest := []) C lk_Mod_70 (c_Mod_push l E y0 ya yo ym yl yg yw yh yc yd yb yk yz yr nt no S.length fl 0 32 yd 32 f sz (va_cpy (hashF (fun q => f ((S.length * 80) + q)) x.length) k9 0 0 32) (by omega) (by omega) (by omega) (fun q hq => by rw [pk_cpy_in (by omega) (by omega)]; exact hashF_B _ _ _) (by omega)) (by decide) hP hD hS 0 7 rfl rfl [0, 7, 8, 5] rfl (by decide) hl.1 rfl (Nat.le_of_ble_eq_true rfl) d_Mod_act_759 (fun r29 w1 H locs hp30 hP hD hS => ?_)
    obtain ⟨rfl, rfl⟩ := hp30
    have hP : va_P E.1 clz [(y0, .inr (7, [.ref ya, .int (nI nt), .ref yo, .int (nI no), .ref ym, .ref yl, .ref yg, .ref yw, .ref yh, .ref yc, .ref yd, .ref yb, .ref yk, .ref yz, .int (nI (S.length + 1)), .int (b2 fl), .ref yr])), (yg, .inl (E.2.1, 32, .inl k5)), (yw, .inl (E.2.2.1, 64, .inl wz25)), (yh, .inl (E.2.2.1, 8, .inl hz26)), (yc, .inl (E.2.1, 32, .inl (va_cpy (shaF (fun q => f ((S.length * 80) + q)) x.length) k8 0 0 32))), (yd, .inl (E.2.1, 32, .inl (va_cpy (hashF (fun q => f ((S.length * 80) + q)) x.length) k9 0 0 32))), (yb, .inl (E.2.1, 512, .inl kb)), (yk, .inl (E.2.1, 1920, .inl (va_cpy (va_cpy (hashF (fun q => f ((S.length * 80) + q)) x.length) k9 0 0 32) f 0 (S.length * 80) 32))), (yz, .inl (E.2.2.1, 24, .inl (upd sz S.length (nI 32))))] H := hP
    have hD : va_D A [(y0, .inr (7, [.ref ya, .int (nI nt), .ref yo, .int (nI no), .ref ym, .ref yl, .ref yg, .ref yw, .ref yh, .ref yc, .ref yd, .ref yb, .ref yk, .ref yz, .int (nI (S.length + 1)), .int (b2 fl), .ref yr])), (yg, .inl (E.2.1, 32, .inl k5)), (yw, .inl (E.2.2.1, 64, .inl wz25)), (yh, .inl (E.2.2.1, 8, .inl hz26)), (yc, .inl (E.2.1, 32, .inl (va_cpy (shaF (fun q => f ((S.length * 80) + q)) x.length) k8 0 0 32))), (yd, .inl (E.2.1, 32, .inl (va_cpy (hashF (fun q => f ((S.length * 80) + q)) x.length) k9 0 0 32))), (yb, .inl (E.2.1, 512, .inl kb)), (yk, .inl (E.2.1, 1920, .inl (va_cpy (va_cpy (hashF (fun q => f ((S.length * 80) + q)) x.length) k9 0 0 32) f 0 (S.length * 80) 32))), (yz, .inl (E.2.2.1, 24, .inl (upd sz S.length (nI 32))))] := hD
    exact kret (b2 true) [(y0, .inr (7, [.ref ya, .int (nI nt), .ref yo, .int (nI no), .ref ym, .ref yl, .ref yg, .ref yw, .ref yh, .ref yc, .ref yd, .ref yb, .ref yk, .ref yz, .int (nI (S.length + 1)), .int (b2 fl), .ref yr])), (yg, .inl (E.2.1, 32, .inl k5)), (yw, .inl (E.2.2.1, 64, .inl wz25)), (yh, .inl (E.2.2.1, 8, .inl hz26)), (yc, .inl (E.2.1, 32, .inl (va_cpy (shaF (fun q => f ((S.length * 80) + q)) x.length) k8 0 0 32))), (yd, .inl (E.2.1, 32, .inl (va_cpy (hashF (fun q => f ((S.length * 80) + q)) x.length) k9 0 0 32))), (yb, .inl (E.2.1, 512, .inl kb)), (yk, .inl (E.2.1, 1920, .inl (va_cpy (va_cpy (hashF (fun q => f ((S.length * 80) + q)) x.length) k9 0 0 32) f 0 (S.length * 80) 32))), (yz, .inl (E.2.2.1, 24, .inl (upd sz S.length (nI 32))))] _ _ _ _ d_Mod_act_762 (⟨_, _, _, _, _, _, _, _, rfl, fun j => by unfold va_cpy; split; split; exact hashF_B _ _ _; omega; exact hB j, Or.inl ⟨(hashL x :: S), rfl, rfl, by first | rfl | (simp only [List.length_cons]; omega) | (simp only [List.length_cons]), rep_cpy hr0 rfl (shaL_len _).symm (by show (shaL _).length ≤ 80; rw [shaL_len]; omega) (hash_lay hx1.2.2 rfl), by first | (simp only [List.length_cons]; omega) | (simp only [List.length_cons]) | omega⟩⟩) rfl hP hS

set_option maxHeartbeats 4000000 in
set_option maxRecDepth 100000 in
theorem c_act_95 (l : Launch) (E : En) (y0 ya yo ym yl yg yw yh yc yd yb yk yz yr nt no : Nat) (fl : Bool) (k5 k6 k7 k8 k9 kb f sz : Nat → Int32) (S : Stk) (msg : Byl) (hrep : rep f sz S) (hB : fB f) (hB5 : fB k5) (hlen : S.length ≤ 24) (hm : lay k5 0 msg) (hm32 : msg.length = 32) (ht : Int32) : CtI l y_Mod_act b_Mod_act 11 .boolean (rmd 4) E [.ref y0, .int (nI 95), .int ht] [(y0, .inr (7, [.ref ya, .int (nI nt), .ref yo, .int (nI no), .ref ym, .ref yl, .ref yg, .ref yw, .ref yh, .ref yc, .ref yd, .ref yb, .ref yk, .ref yz, .int (nI S.length), .int (b2 fl), .ref yr])), (yg, .inl (E.2.1, 32, .inl k5)), (yw, .inl (E.2.2.1, 64, .inl k6)), (yh, .inl (E.2.2.1, 8, .inl k7)), (yc, .inl (E.2.1, 32, .inl k8)), (yd, .inl (E.2.1, 32, .inl k9)), (yb, .inl (E.2.1, 512, .inl kb)), (yk, .inl (E.2.1, 1920, .inl f)), (yz, .inl (E.2.2.1, 24, .inl sz))] (stepM E y0 ya yo ym yl yg yw yh yc yd yb yk yz yr nt no fl k5 (actS 95 ht msg S)) := by
  refine CtI.of (by decide) (Nat.le_of_ble_eq_true rfl) (stepM_nar) ?_
  intro p e s m args below meth c A Q H locs ls C hP hD hS hl kret
  have hx := C.1
  have hb := C.2.1
  have hl : lv_has ls 11 [(0, .ref y0), (1, .int (nI 95)), (2, .int ht)] := hl
  rcases S with _ | ⟨x, _ | ⟨y, S⟩⟩
  · have hP : va_P E.1 clz [(y0, .inr (7, [.ref ya, .int (nI nt), .ref yo, .int (nI no), .ref ym, .ref yl, .ref yg, .ref yw, .ref yh, .ref yc, .ref yd, .ref yb, .ref yk, .ref yz, .int (nI 0), .int (b2 fl), .ref yr])), (yg, .inl (E.2.1, 32, .inl k5)), (yw, .inl (E.2.2.1, 64, .inl k6)), (yh, .inl (E.2.2.1, 8, .inl k7)), (yc, .inl (E.2.1, 32, .inl k8)), (yd, .inl (E.2.1, 32, .inl k9)), (yb, .inl (E.2.1, 512, .inl kb)), (yk, .inl (E.2.1, 1920, .inl f)), (yz, .inl (E.2.2.1, 24, .inl sz))] H := hP
    have hD : va_D A [(y0, .inr (7, [.ref ya, .int (nI nt), .ref yo, .int (nI no), .ref ym, .ref yl, .ref yg, .ref yw, .ref yh, .ref yc, .ref yd, .ref yb, .ref yk, .ref yz, .int (nI 0), .int (b2 fl), .ref yr])), (yg, .inl (E.2.1, 32, .inl k5)), (yw, .inl (E.2.2.1, 64, .inl k6)), (yh, .inl (E.2.2.1, 8, .inl k7)), (yc, .inl (E.2.1, 32, .inl k8)), (yd, .inl (E.2.1, 32, .inl k9)), (yb, .inl (E.2.1, 512, .inl kb)), (yk, .inl (E.2.1, 1920, .inl f)), (yz, .inl (E.2.2.1, 24, .inl sz))] := hD
    refine lv_aload_n hx hb d_Mod_act_0 rfl (lv_at hl 0 rfl) ?_
    refine n_get C fg_Mod_66 hP 0 rfl rfl d_Mod_act_1 ?_
    refine lv_iconst (v := nI 2) hx hb d_Mod_act_4 (by decide) ?_
    refine lv_isub hx hb d_Mod_act_5 ?_
    refine tope (z := (-2)) (by decide) ?_
    refine lv_istore_n (lv' := [(3, .int (-2)), (0, .ref y0), (1, .int (nI 95)), (2, .int ht)]) hx hb d_Mod_act_6 rfl hl (by decide) rfl (fun ls hl => ?_)
    refine lv_aload_n hx hb d_Mod_act_7 rfl (lv_at hl 1 rfl) ?_
    refine n_get C fg_Mod_66 hP 0 rfl rfl d_Mod_act_8 ?_
    refine lv_iconst (v := nI 1) hx hb d_Mod_act_11 (by decide) ?_
    refine lv_isub hx hb d_Mod_act_12 ?_
    refine tope (z := (-1)) (by decide) ?_
    refine lv_istore (lv' := [(4, .int (-1)), (3, .int (-2)), (0, .ref y0), (1, .int (nI 95)), (2, .int ht)]) hx hb d_Mod_act_13 hl (by decide) rfl (fun ls hl => ?_)
    refine lv_iload_n hx hb d_Mod_act_15 rfl (lv_at hl 3 rfl) ?_
    refine lv_bipush (v := nI 82) hx hb d_Mod_act_16 (by decide) ?_
    refine j_eq C 95 82 rfl rfl (by decide) (by decide) d_Mod_act_18 rfl (fun hc1 => absurd hc1 (by decide)) (fun hc1 => ?_)
    refine lv_iload_n hx hb d_Mod_act_21 rfl (lv_at hl 3 rfl) ?_
    refine lv_bipush (v := nI 83) hx hb d_Mod_act_22 (by decide) ?_
    refine j_eq C 95 83 rfl rfl (by decide) (by decide) d_Mod_act_24 rfl (fun hc2 => absurd hc2 (by decide)) (fun hc2 => ?_)
    refine lv_iload_n hx hb d_Mod_act_27 rfl (lv_at hl 3 rfl) ?_
    refine lv_bipush (v := nI 86) hx hb d_Mod_act_28 (by decide) ?_
    refine j_eq C 95 86 rfl rfl (by decide) (by decide) d_Mod_act_30 rfl (fun hc3 => absurd hc3 (by decide)) (fun hc3 => ?_)
    refine lv_iload_n hx hb d_Mod_act_33 rfl (lv_at hl 3 rfl) ?_
    refine lv_bipush (v := nI 89) hx hb d_Mod_act_34 (by decide) ?_
    refine j_lt C 95 89 rfl rfl (by decide) (by decide) d_Mod_act_36 rfl (fun hc4 => absurd hc4 (by decide)) (fun hc4 => ?_)
    refine lv_iload_n hx hb d_Mod_act_39 rfl (lv_at hl 3 rfl) ?_
    refine lv_bipush (v := nI 92) hx hb d_Mod_act_40 (by decide) ?_
    refine j_le C 95 92 rfl rfl (by decide) (by decide) d_Mod_act_42 rfl (fun hc5 => absurd hc5 (by decide)) (fun hc5 => ?_)
    refine lv_iload_n hx hb d_Mod_act_45 rfl (lv_at hl 3 rfl) ?_
    refine lv_bipush (v := nI 95) hx hb d_Mod_act_46 (by decide) ?_
    refine j_ne C 95 95 rfl rfl (by decide) (by decide) d_Mod_act_48 rfl (fun hc6 => absurd hc6 (by decide)) (fun hc6 => ?_)
    refine lv_iconst (v := nI 1) hx hb d_Mod_act_51 (by decide) ?_
    refine lv_goto hx hb d_Mod_act_52 rfl ?_
    refine lv_istore (lv' := [(5, .int (nI 1)), (4, .int (-1)), (3, .int (-2)), (0, .ref y0), (1, .int (nI 95)), (2, .int ht)]) hx hb d_Mod_act_56 hl (by decide) rfl (fun ls hl => ?_)
    refine lv_aload_n hx hb d_Mod_act_58 rfl (lv_at hl 3 rfl) ?_
    refine n_get C fg_Mod_66 hP 0 rfl rfl d_Mod_act_59 ?_
    refine lv_iload hx hb d_Mod_act_62 (lv_at hl 0 rfl) ?_
    refine z_eq C 1 rfl (by omega) d_Mod_act_64 rfl (fun hc7 => absurd hc7 (by omega)) (fun hc7 => ?_)
    refine lv_iconst (v := nI 2) hx hb d_Mod_act_67 (by decide) ?_
    refine lv_goto hx hb d_Mod_act_68 rfl ?_
    refine j_ge C 0 2 rfl rfl (by decide) (by decide) d_Mod_act_82 rfl (fun hc8 => absurd hc8 (by decide)) (fun hc8 => ?_)
    refine lv_iconst (v := nI 0) hx hb d_Mod_act_85 (by decide) ?_
    exact kret (nI 0) [(y0, .inr (7, [.ref ya, .int (nI nt), .ref yo, .int (nI no), .ref ym, .ref yl, .ref yg, .ref yw, .ref yh, .ref yc, .ref yd, .ref yb, .ref yk, .ref yz, .int (nI 0), .int (b2 fl), .ref yr])), (yg, .inl (E.2.1, 32, .inl k5)), (yw, .inl (E.2.2.1, 64, .inl k6)), (yh, .inl (E.2.2.1, 8, .inl k7)), (yc, .inl (E.2.1, 32, .inl k8)), (yd, .inl (E.2.1, 32, .inl k9)), (yb, .inl (E.2.1, 512, .inl kb)), (yk, .inl (E.2.1, 1920, .inl f)), (yz, .inl (E.2.2.1, 24, .inl sz))] _ _ _ _ d_Mod_act_86 (⟨_, _, _, _, _, _, _, _, rfl, hB, Or.inr ⟨rfl, rfl⟩⟩) rfl hP hS
  · have hP : va_P E.1 clz [(y0, .inr (7, [.ref ya, .int (nI nt), .ref yo, .int (nI no), .ref ym, .ref yl, .ref yg, .ref yw, .ref yh, .ref yc, .ref yd, .ref yb, .ref yk, .ref yz, .int (nI 1), .int (b2 fl), .ref yr])), (yg, .inl (E.2.1, 32, .inl k5)), (yw, .inl (E.2.2.1, 64, .inl k6)), (yh, .inl (E.2.2.1, 8, .inl k7)), (yc, .inl (E.2.1, 32, .inl k8)), (yd, .inl (E.2.1, 32, .inl k9)), (yb, .inl (E.2.1, 512, .inl kb)), (yk, .inl (E.2.1, 1920, .inl f)), (yz, .inl (E.2.2.1, 24, .inl sz))] H := hP
    have hD : va_D A [(y0, .inr (7, [.ref ya, .int (nI nt), .ref yo, .int (nI no), .ref ym, .ref yl, .ref yg, .ref yw, .ref yh, .ref yc, .ref yd, .ref yb, .ref yk, .ref yz, .int (nI 1), .int (b2 fl), .ref yr])), (yg, .inl (E.2.1, 32, .inl k5)), (yw, .inl (E.2.2.1, 64, .inl k6)), (yh, .inl (E.2.2.1, 8, .inl k7)), (yc, .inl (E.2.1, 32, .inl k8)), (yd, .inl (E.2.1, 32, .inl k9)), (yb, .inl (E.2.1, 512, .inl kb)), (yk, .inl (E.2.1, 1920, .inl f)), (yz, .inl (E.2.2.1, 24, .inl sz))] := hD
    refine lv_aload_n hx hb d_Mod_act_0 rfl (lv_at hl 0 rfl) ?_
    refine n_get C fg_Mod_66 hP 0 rfl rfl d_Mod_act_1 ?_
    refine lv_iconst (v := nI 2) hx hb d_Mod_act_4 (by decide) ?_
    refine lv_isub hx hb d_Mod_act_5 ?_
    refine tope (z := (-1)) (by decide) ?_
    refine lv_istore_n (lv' := [(3, .int (-1)), (0, .ref y0), (1, .int (nI 95)), (2, .int ht)]) hx hb d_Mod_act_6 rfl hl (by decide) rfl (fun ls hl => ?_)
    refine lv_aload_n hx hb d_Mod_act_7 rfl (lv_at hl 1 rfl) ?_
    refine n_get C fg_Mod_66 hP 0 rfl rfl d_Mod_act_8 ?_
    refine lv_iconst (v := nI 1) hx hb d_Mod_act_11 (by decide) ?_
    refine lv_isub hx hb d_Mod_act_12 ?_
    refine tope (z := nI 0) (pk_sub (by omega)) ?_
    refine lv_istore (lv' := [(4, .int (nI 0)), (3, .int (-1)), (0, .ref y0), (1, .int (nI 95)), (2, .int ht)]) hx hb d_Mod_act_13 hl (by decide) rfl (fun ls hl => ?_)
    refine lv_iload_n hx hb d_Mod_act_15 rfl (lv_at hl 3 rfl) ?_
    refine lv_bipush (v := nI 82) hx hb d_Mod_act_16 (by decide) ?_
    refine j_eq C 95 82 rfl rfl (by decide) (by decide) d_Mod_act_18 rfl (fun hc9 => absurd hc9 (by decide)) (fun hc9 => ?_)
    refine lv_iload_n hx hb d_Mod_act_21 rfl (lv_at hl 3 rfl) ?_
    refine lv_bipush (v := nI 83) hx hb d_Mod_act_22 (by decide) ?_
    refine j_eq C 95 83 rfl rfl (by decide) (by decide) d_Mod_act_24 rfl (fun hc10 => absurd hc10 (by decide)) (fun hc10 => ?_)
    refine lv_iload_n hx hb d_Mod_act_27 rfl (lv_at hl 3 rfl) ?_
    refine lv_bipush (v := nI 86) hx hb d_Mod_act_28 (by decide) ?_
    refine j_eq C 95 86 rfl rfl (by decide) (by decide) d_Mod_act_30 rfl (fun hc11 => absurd hc11 (by decide)) (fun hc11 => ?_)
    refine lv_iload_n hx hb d_Mod_act_33 rfl (lv_at hl 3 rfl) ?_
    refine lv_bipush (v := nI 89) hx hb d_Mod_act_34 (by decide) ?_
    refine j_lt C 95 89 rfl rfl (by decide) (by decide) d_Mod_act_36 rfl (fun hc12 => absurd hc12 (by decide)) (fun hc12 => ?_)
    refine lv_iload_n hx hb d_Mod_act_39 rfl (lv_at hl 3 rfl) ?_
    refine lv_bipush (v := nI 92) hx hb d_Mod_act_40 (by decide) ?_
    refine j_le C 95 92 rfl rfl (by decide) (by decide) d_Mod_act_42 rfl (fun hc13 => absurd hc13 (by decide)) (fun hc13 => ?_)
    refine lv_iload_n hx hb d_Mod_act_45 rfl (lv_at hl 3 rfl) ?_
    refine lv_bipush (v := nI 95) hx hb d_Mod_act_46 (by decide) ?_
    refine j_ne C 95 95 rfl rfl (by decide) (by decide) d_Mod_act_48 rfl (fun hc14 => absurd hc14 (by decide)) (fun hc14 => ?_)
    refine lv_iconst (v := nI 1) hx hb d_Mod_act_51 (by decide) ?_
    refine lv_goto hx hb d_Mod_act_52 rfl ?_
    refine lv_istore (lv' := [(5, .int (nI 1)), (4, .int (nI 0)), (3, .int (-1)), (0, .ref y0), (1, .int (nI 95)), (2, .int ht)]) hx hb d_Mod_act_56 hl (by decide) rfl (fun ls hl => ?_)
    refine lv_aload_n hx hb d_Mod_act_58 rfl (lv_at hl 3 rfl) ?_
    refine n_get C fg_Mod_66 hP 0 rfl rfl d_Mod_act_59 ?_
    refine lv_iload hx hb d_Mod_act_62 (lv_at hl 0 rfl) ?_
    refine z_eq C 1 rfl (by omega) d_Mod_act_64 rfl (fun hc15 => absurd hc15 (by omega)) (fun hc15 => ?_)
    refine lv_iconst (v := nI 2) hx hb d_Mod_act_67 (by decide) ?_
    refine lv_goto hx hb d_Mod_act_68 rfl ?_
    refine j_ge C 1 2 rfl rfl (by decide) (by decide) d_Mod_act_82 rfl (fun hc16 => absurd hc16 (by decide)) (fun hc16 => ?_)
    refine lv_iconst (v := nI 0) hx hb d_Mod_act_85 (by decide) ?_
    exact kret (nI 0) [(y0, .inr (7, [.ref ya, .int (nI nt), .ref yo, .int (nI no), .ref ym, .ref yl, .ref yg, .ref yw, .ref yh, .ref yc, .ref yd, .ref yb, .ref yk, .ref yz, .int (nI 1), .int (b2 fl), .ref yr])), (yg, .inl (E.2.1, 32, .inl k5)), (yw, .inl (E.2.2.1, 64, .inl k6)), (yh, .inl (E.2.2.1, 8, .inl k7)), (yc, .inl (E.2.1, 32, .inl k8)), (yd, .inl (E.2.1, 32, .inl k9)), (yb, .inl (E.2.1, 512, .inl kb)), (yk, .inl (E.2.1, 1920, .inl f)), (yz, .inl (E.2.2.1, 24, .inl sz))] _ _ _ _ d_Mod_act_86 (⟨_, _, _, _, _, _, _, _, rfl, hB, Or.inr ⟨rfl, rfl⟩⟩) rfl hP hS
  · have hx1 : sz (S.length + 1) = nI x.length ∧ x.length ≤ 80 ∧ lay f ((S.length + 1) * 80) x := rep_top hrep
    have hy1 : sz S.length = nI y.length ∧ y.length ≤ 80 ∧ lay f (S.length * 80) y := rep_top (rep_tail hrep)
    have hr0 : rep f sz S := rep_tail (rep_tail hrep)
    have hlen : S.length + 2 ≤ 24 := hlen
    have hP : va_P E.1 clz [(y0, .inr (7, [.ref ya, .int (nI nt), .ref yo, .int (nI no), .ref ym, .ref yl, .ref yg, .ref yw, .ref yh, .ref yc, .ref yd, .ref yb, .ref yk, .ref yz, .int (nI (S.length + 2)), .int (b2 fl), .ref yr])), (yg, .inl (E.2.1, 32, .inl k5)), (yw, .inl (E.2.2.1, 64, .inl k6)), (yh, .inl (E.2.2.1, 8, .inl k7)), (yc, .inl (E.2.1, 32, .inl k8)), (yd, .inl (E.2.1, 32, .inl k9)), (yb, .inl (E.2.1, 512, .inl kb)), (yk, .inl (E.2.1, 1920, .inl f)), (yz, .inl (E.2.2.1, 24, .inl sz))] H := hP
    have hD : va_D A [(y0, .inr (7, [.ref ya, .int (nI nt), .ref yo, .int (nI no), .ref ym, .ref yl, .ref yg, .ref yw, .ref yh, .ref yc, .ref yd, .ref yb, .ref yk, .ref yz, .int (nI (S.length + 2)), .int (b2 fl), .ref yr])), (yg, .inl (E.2.1, 32, .inl k5)), (yw, .inl (E.2.2.1, 64, .inl k6)), (yh, .inl (E.2.2.1, 8, .inl k7)), (yc, .inl (E.2.1, 32, .inl k8)), (yd, .inl (E.2.1, 32, .inl k9)), (yb, .inl (E.2.1, 512, .inl kb)), (yk, .inl (E.2.1, 1920, .inl f)), (yz, .inl (E.2.2.1, 24, .inl sz))] := hD
    refine lv_aload_n hx hb d_Mod_act_0 rfl (lv_at hl 0 rfl) ?_
    refine n_get C fg_Mod_66 hP 0 rfl rfl d_Mod_act_1 ?_
    refine lv_iconst (v := nI 2) hx hb d_Mod_act_4 (by decide) ?_
    refine lv_isub hx hb d_Mod_act_5 ?_
    refine tope (z := nI S.length) ((pk_sub (by omega)).trans (congrArg nI (by omega))) ?_
    refine lv_istore_n (lv' := [(3, .int (nI S.length)), (0, .ref y0), (1, .int (nI 95)), (2, .int ht)]) hx hb d_Mod_act_6 rfl hl (by decide) rfl (fun ls hl => ?_)
    refine lv_aload_n hx hb d_Mod_act_7 rfl (lv_at hl 1 rfl) ?_
    refine n_get C fg_Mod_66 hP 0 rfl rfl d_Mod_act_8 ?_
    refine lv_iconst (v := nI 1) hx hb d_Mod_act_11 (by decide) ?_
    refine lv_isub hx hb d_Mod_act_12 ?_
    refine tope (z := nI (S.length + 1)) ((pk_sub (by omega)).trans (congrArg nI (by omega))) ?_
    refine lv_istore (lv' := [(4, .int (nI (S.length + 1))), (3, .int (nI S.length)), (0, .ref y0), (1, .int (nI 95)), (2, .int ht)]) hx hb d_Mod_act_13 hl (by decide) rfl (fun ls hl => ?_)
    refine lv_iload_n hx hb d_Mod_act_15 rfl (lv_at hl 3 rfl) ?_
    refine lv_bipush (v := nI 82) hx hb d_Mod_act_16 (by decide) ?_
    refine j_eq C 95 82 rfl rfl (by decide) (by decide) d_Mod_act_18 rfl (fun hc17 => absurd hc17 (by decide)) (fun hc17 => ?_)
    refine lv_iload_n hx hb d_Mod_act_21 rfl (lv_at hl 3 rfl) ?_
    refine lv_bipush (v := nI 83) hx hb d_Mod_act_22 (by decide) ?_
    refine j_eq C 95 83 rfl rfl (by decide) (by decide) d_Mod_act_24 rfl (fun hc18 => absurd hc18 (by decide)) (fun hc18 => ?_)
    refine lv_iload_n hx hb d_Mod_act_27 rfl (lv_at hl 3 rfl) ?_
    refine lv_bipush (v := nI 86) hx hb d_Mod_act_28 (by decide) ?_
    refine j_eq C 95 86 rfl rfl (by decide) (by decide) d_Mod_act_30 rfl (fun hc19 => absurd hc19 (by decide)) (fun hc19 => ?_)
    refine lv_iload_n hx hb d_Mod_act_33 rfl (lv_at hl 3 rfl) ?_
    refine lv_bipush (v := nI 89) hx hb d_Mod_act_34 (by decide) ?_
    refine j_lt C 95 89 rfl rfl (by decide) (by decide) d_Mod_act_36 rfl (fun hc20 => absurd hc20 (by decide)) (fun hc20 => ?_)
    refine lv_iload_n hx hb d_Mod_act_39 rfl (lv_at hl 3 rfl) ?_
    refine lv_bipush (v := nI 92) hx hb d_Mod_act_40 (by decide) ?_
    refine j_le C 95 92 rfl rfl (by decide) (by decide) d_Mod_act_42 rfl (fun hc21 => absurd hc21 (by decide)) (fun hc21 => ?_)
    refine lv_iload_n hx hb d_Mod_act_45 rfl (lv_at hl 3 rfl) ?_
    refine lv_bipush (v := nI 95) hx hb d_Mod_act_46 (by decide) ?_
    refine j_ne C 95 95 rfl rfl (by decide) (by decide) d_Mod_act_48 rfl (fun hc22 => absurd hc22 (by decide)) (fun hc22 => ?_)
    refine lv_iconst (v := nI 1) hx hb d_Mod_act_51 (by decide) ?_
    refine lv_goto hx hb d_Mod_act_52 rfl ?_
    refine lv_istore (lv' := [(5, .int (nI 1)), (4, .int (nI (S.length + 1))), (3, .int (nI S.length)), (0, .ref y0), (1, .int (nI 95)), (2, .int ht)]) hx hb d_Mod_act_56 hl (by decide) rfl (fun ls hl => ?_)
    refine lv_aload_n hx hb d_Mod_act_58 rfl (lv_at hl 3 rfl) ?_
    refine n_get C fg_Mod_66 hP 0 rfl rfl d_Mod_act_59 ?_
    refine lv_iload hx hb d_Mod_act_62 (lv_at hl 0 rfl) ?_
    refine z_eq C 1 rfl (by omega) d_Mod_act_64 rfl (fun hc23 => absurd hc23 (by omega)) (fun hc23 => ?_)
    refine lv_iconst (v := nI 2) hx hb d_Mod_act_67 (by decide) ?_
    refine lv_goto hx hb d_Mod_act_68 rfl ?_
    refine j_ge C (S.length + 2) 2 rfl rfl (by omega) (by omega) d_Mod_act_82 rfl (fun hc24 => ?_) (fun hc24 => absurd hc24 (by omega))
    refine lv_iload_n hx hb d_Mod_act_87 rfl (lv_at hl 4 rfl) ?_
    refine lv_bipush (v := nI 88) hx hb d_Mod_act_88 (by decide) ?_
    refine j_lt C 95 88 rfl rfl (by decide) (by decide) d_Mod_act_90 rfl (fun hc25 => absurd hc25 (by decide)) (fun hc25 => ?_)
    refine lv_iload_n hx hb d_Mod_act_93 rfl (lv_at hl 4 rfl) ?_
    refine lv_bipush (v := nI 91) hx hb d_Mod_act_94 (by decide) ?_
    refine j_le C 95 91 rfl rfl (by decide) (by decide) d_Mod_act_96 rfl (fun hc26 => absurd hc26 (by decide)) (fun hc26 => ?_)
    refine lv_iload_n hx hb d_Mod_act_99 rfl (lv_at hl 4 rfl) ?_
    refine lv_bipush (v := nI 96) hx hb d_Mod_act_100 (by decide) ?_
    refine j_ne C 95 96 rfl rfl (by decide) (by decide) d_Mod_act_102 rfl (fun hc27 => ?_) (fun hc27 => absurd hc27 (by decide))
    refine lv_iconst (v := nI 0) hx hb d_Mod_act_109 (by decide) ?_
    refine lv_istore (lv' := [(6, .int (nI 0)), (5, .int (nI 1)), (4, .int (nI (S.length + 1))), (3, .int (nI S.length)), (0, .ref y0), (1, .int (nI 95)), (2, .int ht)]) hx hb d_Mod_act_110 hl (by decide) rfl (fun ls hl => ?_)
    refine lv_iload hx hb d_Mod_act_112 (lv_at hl 0 rfl) ?_
    refine z_eq C 0 rfl (by omega) d_Mod_act_114 rfl (fun hc28 => ?_) (fun hc28 => absurd hc28 (by omega))
    refine lv_iload hx hb d_Mod_act_145 (lv_at hl 1 rfl) ?_
    refine z_eq C 1 rfl (by omega) d_Mod_act_147 rfl (fun hc29 => absurd hc29 (by omega)) (fun hc29 => ?_)
    refine lv_iload hx hb d_Mod_act_150 (lv_at hl 0 rfl) ?_
    refine z_eq C 0 rfl (by omega) d_Mod_act_152 rfl (fun hc30 => ?_) (fun hc30 => absurd hc30 (by omega))
    refine lv_iconst (v := nI 0) hx hb d_Mod_act_163 (by decide) ?_
    refine lv_istore (lv' := [(7, .int (nI 0)), (6, .int (nI 0)), (5, .int (nI 1)), (4, .int (nI (S.length + 1))), (3, .int (nI S.length)), (0, .ref y0), (1, .int (nI 95)), (2, .int ht)]) hx hb d_Mod_act_164 hl (by decide) rfl (fun ls hl => ?_)
    refine lv_iload hx hb d_Mod_act_166 (lv_at hl 1 rfl) ?_
    refine z_eq C 0 rfl (by omega) d_Mod_act_168 rfl (fun hc31 => ?_) (fun hc31 => absurd hc31 (by omega))
    refine lv_iconst (v := nI 0) hx hb d_Mod_act_180 (by decide) ?_
    refine lv_istore (lv' := [(8, .int (nI 0)), (7, .int (nI 0)), (6, .int (nI 0)), (5, .int (nI 1)), (4, .int (nI (S.length + 1))), (3, .int (nI S.length)), (0, .ref y0), (1, .int (nI 95)), (2, .int ht)]) hx hb d_Mod_act_181 hl (by decide) rfl (fun ls hl => ?_)
    refine lv_iload_n hx hb d_Mod_act_183 rfl (lv_at hl 7 rfl) ?_
    refine lv_tableIn hx hb d_Mod_act_184 (by decide) (by decide) rfl rfl ?_
    refine lv_aload_n hx hb d_Mod_act_763 rfl (lv_at hl 6 rfl) ?_
    refine lv_iload_n hx hb d_Mod_act_764 rfl (lv_at hl 5 rfl) ?_
    refine lv_iload hx hb d_Mod_act_765 (lv_at hl 4 rfl) ?_
    refine cal_I (As := [.int (nI S.length), .int (nI (S.length + 1))]) (rest := []) C lk_Mod_85 (c_Mod_signed l E y0 ya yo ym yl yg yw yh yc yd yb yk yz yr nt no (S.length + 2) fl k5 k6 k7 k8 k9 kb f sz msg S.length y (by omega) hy1 (S.length + 1) x (by omega) hx1.1 hx1.2.1 hx1.2.2 hB hB5 hm hm32) (by decide) hP hD hS 0 7 rfl rfl [0, 1, 2, 3, 4, 5, 6, 7, 8] rfl (by decide) hl.1 rfl (Nat.le_of_ble_eq_true rfl) d_Mod_act_767 (fun r37 w1 H locs hp38 hP hD hS => ?_)
    obtain ⟨rfl, w_32, h_33, o_34, g_35, u_36, rfl⟩ := hp38
    have hP : va_P E.1 clz [(y0, .inr (7, [.ref ya, .int (nI nt), .ref yo, .int (nI no), .ref ym, .ref yl, .ref yg, .ref yw, .ref yh, .ref yc, .ref yd, .ref yb, .ref yk, .ref yz, .int (nI (S.length + 2)), .int (b2 fl), .ref yr])), (yg, .inl (E.2.1, 32, .inl k5)), (yw, .inl (E.2.2.1, 64, .inl w_32)), (yh, .inl (E.2.2.1, 8, .inl h_33)), (yc, .inl (E.2.1, 32, .inl o_34)), (yd, .inl (E.2.1, 32, .inl g_35)), (yb, .inl (E.2.1, 512, .inl u_36)), (yk, .inl (E.2.1, 1920, .inl f)), (yz, .inl (E.2.2.1, 24, .inl sz))] H := hP
    have hD : va_D A [(y0, .inr (7, [.ref ya, .int (nI nt), .ref yo, .int (nI no), .ref ym, .ref yl, .ref yg, .ref yw, .ref yh, .ref yc, .ref yd, .ref yb, .ref yk, .ref yz, .int (nI (S.length + 2)), .int (b2 fl), .ref yr])), (yg, .inl (E.2.1, 32, .inl k5)), (yw, .inl (E.2.2.1, 64, .inl w_32)), (yh, .inl (E.2.2.1, 8, .inl h_33)), (yc, .inl (E.2.1, 32, .inl o_34)), (yd, .inl (E.2.1, 32, .inl g_35)), (yb, .inl (E.2.1, 512, .inl u_36)), (yk, .inl (E.2.1, 1920, .inl f)), (yz, .inl (E.2.2.1, 24, .inl sz))] := hD
    refine lv_istore (lv' := [(10, .int (b2 (decide (y = sigL msg x)))), (8, .int (nI 0)), (7, .int (nI 0)), (6, .int (nI 0)), (5, .int (nI 1)), (4, .int (nI (S.length + 1))), (3, .int (nI S.length)), (0, .ref y0), (1, .int (nI 95)), (2, .int ht)]) hx hb d_Mod_act_770 hl (by decide) rfl (fun ls hl => ?_)
    refine lv_aload_n hx hb d_Mod_act_772 rfl (lv_at hl 7 rfl) ?_
    refine lv_dup hx hb d_Mod_act_773 rfl ?_
    refine n_get C fg_Mod_66 hP 0 rfl rfl d_Mod_act_774 ?_
    refine lv_iconst (v := nI 2) hx hb d_Mod_act_777 (by decide) ?_
    refine lv_isub hx hb d_Mod_act_778 ?_
    refine tope (z := nI S.length) ((pk_sub (by omega)).trans (congrArg nI (by omega))) ?_
    refine n_put (v := .int (nI S.length)) C fp_Mod_66 hP hD hS 0 rfl (rfl) rfl (Nat.le_of_ble_eq_true rfl) d_Mod_act_779 (fun H locs hP hD hS => ?_)
    have hP : va_P E.1 clz [(y0, .inr (7, [.ref ya, .int (nI nt), .ref yo, .int (nI no), .ref ym, .ref yl, .ref yg, .ref yw, .ref yh, .ref yc, .ref yd, .ref yb, .ref yk, .ref yz, .int (nI S.length), .int (b2 fl), .ref yr])), (yg, .inl (E.2.1, 32, .inl k5)), (yw, .inl (E.2.2.1, 64, .inl w_32)), (yh, .inl (E.2.2.1, 8, .inl h_33)), (yc, .inl (E.2.1, 32, .inl o_34)), (yd, .inl (E.2.1, 32, .inl g_35)), (yb, .inl (E.2.1, 512, .inl u_36)), (yk, .inl (E.2.1, 1920, .inl f)), (yz, .inl (E.2.2.1, 24, .inl sz))] H := hP
    have hD : va_D A [(y0, .inr (7, [.ref ya, .int (nI nt), .ref yo, .int (nI no), .ref ym, .ref yl, .ref yg, .ref yw, .ref yh, .ref yc, .ref yd, .ref yb, .ref yk, .ref yz, .int (nI S.length), .int (b2 fl), .ref yr])), (yg, .inl (E.2.1, 32, .inl k5)), (yw, .inl (E.2.2.1, 64, .inl w_32)), (yh, .inl (E.2.2.1, 8, .inl h_33)), (yc, .inl (E.2.1, 32, .inl o_34)), (yd, .inl (E.2.1, 32, .inl g_35)), (yb, .inl (E.2.1, 512, .inl u_36)), (yk, .inl (E.2.1, 1920, .inl f)), (yz, .inl (E.2.2.1, 24, .inl sz))] := hD
    refine lv_aload_n hx hb d_Mod_act_782 rfl (lv_at hl 7 rfl) ?_
    refine lv_iload hx hb d_Mod_act_783 (lv_at hl 0 rfl) ?_
    refine zb_eq C (decide (y = sigL msg x)) rfl d_Mod_act_785 rfl (fun hc39 => ?_) (fun hc39 => ?_)
    · refine lv_iconst (v := nI 0) hx hb d_Mod_act_792 (by decide) ?_
      refine cal_I (As := [.int (nI 0)]) (rest := []) C lk_Mod_89 (c_Mod_pushNumber l E y0 ya yo ym yl yg yw yh yc yd yb yk yz yr nt no fl f sz o_34 S (nI 0) hr0 hB (by first | omega | (simp only [List.length_cons]; omega) | (rw [List.length_drop]; omega))) (by decide) hP hD hS 0 7 rfl rfl [0, 7, 8, 4] rfl (by decide) hl.1 rfl (Nat.le_of_ble_eq_true rfl) d_Mod_act_793 (fun r45 w1 H locs hp46 hP hD hS => ?_)
      obtain ⟨rfl, fq40, zq41, cq42, rfl, hrq43, hbq44⟩ := hp46
      have hP : va_P E.1 clz [(y0, .inr (7, [.ref ya, .int (nI nt), .ref yo, .int (nI no), .ref ym, .ref yl, .ref yg, .ref yw, .ref yh, .ref yc, .ref yd, .ref yb, .ref yk, .ref yz, .int (nI (S.length + 1)), .int (b2 fl), .ref yr])), (yg, .inl (E.2.1, 32, .inl k5)), (yw, .inl (E.2.2.1, 64, .inl w_32)), (yh, .inl (E.2.2.1, 8, .inl h_33)), (yc, .inl (E.2.1, 32, .inl cq42)), (yd, .inl (E.2.1, 32, .inl g_35)), (yb, .inl (E.2.1, 512, .inl u_36)), (yk, .inl (E.2.1, 1920, .inl fq40)), (yz, .inl (E.2.2.1, 24, .inl zq41))] H := hP
      have hD : va_D A [(y0, .inr (7, [.ref ya, .int (nI nt), .ref yo, .int (nI no), .ref ym, .ref yl, .ref yg, .ref yw, .ref yh, .ref yc, .ref yd, .ref yb, .ref yk, .ref yz, .int (nI (S.length + 1)), .int (b2 fl), .ref yr])), (yg, .inl (E.2.1, 32, .inl k5)), (yw, .inl (E.2.2.1, 64, .inl w_32)), (yh, .inl (E.2.2.1, 8, .inl h_33)), (yc, .inl (E.2.1, 32, .inl cq42)), (yd, .inl (E.2.1, 32, .inl g_35)), (yb, .inl (E.2.1, 512, .inl u_36)), (yk, .inl (E.2.1, 1920, .inl fq40)), (yz, .inl (E.2.2.1, 24, .inl zq41))] := hD
      exact kret (b2 true) [(y0, .inr (7, [.ref ya, .int (nI nt), .ref yo, .int (nI no), .ref ym, .ref yl, .ref yg, .ref yw, .ref yh, .ref yc, .ref yd, .ref yb, .ref yk, .ref yz, .int (nI (S.length + 1)), .int (b2 fl), .ref yr])), (yg, .inl (E.2.1, 32, .inl k5)), (yw, .inl (E.2.2.1, 64, .inl w_32)), (yh, .inl (E.2.2.1, 8, .inl h_33)), (yc, .inl (E.2.1, 32, .inl cq42)), (yd, .inl (E.2.1, 32, .inl g_35)), (yb, .inl (E.2.1, 512, .inl u_36)), (yk, .inl (E.2.1, 1920, .inl fq40)), (yz, .inl (E.2.2.1, 24, .inl zq41))] _ _ _ _ d_Mod_act_796 (⟨_, _, _, _, _, _, _, _, rfl, hbq44, Or.inl ⟨(numB (b2 false) :: S), by show some (numB (b2 (decide (y = sigL msg x))) :: S) = _; rw [hc39], rfl, by first | rfl | (simp only [List.length_cons]; omega) | (simp only [List.length_cons]), hrq43, by first | (simp only [List.length_cons]; omega) | (simp only [List.length_cons]) | omega⟩⟩) rfl hP hS
    · refine lv_iconst (v := nI 1) hx hb d_Mod_act_788 (by decide) ?_
      refine lv_goto hx hb d_Mod_act_789 rfl ?_
      refine cal_I (As := [.int (nI 1)]) (rest := []) C lk_Mod_89 (c_Mod_pushNumber l E y0 ya yo ym yl yg yw yh yc yd yb yk yz yr nt no fl f sz o_34 S (nI 1) hr0 hB (by first | omega | (simp only [List.length_cons]; omega) | (rw [List.length_drop]; omega))) (by decide) hP hD hS 0 7 rfl rfl [0, 7, 8, 4] rfl (by decide) hl.1 rfl (Nat.le_of_ble_eq_true rfl) d_Mod_act_793 (fun r52 w1 H locs hp53 hP hD hS => ?_)
      obtain ⟨rfl, fq47, zq48, cq49, rfl, hrq50, hbq51⟩ := hp53
      have hP : va_P E.1 clz [(y0, .inr (7, [.ref ya, .int (nI nt), .ref yo, .int (nI no), .ref ym, .ref yl, .ref yg, .ref yw, .ref yh, .ref yc, .ref yd, .ref yb, .ref yk, .ref yz, .int (nI (S.length + 1)), .int (b2 fl), .ref yr])), (yg, .inl (E.2.1, 32, .inl k5)), (yw, .inl (E.2.2.1, 64, .inl w_32)), (yh, .inl (E.2.2.1, 8, .inl h_33)), (yc, .inl (E.2.1, 32, .inl cq49)), (yd, .inl (E.2.1, 32, .inl g_35)), (yb, .inl (E.2.1, 512, .inl u_36)), (yk, .inl (E.2.1, 1920, .inl fq47)), (yz, .inl (E.2.2.1, 24, .inl zq48))] H := hP
      have hD : va_D A [(y0, .inr (7, [.ref ya, .int (nI nt), .ref yo, .int (nI no), .ref ym, .ref yl, .ref yg, .ref yw, .ref yh, .ref yc, .ref yd, .ref yb, .ref yk, .ref yz, .int (nI (S.length + 1)), .int (b2 fl), .ref yr])), (yg, .inl (E.2.1, 32, .inl k5)), (yw, .inl (E.2.2.1, 64, .inl w_32)), (yh, .inl (E.2.2.1, 8, .inl h_33)), (yc, .inl (E.2.1, 32, .inl cq49)), (yd, .inl (E.2.1, 32, .inl g_35)), (yb, .inl (E.2.1, 512, .inl u_36)), (yk, .inl (E.2.1, 1920, .inl fq47)), (yz, .inl (E.2.2.1, 24, .inl zq48))] := hD
      exact kret (b2 true) [(y0, .inr (7, [.ref ya, .int (nI nt), .ref yo, .int (nI no), .ref ym, .ref yl, .ref yg, .ref yw, .ref yh, .ref yc, .ref yd, .ref yb, .ref yk, .ref yz, .int (nI (S.length + 1)), .int (b2 fl), .ref yr])), (yg, .inl (E.2.1, 32, .inl k5)), (yw, .inl (E.2.2.1, 64, .inl w_32)), (yh, .inl (E.2.2.1, 8, .inl h_33)), (yc, .inl (E.2.1, 32, .inl cq49)), (yd, .inl (E.2.1, 32, .inl g_35)), (yb, .inl (E.2.1, 512, .inl u_36)), (yk, .inl (E.2.1, 1920, .inl fq47)), (yz, .inl (E.2.2.1, 24, .inl zq48))] _ _ _ _ d_Mod_act_796 (⟨_, _, _, _, _, _, _, _, rfl, hbq51, Or.inl ⟨(numB (b2 true) :: S), by show some (numB (b2 (decide (y = sigL msg x))) :: S) = _; rw [hc39], rfl, by first | rfl | (simp only [List.length_cons]; omega) | (simp only [List.length_cons]), hrq50, by first | (simp only [List.length_cons]; omega) | (simp only [List.length_cons]) | omega⟩⟩) rfl hP hS

set_option maxHeartbeats 4000000 in
set_option maxRecDepth 100000 in
theorem c_act_96 (l : Launch) (E : En) (y0 ya yo ym yl yg yw yh yc yd yb yk yz yr nt no : Nat) (fl : Bool) (k5 k6 k7 k8 k9 kb f sz : Nat → Int32) (S : Stk) (msg : Byl) (hrep : rep f sz S) (hB : fB f) (hB5 : fB k5) (hlen : S.length ≤ 24) (hm : lay k5 0 msg) (hm32 : msg.length = 32) (ht : Int32) : CtI l y_Mod_act b_Mod_act 11 .boolean (rmd 4) E [.ref y0, .int (nI 96), .int ht] [(y0, .inr (7, [.ref ya, .int (nI nt), .ref yo, .int (nI no), .ref ym, .ref yl, .ref yg, .ref yw, .ref yh, .ref yc, .ref yd, .ref yb, .ref yk, .ref yz, .int (nI S.length), .int (b2 fl), .ref yr])), (yg, .inl (E.2.1, 32, .inl k5)), (yw, .inl (E.2.2.1, 64, .inl k6)), (yh, .inl (E.2.2.1, 8, .inl k7)), (yc, .inl (E.2.1, 32, .inl k8)), (yd, .inl (E.2.1, 32, .inl k9)), (yb, .inl (E.2.1, 512, .inl kb)), (yk, .inl (E.2.1, 1920, .inl f)), (yz, .inl (E.2.2.1, 24, .inl sz))] (stepM E y0 ya yo ym yl yg yw yh yc yd yb yk yz yr nt no fl k5 (actS 96 ht msg S)) := by
  refine CtI.of (by decide) (Nat.le_of_ble_eq_true rfl) (stepM_nar) ?_
  intro p e s m args below meth c A Q H locs ls C hP hD hS hl kret
  have hx := C.1
  have hb := C.2.1
  have hl : lv_has ls 11 [(0, .ref y0), (1, .int (nI 96)), (2, .int ht)] := hl
  rcases S with _ | ⟨x, S⟩
  · have hP : va_P E.1 clz [(y0, .inr (7, [.ref ya, .int (nI nt), .ref yo, .int (nI no), .ref ym, .ref yl, .ref yg, .ref yw, .ref yh, .ref yc, .ref yd, .ref yb, .ref yk, .ref yz, .int (nI 0), .int (b2 fl), .ref yr])), (yg, .inl (E.2.1, 32, .inl k5)), (yw, .inl (E.2.2.1, 64, .inl k6)), (yh, .inl (E.2.2.1, 8, .inl k7)), (yc, .inl (E.2.1, 32, .inl k8)), (yd, .inl (E.2.1, 32, .inl k9)), (yb, .inl (E.2.1, 512, .inl kb)), (yk, .inl (E.2.1, 1920, .inl f)), (yz, .inl (E.2.2.1, 24, .inl sz))] H := hP
    have hD : va_D A [(y0, .inr (7, [.ref ya, .int (nI nt), .ref yo, .int (nI no), .ref ym, .ref yl, .ref yg, .ref yw, .ref yh, .ref yc, .ref yd, .ref yb, .ref yk, .ref yz, .int (nI 0), .int (b2 fl), .ref yr])), (yg, .inl (E.2.1, 32, .inl k5)), (yw, .inl (E.2.2.1, 64, .inl k6)), (yh, .inl (E.2.2.1, 8, .inl k7)), (yc, .inl (E.2.1, 32, .inl k8)), (yd, .inl (E.2.1, 32, .inl k9)), (yb, .inl (E.2.1, 512, .inl kb)), (yk, .inl (E.2.1, 1920, .inl f)), (yz, .inl (E.2.2.1, 24, .inl sz))] := hD
    refine lv_aload_n hx hb d_Mod_act_0 rfl (lv_at hl 0 rfl) ?_
    refine n_get C fg_Mod_66 hP 0 rfl rfl d_Mod_act_1 ?_
    refine lv_iconst (v := nI 2) hx hb d_Mod_act_4 (by decide) ?_
    refine lv_isub hx hb d_Mod_act_5 ?_
    refine tope (z := (-2)) (by decide) ?_
    refine lv_istore_n (lv' := [(3, .int (-2)), (0, .ref y0), (1, .int (nI 96)), (2, .int ht)]) hx hb d_Mod_act_6 rfl hl (by decide) rfl (fun ls hl => ?_)
    refine lv_aload_n hx hb d_Mod_act_7 rfl (lv_at hl 1 rfl) ?_
    refine n_get C fg_Mod_66 hP 0 rfl rfl d_Mod_act_8 ?_
    refine lv_iconst (v := nI 1) hx hb d_Mod_act_11 (by decide) ?_
    refine lv_isub hx hb d_Mod_act_12 ?_
    refine tope (z := (-1)) (by decide) ?_
    refine lv_istore (lv' := [(4, .int (-1)), (3, .int (-2)), (0, .ref y0), (1, .int (nI 96)), (2, .int ht)]) hx hb d_Mod_act_13 hl (by decide) rfl (fun ls hl => ?_)
    refine lv_iload_n hx hb d_Mod_act_15 rfl (lv_at hl 3 rfl) ?_
    refine lv_bipush (v := nI 82) hx hb d_Mod_act_16 (by decide) ?_
    refine j_eq C 96 82 rfl rfl (by decide) (by decide) d_Mod_act_18 rfl (fun hc1 => absurd hc1 (by decide)) (fun hc1 => ?_)
    refine lv_iload_n hx hb d_Mod_act_21 rfl (lv_at hl 3 rfl) ?_
    refine lv_bipush (v := nI 83) hx hb d_Mod_act_22 (by decide) ?_
    refine j_eq C 96 83 rfl rfl (by decide) (by decide) d_Mod_act_24 rfl (fun hc2 => absurd hc2 (by decide)) (fun hc2 => ?_)
    refine lv_iload_n hx hb d_Mod_act_27 rfl (lv_at hl 3 rfl) ?_
    refine lv_bipush (v := nI 86) hx hb d_Mod_act_28 (by decide) ?_
    refine j_eq C 96 86 rfl rfl (by decide) (by decide) d_Mod_act_30 rfl (fun hc3 => absurd hc3 (by decide)) (fun hc3 => ?_)
    refine lv_iload_n hx hb d_Mod_act_33 rfl (lv_at hl 3 rfl) ?_
    refine lv_bipush (v := nI 89) hx hb d_Mod_act_34 (by decide) ?_
    refine j_lt C 96 89 rfl rfl (by decide) (by decide) d_Mod_act_36 rfl (fun hc4 => absurd hc4 (by decide)) (fun hc4 => ?_)
    refine lv_iload_n hx hb d_Mod_act_39 rfl (lv_at hl 3 rfl) ?_
    refine lv_bipush (v := nI 92) hx hb d_Mod_act_40 (by decide) ?_
    refine j_le C 96 92 rfl rfl (by decide) (by decide) d_Mod_act_42 rfl (fun hc5 => absurd hc5 (by decide)) (fun hc5 => ?_)
    refine lv_iload_n hx hb d_Mod_act_45 rfl (lv_at hl 3 rfl) ?_
    refine lv_bipush (v := nI 95) hx hb d_Mod_act_46 (by decide) ?_
    refine j_ne C 96 95 rfl rfl (by decide) (by decide) d_Mod_act_48 rfl (fun hc6 => ?_) (fun hc6 => absurd hc6 (by decide))
    refine lv_iconst (v := nI 0) hx hb d_Mod_act_55 (by decide) ?_
    refine lv_istore (lv' := [(5, .int (nI 0)), (4, .int (-1)), (3, .int (-2)), (0, .ref y0), (1, .int (nI 96)), (2, .int ht)]) hx hb d_Mod_act_56 hl (by decide) rfl (fun ls hl => ?_)
    refine lv_aload_n hx hb d_Mod_act_58 rfl (lv_at hl 3 rfl) ?_
    refine n_get C fg_Mod_66 hP 0 rfl rfl d_Mod_act_59 ?_
    refine lv_iload hx hb d_Mod_act_62 (lv_at hl 0 rfl) ?_
    refine z_eq C 0 rfl (by omega) d_Mod_act_64 rfl (fun hc7 => ?_) (fun hc7 => absurd hc7 (by omega))
    refine lv_iload_n hx hb d_Mod_act_71 rfl (lv_at hl 4 rfl) ?_
    refine lv_bipush (v := nI 102) hx hb d_Mod_act_72 (by decide) ?_
    refine j_ne C 96 102 rfl rfl (by decide) (by decide) d_Mod_act_74 rfl (fun hc8 => ?_) (fun hc8 => absurd hc8 (by decide))
    refine lv_iconst (v := nI 1) hx hb d_Mod_act_81 (by decide) ?_
    refine j_ge C 0 1 rfl rfl (by decide) (by decide) d_Mod_act_82 rfl (fun hc9 => absurd hc9 (by decide)) (fun hc9 => ?_)
    refine lv_iconst (v := nI 0) hx hb d_Mod_act_85 (by decide) ?_
    exact kret (nI 0) [(y0, .inr (7, [.ref ya, .int (nI nt), .ref yo, .int (nI no), .ref ym, .ref yl, .ref yg, .ref yw, .ref yh, .ref yc, .ref yd, .ref yb, .ref yk, .ref yz, .int (nI 0), .int (b2 fl), .ref yr])), (yg, .inl (E.2.1, 32, .inl k5)), (yw, .inl (E.2.2.1, 64, .inl k6)), (yh, .inl (E.2.2.1, 8, .inl k7)), (yc, .inl (E.2.1, 32, .inl k8)), (yd, .inl (E.2.1, 32, .inl k9)), (yb, .inl (E.2.1, 512, .inl kb)), (yk, .inl (E.2.1, 1920, .inl f)), (yz, .inl (E.2.2.1, 24, .inl sz))] _ _ _ _ d_Mod_act_86 (⟨_, _, _, _, _, _, _, _, rfl, hB, Or.inr ⟨rfl, rfl⟩⟩) rfl hP hS
  · have hx1 : sz S.length = nI x.length ∧ x.length ≤ 80 ∧ lay f (S.length * 80) x := rep_top hrep
    have hr0 : rep f sz S := rep_tail hrep
    have hlen : S.length + 1 ≤ 24 := hlen
    have hP : va_P E.1 clz [(y0, .inr (7, [.ref ya, .int (nI nt), .ref yo, .int (nI no), .ref ym, .ref yl, .ref yg, .ref yw, .ref yh, .ref yc, .ref yd, .ref yb, .ref yk, .ref yz, .int (nI (S.length + 1)), .int (b2 fl), .ref yr])), (yg, .inl (E.2.1, 32, .inl k5)), (yw, .inl (E.2.2.1, 64, .inl k6)), (yh, .inl (E.2.2.1, 8, .inl k7)), (yc, .inl (E.2.1, 32, .inl k8)), (yd, .inl (E.2.1, 32, .inl k9)), (yb, .inl (E.2.1, 512, .inl kb)), (yk, .inl (E.2.1, 1920, .inl f)), (yz, .inl (E.2.2.1, 24, .inl sz))] H := hP
    have hD : va_D A [(y0, .inr (7, [.ref ya, .int (nI nt), .ref yo, .int (nI no), .ref ym, .ref yl, .ref yg, .ref yw, .ref yh, .ref yc, .ref yd, .ref yb, .ref yk, .ref yz, .int (nI (S.length + 1)), .int (b2 fl), .ref yr])), (yg, .inl (E.2.1, 32, .inl k5)), (yw, .inl (E.2.2.1, 64, .inl k6)), (yh, .inl (E.2.2.1, 8, .inl k7)), (yc, .inl (E.2.1, 32, .inl k8)), (yd, .inl (E.2.1, 32, .inl k9)), (yb, .inl (E.2.1, 512, .inl kb)), (yk, .inl (E.2.1, 1920, .inl f)), (yz, .inl (E.2.2.1, 24, .inl sz))] := hD
    refine lv_aload_n hx hb d_Mod_act_0 rfl (lv_at hl 0 rfl) ?_
    refine n_get C fg_Mod_66 hP 0 rfl rfl d_Mod_act_1 ?_
    refine lv_iconst (v := nI 2) hx hb d_Mod_act_4 (by decide) ?_
    refine lv_isub hx hb d_Mod_act_5 ?_
    refine lv_istore_n (lv' := [(3, .int ((nI (S.length + 1)) - (nI 2))), (0, .ref y0), (1, .int (nI 96)), (2, .int ht)]) hx hb d_Mod_act_6 rfl hl (by decide) rfl (fun ls hl => ?_)
    refine lv_aload_n hx hb d_Mod_act_7 rfl (lv_at hl 1 rfl) ?_
    refine n_get C fg_Mod_66 hP 0 rfl rfl d_Mod_act_8 ?_
    refine lv_iconst (v := nI 1) hx hb d_Mod_act_11 (by decide) ?_
    refine lv_isub hx hb d_Mod_act_12 ?_
    refine tope (z := nI S.length) ((pk_sub (by omega)).trans (congrArg nI (by omega))) ?_
    refine lv_istore (lv' := [(4, .int (nI S.length)), (3, .int ((nI (S.length + 1)) - (nI 2))), (0, .ref y0), (1, .int (nI 96)), (2, .int ht)]) hx hb d_Mod_act_13 hl (by decide) rfl (fun ls hl => ?_)
    refine lv_iload_n hx hb d_Mod_act_15 rfl (lv_at hl 3 rfl) ?_
    refine lv_bipush (v := nI 82) hx hb d_Mod_act_16 (by decide) ?_
    refine j_eq C 96 82 rfl rfl (by decide) (by decide) d_Mod_act_18 rfl (fun hc10 => absurd hc10 (by decide)) (fun hc10 => ?_)
    refine lv_iload_n hx hb d_Mod_act_21 rfl (lv_at hl 3 rfl) ?_
    refine lv_bipush (v := nI 83) hx hb d_Mod_act_22 (by decide) ?_
    refine j_eq C 96 83 rfl rfl (by decide) (by decide) d_Mod_act_24 rfl (fun hc11 => absurd hc11 (by decide)) (fun hc11 => ?_)
    refine lv_iload_n hx hb d_Mod_act_27 rfl (lv_at hl 3 rfl) ?_
    refine lv_bipush (v := nI 86) hx hb d_Mod_act_28 (by decide) ?_
    refine j_eq C 96 86 rfl rfl (by decide) (by decide) d_Mod_act_30 rfl (fun hc12 => absurd hc12 (by decide)) (fun hc12 => ?_)
    refine lv_iload_n hx hb d_Mod_act_33 rfl (lv_at hl 3 rfl) ?_
    refine lv_bipush (v := nI 89) hx hb d_Mod_act_34 (by decide) ?_
    refine j_lt C 96 89 rfl rfl (by decide) (by decide) d_Mod_act_36 rfl (fun hc13 => absurd hc13 (by decide)) (fun hc13 => ?_)
    refine lv_iload_n hx hb d_Mod_act_39 rfl (lv_at hl 3 rfl) ?_
    refine lv_bipush (v := nI 92) hx hb d_Mod_act_40 (by decide) ?_
    refine j_le C 96 92 rfl rfl (by decide) (by decide) d_Mod_act_42 rfl (fun hc14 => absurd hc14 (by decide)) (fun hc14 => ?_)
    refine lv_iload_n hx hb d_Mod_act_45 rfl (lv_at hl 3 rfl) ?_
    refine lv_bipush (v := nI 95) hx hb d_Mod_act_46 (by decide) ?_
    refine j_ne C 96 95 rfl rfl (by decide) (by decide) d_Mod_act_48 rfl (fun hc15 => ?_) (fun hc15 => absurd hc15 (by decide))
    refine lv_iconst (v := nI 0) hx hb d_Mod_act_55 (by decide) ?_
    refine lv_istore (lv' := [(5, .int (nI 0)), (4, .int (nI S.length)), (3, .int ((nI (S.length + 1)) - (nI 2))), (0, .ref y0), (1, .int (nI 96)), (2, .int ht)]) hx hb d_Mod_act_56 hl (by decide) rfl (fun ls hl => ?_)
    refine lv_aload_n hx hb d_Mod_act_58 rfl (lv_at hl 3 rfl) ?_
    refine n_get C fg_Mod_66 hP 0 rfl rfl d_Mod_act_59 ?_
    refine lv_iload hx hb d_Mod_act_62 (lv_at hl 0 rfl) ?_
    refine z_eq C 0 rfl (by omega) d_Mod_act_64 rfl (fun hc16 => ?_) (fun hc16 => absurd hc16 (by omega))
    refine lv_iload_n hx hb d_Mod_act_71 rfl (lv_at hl 4 rfl) ?_
    refine lv_bipush (v := nI 102) hx hb d_Mod_act_72 (by decide) ?_
    refine j_ne C 96 102 rfl rfl (by decide) (by decide) d_Mod_act_74 rfl (fun hc17 => ?_) (fun hc17 => absurd hc17 (by decide))
    refine lv_iconst (v := nI 1) hx hb d_Mod_act_81 (by decide) ?_
    refine j_ge C (S.length + 1) 1 rfl rfl (by omega) (by omega) d_Mod_act_82 rfl (fun hc18 => ?_) (fun hc18 => absurd hc18 (by omega))
    refine lv_iload_n hx hb d_Mod_act_87 rfl (lv_at hl 4 rfl) ?_
    refine lv_bipush (v := nI 88) hx hb d_Mod_act_88 (by decide) ?_
    refine j_lt C 96 88 rfl rfl (by decide) (by decide) d_Mod_act_90 rfl (fun hc19 => absurd hc19 (by decide)) (fun hc19 => ?_)
    refine lv_iload_n hx hb d_Mod_act_93 rfl (lv_at hl 4 rfl) ?_
    refine lv_bipush (v := nI 91) hx hb d_Mod_act_94 (by decide) ?_
    refine j_le C 96 91 rfl rfl (by decide) (by decide) d_Mod_act_96 rfl (fun hc20 => absurd hc20 (by decide)) (fun hc20 => ?_)
    refine lv_iload_n hx hb d_Mod_act_99 rfl (lv_at hl 4 rfl) ?_
    refine lv_bipush (v := nI 96) hx hb d_Mod_act_100 (by decide) ?_
    refine j_ne C 96 96 rfl rfl (by decide) (by decide) d_Mod_act_102 rfl (fun hc21 => absurd hc21 (by decide)) (fun hc21 => ?_)
    refine lv_iconst (v := nI 1) hx hb d_Mod_act_105 (by decide) ?_
    refine lv_goto hx hb d_Mod_act_106 rfl ?_
    refine lv_istore (lv' := [(6, .int (nI 1)), (5, .int (nI 0)), (4, .int (nI S.length)), (3, .int ((nI (S.length + 1)) - (nI 2))), (0, .ref y0), (1, .int (nI 96)), (2, .int ht)]) hx hb d_Mod_act_110 hl (by decide) rfl (fun ls hl => ?_)
    refine lv_iload hx hb d_Mod_act_112 (lv_at hl 0 rfl) ?_
    refine z_eq C 1 rfl (by omega) d_Mod_act_114 rfl (fun hc22 => absurd hc22 (by omega)) (fun hc22 => ?_)
    refine lv_aload_n hx hb d_Mod_act_117 rfl (lv_at hl 4 rfl) ?_
    refine n_get C fg_Mod_44 hP 0 rfl rfl d_Mod_act_118 ?_
    refine lv_iload hx hb d_Mod_act_121 (lv_at hl 2 rfl) ?_
    refine n_iald C hP 8 rfl S.length rfl (by omega) (by omega) d_Mod_act_123 ?_
    refine tope (z := nI x.length) (hx1.1) ?_
    refine lv_iconst (v := nI 4) hx hb d_Mod_act_124 (by decide) ?_
    refine j_gt C x.length 4 rfl rfl (by omega) (by omega) d_Mod_act_125 rfl (fun hc23 => ?_) (fun hc23 => ?_)
    · refine lv_iconst (v := nI 0) hx hb d_Mod_act_143 (by decide) ?_
      exact kret (nI 0) [(y0, .inr (7, [.ref ya, .int (nI nt), .ref yo, .int (nI no), .ref ym, .ref yl, .ref yg, .ref yw, .ref yh, .ref yc, .ref yd, .ref yb, .ref yk, .ref yz, .int (nI (S.length + 1)), .int (b2 fl), .ref yr])), (yg, .inl (E.2.1, 32, .inl k5)), (yw, .inl (E.2.2.1, 64, .inl k6)), (yh, .inl (E.2.2.1, 8, .inl k7)), (yc, .inl (E.2.1, 32, .inl k8)), (yd, .inl (E.2.1, 32, .inl k9)), (yb, .inl (E.2.1, 512, .inl kb)), (yk, .inl (E.2.1, 1920, .inl f)), (yz, .inl (E.2.2.1, 24, .inl sz))] _ _ _ _ d_Mod_act_144 (⟨_, _, _, _, _, _, _, _, rfl, hB, Or.inr ⟨by show (if x.length ≤ 4 ∧ numL x ≤ ht then some S else none) = _; rw [if_neg (fun q => by omega)], rfl⟩⟩) rfl hP hS
    · refine lv_iload hx hb d_Mod_act_128 (lv_at hl 1 rfl) ?_
      refine z_eq C 0 rfl (by omega) d_Mod_act_130 rfl (fun hc24 => ?_) (fun hc24 => absurd hc24 (by omega))
      refine lv_iload hx hb d_Mod_act_145 (lv_at hl 1 rfl) ?_
      refine z_eq C 0 rfl (by omega) d_Mod_act_147 rfl (fun hc25 => ?_) (fun hc25 => absurd hc25 (by omega))
      refine lv_iconst (v := nI 0) hx hb d_Mod_act_163 (by decide) ?_
      refine lv_istore (lv' := [(7, .int (nI 0)), (6, .int (nI 1)), (5, .int (nI 0)), (4, .int (nI S.length)), (3, .int ((nI (S.length + 1)) - (nI 2))), (0, .ref y0), (1, .int (nI 96)), (2, .int ht)]) hx hb d_Mod_act_164 hl (by decide) rfl (fun ls hl => ?_)
      refine lv_iload hx hb d_Mod_act_166 (lv_at hl 1 rfl) ?_
      refine z_eq C 1 rfl (by omega) d_Mod_act_168 rfl (fun hc26 => absurd hc26 (by omega)) (fun hc26 => ?_)
      refine lv_aload_n hx hb d_Mod_act_171 rfl (lv_at hl 5 rfl) ?_
      refine lv_iload hx hb d_Mod_act_172 (lv_at hl 3 rfl) ?_
      refine cal_I (As := [.int (nI S.length)]) (rest := []) C lk_Mod_81 (c_Mod_numberOf l E y0 ya yo ym yl yg yw yh yc yd yb yk yz yr nt no (S.length + 1) fl f sz S.length x (by omega) hx1.1 hx1.2.1 hx1.2.2 hB) (by decide) hP hD hS 0 7 rfl rfl [0, 7, 8] rfl (by decide) hl.1 rfl (Nat.le_of_ble_eq_true rfl) d_Mod_act_174 (fun r27 w1 H locs hp28 hP hD hS => ?_)
      obtain ⟨rfl, rfl⟩ := hp28
      have hP : va_P E.1 clz [(y0, .inr (7, [.ref ya, .int (nI nt), .ref yo, .int (nI no), .ref ym, .ref yl, .ref yg, .ref yw, .ref yh, .ref yc, .ref yd, .ref yb, .ref yk, .ref yz, .int (nI (S.length + 1)), .int (b2 fl), .ref yr])), (yg, .inl (E.2.1, 32, .inl k5)), (yw, .inl (E.2.2.1, 64, .inl k6)), (yh, .inl (E.2.2.1, 8, .inl k7)), (yc, .inl (E.2.1, 32, .inl k8)), (yd, .inl (E.2.1, 32, .inl k9)), (yb, .inl (E.2.1, 512, .inl kb)), (yk, .inl (E.2.1, 1920, .inl f)), (yz, .inl (E.2.2.1, 24, .inl sz))] H := hP
      have hD : va_D A [(y0, .inr (7, [.ref ya, .int (nI nt), .ref yo, .int (nI no), .ref ym, .ref yl, .ref yg, .ref yw, .ref yh, .ref yc, .ref yd, .ref yb, .ref yk, .ref yz, .int (nI (S.length + 1)), .int (b2 fl), .ref yr])), (yg, .inl (E.2.1, 32, .inl k5)), (yw, .inl (E.2.2.1, 64, .inl k6)), (yh, .inl (E.2.2.1, 8, .inl k7)), (yc, .inl (E.2.1, 32, .inl k8)), (yd, .inl (E.2.1, 32, .inl k9)), (yb, .inl (E.2.1, 512, .inl kb)), (yk, .inl (E.2.1, 1920, .inl f)), (yz, .inl (E.2.2.1, 24, .inl sz))] := hD
      refine lv_goto hx hb d_Mod_act_177 rfl ?_
      refine lv_istore (lv' := [(8, .int (numL x)), (7, .int (nI 0)), (6, .int (nI 1)), (5, .int (nI 0)), (4, .int (nI S.length)), (3, .int ((nI (S.length + 1)) - (nI 2))), (0, .ref y0), (1, .int (nI 96)), (2, .int ht)]) hx hb d_Mod_act_181 hl (by decide) rfl (fun ls hl => ?_)
      refine lv_iload_n hx hb d_Mod_act_183 rfl (lv_at hl 7 rfl) ?_
      refine lv_tableIn hx hb d_Mod_act_184 (by decide) (by decide) rfl rfl ?_
      refine lv_aload_n hx hb d_Mod_act_797 rfl (lv_at hl 6 rfl) ?_
      refine lv_dup hx hb d_Mod_act_798 rfl ?_
      refine n_get C fg_Mod_66 hP 0 rfl rfl d_Mod_act_799 ?_
      refine lv_iconst (v := nI 1) hx hb d_Mod_act_802 (by decide) ?_
      refine lv_isub hx hb d_Mod_act_803 ?_
      refine tope (z := nI S.length) ((pk_sub (by omega)).trans (congrArg nI (by omega))) ?_
      refine n_put (v := .int (nI S.length)) C fp_Mod_66 hP hD hS 0 rfl (rfl) rfl (Nat.le_of_ble_eq_true rfl) d_Mod_act_804 (fun H locs hP hD hS => ?_)
      have hP : va_P E.1 clz [(y0, .inr (7, [.ref ya, .int (nI nt), .ref yo, .int (nI no), .ref ym, .ref yl, .ref yg, .ref yw, .ref yh, .ref yc, .ref yd, .ref yb, .ref yk, .ref yz, .int (nI S.length), .int (b2 fl), .ref yr])), (yg, .inl (E.2.1, 32, .inl k5)), (yw, .inl (E.2.2.1, 64, .inl k6)), (yh, .inl (E.2.2.1, 8, .inl k7)), (yc, .inl (E.2.1, 32, .inl k8)), (yd, .inl (E.2.1, 32, .inl k9)), (yb, .inl (E.2.1, 512, .inl kb)), (yk, .inl (E.2.1, 1920, .inl f)), (yz, .inl (E.2.2.1, 24, .inl sz))] H := hP
      have hD : va_D A [(y0, .inr (7, [.ref ya, .int (nI nt), .ref yo, .int (nI no), .ref ym, .ref yl, .ref yg, .ref yw, .ref yh, .ref yc, .ref yd, .ref yb, .ref yk, .ref yz, .int (nI S.length), .int (b2 fl), .ref yr])), (yg, .inl (E.2.1, 32, .inl k5)), (yw, .inl (E.2.2.1, 64, .inl k6)), (yh, .inl (E.2.2.1, 8, .inl k7)), (yc, .inl (E.2.1, 32, .inl k8)), (yd, .inl (E.2.1, 32, .inl k9)), (yb, .inl (E.2.1, 512, .inl kb)), (yk, .inl (E.2.1, 1920, .inl f)), (yz, .inl (E.2.2.1, 24, .inl sz))] := hD
      refine lv_iload_n hx hb d_Mod_act_807 rfl (lv_at hl 8 rfl) ?_
      refine lv_iload hx hb d_Mod_act_808 (lv_at hl 0 rfl) ?_
      refine lv_icmp_lt hx hb d_Mod_act_810 rfl (fun hc29 => ?_) (fun hc29 => ?_)
      · refine lv_iconst (v := nI 0) hx hb d_Mod_act_817 (by decide) ?_
        exact kret (nI 0) [(y0, .inr (7, [.ref ya, .int (nI nt), .ref yo, .int (nI no), .ref ym, .ref yl, .ref yg, .ref yw, .ref yh, .ref yc, .ref yd, .ref yb, .ref yk, .ref yz, .int (nI S.length), .int (b2 fl), .ref yr])), (yg, .inl (E.2.1, 32, .inl k5)), (yw, .inl (E.2.2.1, 64, .inl k6)), (yh, .inl (E.2.2.1, 8, .inl k7)), (yc, .inl (E.2.1, 32, .inl k8)), (yd, .inl (E.2.1, 32, .inl k9)), (yb, .inl (E.2.1, 512, .inl kb)), (yk, .inl (E.2.1, 1920, .inl f)), (yz, .inl (E.2.2.1, 24, .inl sz))] _ _ _ _ d_Mod_act_818 (⟨_, _, _, _, _, _, _, _, rfl, hB, Or.inr ⟨by show (if x.length ≤ 4 ∧ numL x ≤ ht then some S else none) = _; rw [if_neg (fun q => absurd q.2 (Int32.not_le.mpr hc29))], rfl⟩⟩) rfl hP hS
      · refine lv_iconst (v := nI 1) hx hb d_Mod_act_813 (by decide) ?_
        refine lv_goto hx hb d_Mod_act_814 rfl ?_
        exact kret (nI 1) [(y0, .inr (7, [.ref ya, .int (nI nt), .ref yo, .int (nI no), .ref ym, .ref yl, .ref yg, .ref yw, .ref yh, .ref yc, .ref yd, .ref yb, .ref yk, .ref yz, .int (nI S.length), .int (b2 fl), .ref yr])), (yg, .inl (E.2.1, 32, .inl k5)), (yw, .inl (E.2.2.1, 64, .inl k6)), (yh, .inl (E.2.2.1, 8, .inl k7)), (yc, .inl (E.2.1, 32, .inl k8)), (yd, .inl (E.2.1, 32, .inl k9)), (yb, .inl (E.2.1, 512, .inl kb)), (yk, .inl (E.2.1, 1920, .inl f)), (yz, .inl (E.2.2.1, 24, .inl sz))] _ _ _ _ d_Mod_act_818 (⟨_, _, _, _, _, _, _, _, rfl, hB, Or.inl ⟨S, by show (if x.length ≤ 4 ∧ numL x ≤ ht then some S else none) = _; rw [if_pos ⟨by omega, Int32.not_lt.mp hc29⟩], rfl, by first | rfl | (simp only [List.length_cons]; omega) | (simp only [List.length_cons]), hr0, by first | (simp only [List.length_cons]; omega) | (simp only [List.length_cons]) | omega⟩⟩) rfl hP hS

set_option maxHeartbeats 4000000 in
set_option maxRecDepth 100000 in
theorem c_act_102 (l : Launch) (E : En) (y0 ya yo ym yl yg yw yh yc yd yb yk yz yr nt no : Nat) (fl : Bool) (k5 k6 k7 k8 k9 kb f sz : Nat → Int32) (S : Stk) (msg : Byl) (hrep : rep f sz S) (hB : fB f) (hB5 : fB k5) (hlen : S.length ≤ 24) (hm : lay k5 0 msg) (hm32 : msg.length = 32) (ht : Int32) : CtI l y_Mod_act b_Mod_act 11 .boolean (rmd 4) E [.ref y0, .int (nI 102), .int ht] [(y0, .inr (7, [.ref ya, .int (nI nt), .ref yo, .int (nI no), .ref ym, .ref yl, .ref yg, .ref yw, .ref yh, .ref yc, .ref yd, .ref yb, .ref yk, .ref yz, .int (nI S.length), .int (b2 fl), .ref yr])), (yg, .inl (E.2.1, 32, .inl k5)), (yw, .inl (E.2.2.1, 64, .inl k6)), (yh, .inl (E.2.2.1, 8, .inl k7)), (yc, .inl (E.2.1, 32, .inl k8)), (yd, .inl (E.2.1, 32, .inl k9)), (yb, .inl (E.2.1, 512, .inl kb)), (yk, .inl (E.2.1, 1920, .inl f)), (yz, .inl (E.2.2.1, 24, .inl sz))] (stepM E y0 ya yo ym yl yg yw yh yc yd yb yk yz yr nt no fl k5 (actS 102 ht msg S)) := by
  refine CtI.of (by decide) (Nat.le_of_ble_eq_true rfl) (stepM_nar) ?_
  intro p e s m args below meth c A Q H locs ls C hP hD hS hl kret
  have hx := C.1
  have hb := C.2.1
  have hl : lv_has ls 11 [(0, .ref y0), (1, .int (nI 102)), (2, .int ht)] := hl
  rcases Nat.lt_or_ge S.length 24 with h24 | h24
  · refine lv_aload_n hx hb d_Mod_act_0 rfl (lv_at hl 0 rfl) ?_
    refine n_get C fg_Mod_66 hP 0 rfl rfl d_Mod_act_1 ?_
    refine lv_iconst (v := nI 2) hx hb d_Mod_act_4 (by decide) ?_
    refine lv_isub hx hb d_Mod_act_5 ?_
    refine lv_istore_n (lv' := [(3, .int ((nI S.length) - (nI 2))), (0, .ref y0), (1, .int (nI 102)), (2, .int ht)]) hx hb d_Mod_act_6 rfl hl (by decide) rfl (fun ls hl => ?_)
    refine lv_aload_n hx hb d_Mod_act_7 rfl (lv_at hl 1 rfl) ?_
    refine n_get C fg_Mod_66 hP 0 rfl rfl d_Mod_act_8 ?_
    refine lv_iconst (v := nI 1) hx hb d_Mod_act_11 (by decide) ?_
    refine lv_isub hx hb d_Mod_act_12 ?_
    refine lv_istore (lv' := [(4, .int ((nI S.length) - (nI 1))), (3, .int ((nI S.length) - (nI 2))), (0, .ref y0), (1, .int (nI 102)), (2, .int ht)]) hx hb d_Mod_act_13 hl (by decide) rfl (fun ls hl => ?_)
    refine lv_iload_n hx hb d_Mod_act_15 rfl (lv_at hl 3 rfl) ?_
    refine lv_bipush (v := nI 82) hx hb d_Mod_act_16 (by decide) ?_
    refine j_eq C 102 82 rfl rfl (by decide) (by decide) d_Mod_act_18 rfl (fun hc1 => absurd hc1 (by decide)) (fun hc1 => ?_)
    refine lv_iload_n hx hb d_Mod_act_21 rfl (lv_at hl 3 rfl) ?_
    refine lv_bipush (v := nI 83) hx hb d_Mod_act_22 (by decide) ?_
    refine j_eq C 102 83 rfl rfl (by decide) (by decide) d_Mod_act_24 rfl (fun hc2 => absurd hc2 (by decide)) (fun hc2 => ?_)
    refine lv_iload_n hx hb d_Mod_act_27 rfl (lv_at hl 3 rfl) ?_
    refine lv_bipush (v := nI 86) hx hb d_Mod_act_28 (by decide) ?_
    refine j_eq C 102 86 rfl rfl (by decide) (by decide) d_Mod_act_30 rfl (fun hc3 => absurd hc3 (by decide)) (fun hc3 => ?_)
    refine lv_iload_n hx hb d_Mod_act_33 rfl (lv_at hl 3 rfl) ?_
    refine lv_bipush (v := nI 89) hx hb d_Mod_act_34 (by decide) ?_
    refine j_lt C 102 89 rfl rfl (by decide) (by decide) d_Mod_act_36 rfl (fun hc4 => absurd hc4 (by decide)) (fun hc4 => ?_)
    refine lv_iload_n hx hb d_Mod_act_39 rfl (lv_at hl 3 rfl) ?_
    refine lv_bipush (v := nI 92) hx hb d_Mod_act_40 (by decide) ?_
    refine j_le C 102 92 rfl rfl (by decide) (by decide) d_Mod_act_42 rfl (fun hc5 => absurd hc5 (by decide)) (fun hc5 => ?_)
    refine lv_iload_n hx hb d_Mod_act_45 rfl (lv_at hl 3 rfl) ?_
    refine lv_bipush (v := nI 95) hx hb d_Mod_act_46 (by decide) ?_
    refine j_ne C 102 95 rfl rfl (by decide) (by decide) d_Mod_act_48 rfl (fun hc6 => ?_) (fun hc6 => absurd hc6 (by decide))
    refine lv_iconst (v := nI 0) hx hb d_Mod_act_55 (by decide) ?_
    refine lv_istore (lv' := [(5, .int (nI 0)), (4, .int ((nI S.length) - (nI 1))), (3, .int ((nI S.length) - (nI 2))), (0, .ref y0), (1, .int (nI 102)), (2, .int ht)]) hx hb d_Mod_act_56 hl (by decide) rfl (fun ls hl => ?_)
    refine lv_aload_n hx hb d_Mod_act_58 rfl (lv_at hl 3 rfl) ?_
    refine n_get C fg_Mod_66 hP 0 rfl rfl d_Mod_act_59 ?_
    refine lv_iload hx hb d_Mod_act_62 (lv_at hl 0 rfl) ?_
    refine z_eq C 0 rfl (by omega) d_Mod_act_64 rfl (fun hc7 => ?_) (fun hc7 => absurd hc7 (by omega))
    refine lv_iload_n hx hb d_Mod_act_71 rfl (lv_at hl 4 rfl) ?_
    refine lv_bipush (v := nI 102) hx hb d_Mod_act_72 (by decide) ?_
    refine j_ne C 102 102 rfl rfl (by decide) (by decide) d_Mod_act_74 rfl (fun hc8 => absurd hc8 (by decide)) (fun hc8 => ?_)
    refine lv_iconst (v := nI 0) hx hb d_Mod_act_77 (by decide) ?_
    refine lv_goto hx hb d_Mod_act_78 rfl ?_
    refine j_ge C S.length 0 rfl rfl (by omega) (by omega) d_Mod_act_82 rfl (fun hc9 => ?_) (fun hc9 => absurd hc9 (by omega))
    refine lv_iload_n hx hb d_Mod_act_87 rfl (lv_at hl 4 rfl) ?_
    refine lv_bipush (v := nI 88) hx hb d_Mod_act_88 (by decide) ?_
    refine j_lt C 102 88 rfl rfl (by decide) (by decide) d_Mod_act_90 rfl (fun hc10 => absurd hc10 (by decide)) (fun hc10 => ?_)
    refine lv_iload_n hx hb d_Mod_act_93 rfl (lv_at hl 4 rfl) ?_
    refine lv_bipush (v := nI 91) hx hb d_Mod_act_94 (by decide) ?_
    refine j_le C 102 91 rfl rfl (by decide) (by decide) d_Mod_act_96 rfl (fun hc11 => absurd hc11 (by decide)) (fun hc11 => ?_)
    refine lv_iload_n hx hb d_Mod_act_99 rfl (lv_at hl 4 rfl) ?_
    refine lv_bipush (v := nI 96) hx hb d_Mod_act_100 (by decide) ?_
    refine j_ne C 102 96 rfl rfl (by decide) (by decide) d_Mod_act_102 rfl (fun hc12 => ?_) (fun hc12 => absurd hc12 (by decide))
    refine lv_iconst (v := nI 0) hx hb d_Mod_act_109 (by decide) ?_
    refine lv_istore (lv' := [(6, .int (nI 0)), (5, .int (nI 0)), (4, .int ((nI S.length) - (nI 1))), (3, .int ((nI S.length) - (nI 2))), (0, .ref y0), (1, .int (nI 102)), (2, .int ht)]) hx hb d_Mod_act_110 hl (by decide) rfl (fun ls hl => ?_)
    refine lv_iload hx hb d_Mod_act_112 (lv_at hl 0 rfl) ?_
    refine z_eq C 0 rfl (by omega) d_Mod_act_114 rfl (fun hc13 => ?_) (fun hc13 => absurd hc13 (by omega))
    refine lv_iload hx hb d_Mod_act_145 (lv_at hl 1 rfl) ?_
    refine z_eq C 0 rfl (by omega) d_Mod_act_147 rfl (fun hc14 => ?_) (fun hc14 => absurd hc14 (by omega))
    refine lv_iconst (v := nI 0) hx hb d_Mod_act_163 (by decide) ?_
    refine lv_istore (lv' := [(7, .int (nI 0)), (6, .int (nI 0)), (5, .int (nI 0)), (4, .int ((nI S.length) - (nI 1))), (3, .int ((nI S.length) - (nI 2))), (0, .ref y0), (1, .int (nI 102)), (2, .int ht)]) hx hb d_Mod_act_164 hl (by decide) rfl (fun ls hl => ?_)
    refine lv_iload hx hb d_Mod_act_166 (lv_at hl 1 rfl) ?_
    refine z_eq C 0 rfl (by omega) d_Mod_act_168 rfl (fun hc15 => ?_) (fun hc15 => absurd hc15 (by omega))
    refine lv_iconst (v := nI 0) hx hb d_Mod_act_180 (by decide) ?_
    refine lv_istore (lv' := [(8, .int (nI 0)), (7, .int (nI 0)), (6, .int (nI 0)), (5, .int (nI 0)), (4, .int ((nI S.length) - (nI 1))), (3, .int ((nI S.length) - (nI 2))), (0, .ref y0), (1, .int (nI 102)), (2, .int ht)]) hx hb d_Mod_act_181 hl (by decide) rfl (fun ls hl => ?_)
    refine lv_iload_n hx hb d_Mod_act_183 rfl (lv_at hl 7 rfl) ?_
    refine lv_tableIn hx hb d_Mod_act_184 (by decide) (by decide) rfl rfl ?_
    refine lv_aload_n hx hb d_Mod_act_819 rfl (lv_at hl 6 rfl) ?_
    refine lv_iconst (v := nI 1) hx hb d_Mod_act_820 (by decide) ?_
    refine cal_I (As := [.int (nI 1)]) (rest := []) C lk_Mod_89 (c_Mod_pushNumber l E y0 ya yo ym yl yg yw yh yc yd yb yk yz yr nt no fl f sz k8 S (nI 1) hrep hB (by first | omega | (simp only [List.length_cons]; omega) | (rw [List.length_drop]; omega))) (by decide) hP hD hS 0 7 rfl rfl [0, 7, 8, 4] rfl (by decide) hl.1 rfl (Nat.le_of_ble_eq_true rfl) d_Mod_act_821 (fun r21 w1 H locs hp22 hP hD hS => ?_)
    obtain ⟨rfl, fq16, zq17, cq18, rfl, hrq19, hbq20⟩ := hp22
    have hP : va_P E.1 clz [(y0, .inr (7, [.ref ya, .int (nI nt), .ref yo, .int (nI no), .ref ym, .ref yl, .ref yg, .ref yw, .ref yh, .ref yc, .ref yd, .ref yb, .ref yk, .ref yz, .int (nI (S.length + 1)), .int (b2 fl), .ref yr])), (yg, .inl (E.2.1, 32, .inl k5)), (yw, .inl (E.2.2.1, 64, .inl k6)), (yh, .inl (E.2.2.1, 8, .inl k7)), (yc, .inl (E.2.1, 32, .inl cq18)), (yd, .inl (E.2.1, 32, .inl k9)), (yb, .inl (E.2.1, 512, .inl kb)), (yk, .inl (E.2.1, 1920, .inl fq16)), (yz, .inl (E.2.2.1, 24, .inl zq17))] H := hP
    have hD : va_D A [(y0, .inr (7, [.ref ya, .int (nI nt), .ref yo, .int (nI no), .ref ym, .ref yl, .ref yg, .ref yw, .ref yh, .ref yc, .ref yd, .ref yb, .ref yk, .ref yz, .int (nI (S.length + 1)), .int (b2 fl), .ref yr])), (yg, .inl (E.2.1, 32, .inl k5)), (yw, .inl (E.2.2.1, 64, .inl k6)), (yh, .inl (E.2.2.1, 8, .inl k7)), (yc, .inl (E.2.1, 32, .inl cq18)), (yd, .inl (E.2.1, 32, .inl k9)), (yb, .inl (E.2.1, 512, .inl kb)), (yk, .inl (E.2.1, 1920, .inl fq16)), (yz, .inl (E.2.2.1, 24, .inl zq17))] := hD
    exact kret (b2 true) [(y0, .inr (7, [.ref ya, .int (nI nt), .ref yo, .int (nI no), .ref ym, .ref yl, .ref yg, .ref yw, .ref yh, .ref yc, .ref yd, .ref yb, .ref yk, .ref yz, .int (nI (S.length + 1)), .int (b2 fl), .ref yr])), (yg, .inl (E.2.1, 32, .inl k5)), (yw, .inl (E.2.2.1, 64, .inl k6)), (yh, .inl (E.2.2.1, 8, .inl k7)), (yc, .inl (E.2.1, 32, .inl cq18)), (yd, .inl (E.2.1, 32, .inl k9)), (yb, .inl (E.2.1, 512, .inl kb)), (yk, .inl (E.2.1, 1920, .inl fq16)), (yz, .inl (E.2.2.1, 24, .inl zq17))] _ _ _ _ d_Mod_act_824 (⟨_, _, _, _, _, _, _, _, rfl, hbq20, Or.inl ⟨(numB (nI 1) :: S), by show pushE _ _ = _; unfold pushE; rw [if_pos (by first | (simp only [List.length_cons]; omega) | omega)], rfl, by first | rfl | (simp only [List.length_cons]; omega) | (simp only [List.length_cons]), hrq19, by first | (simp only [List.length_cons]; omega) | (simp only [List.length_cons]) | omega⟩⟩) rfl hP hS
  · refine lv_aload_n hx hb d_Mod_act_0 rfl (lv_at hl 0 rfl) ?_
    refine n_get C fg_Mod_66 hP 0 rfl rfl d_Mod_act_1 ?_
    refine lv_iconst (v := nI 2) hx hb d_Mod_act_4 (by decide) ?_
    refine lv_isub hx hb d_Mod_act_5 ?_
    refine lv_istore_n (lv' := [(3, .int ((nI S.length) - (nI 2))), (0, .ref y0), (1, .int (nI 102)), (2, .int ht)]) hx hb d_Mod_act_6 rfl hl (by decide) rfl (fun ls hl => ?_)
    refine lv_aload_n hx hb d_Mod_act_7 rfl (lv_at hl 1 rfl) ?_
    refine n_get C fg_Mod_66 hP 0 rfl rfl d_Mod_act_8 ?_
    refine lv_iconst (v := nI 1) hx hb d_Mod_act_11 (by decide) ?_
    refine lv_isub hx hb d_Mod_act_12 ?_
    refine lv_istore (lv' := [(4, .int ((nI S.length) - (nI 1))), (3, .int ((nI S.length) - (nI 2))), (0, .ref y0), (1, .int (nI 102)), (2, .int ht)]) hx hb d_Mod_act_13 hl (by decide) rfl (fun ls hl => ?_)
    refine lv_iload_n hx hb d_Mod_act_15 rfl (lv_at hl 3 rfl) ?_
    refine lv_bipush (v := nI 82) hx hb d_Mod_act_16 (by decide) ?_
    refine j_eq C 102 82 rfl rfl (by decide) (by decide) d_Mod_act_18 rfl (fun hc23 => absurd hc23 (by decide)) (fun hc23 => ?_)
    refine lv_iload_n hx hb d_Mod_act_21 rfl (lv_at hl 3 rfl) ?_
    refine lv_bipush (v := nI 83) hx hb d_Mod_act_22 (by decide) ?_
    refine j_eq C 102 83 rfl rfl (by decide) (by decide) d_Mod_act_24 rfl (fun hc24 => absurd hc24 (by decide)) (fun hc24 => ?_)
    refine lv_iload_n hx hb d_Mod_act_27 rfl (lv_at hl 3 rfl) ?_
    refine lv_bipush (v := nI 86) hx hb d_Mod_act_28 (by decide) ?_
    refine j_eq C 102 86 rfl rfl (by decide) (by decide) d_Mod_act_30 rfl (fun hc25 => absurd hc25 (by decide)) (fun hc25 => ?_)
    refine lv_iload_n hx hb d_Mod_act_33 rfl (lv_at hl 3 rfl) ?_
    refine lv_bipush (v := nI 89) hx hb d_Mod_act_34 (by decide) ?_
    refine j_lt C 102 89 rfl rfl (by decide) (by decide) d_Mod_act_36 rfl (fun hc26 => absurd hc26 (by decide)) (fun hc26 => ?_)
    refine lv_iload_n hx hb d_Mod_act_39 rfl (lv_at hl 3 rfl) ?_
    refine lv_bipush (v := nI 92) hx hb d_Mod_act_40 (by decide) ?_
    refine j_le C 102 92 rfl rfl (by decide) (by decide) d_Mod_act_42 rfl (fun hc27 => absurd hc27 (by decide)) (fun hc27 => ?_)
    refine lv_iload_n hx hb d_Mod_act_45 rfl (lv_at hl 3 rfl) ?_
    refine lv_bipush (v := nI 95) hx hb d_Mod_act_46 (by decide) ?_
    refine j_ne C 102 95 rfl rfl (by decide) (by decide) d_Mod_act_48 rfl (fun hc28 => ?_) (fun hc28 => absurd hc28 (by decide))
    refine lv_iconst (v := nI 0) hx hb d_Mod_act_55 (by decide) ?_
    refine lv_istore (lv' := [(5, .int (nI 0)), (4, .int ((nI S.length) - (nI 1))), (3, .int ((nI S.length) - (nI 2))), (0, .ref y0), (1, .int (nI 102)), (2, .int ht)]) hx hb d_Mod_act_56 hl (by decide) rfl (fun ls hl => ?_)
    refine lv_aload_n hx hb d_Mod_act_58 rfl (lv_at hl 3 rfl) ?_
    refine n_get C fg_Mod_66 hP 0 rfl rfl d_Mod_act_59 ?_
    refine lv_iload hx hb d_Mod_act_62 (lv_at hl 0 rfl) ?_
    refine z_eq C 0 rfl (by omega) d_Mod_act_64 rfl (fun hc29 => ?_) (fun hc29 => absurd hc29 (by omega))
    refine lv_iload_n hx hb d_Mod_act_71 rfl (lv_at hl 4 rfl) ?_
    refine lv_bipush (v := nI 102) hx hb d_Mod_act_72 (by decide) ?_
    refine j_ne C 102 102 rfl rfl (by decide) (by decide) d_Mod_act_74 rfl (fun hc30 => absurd hc30 (by decide)) (fun hc30 => ?_)
    refine lv_iconst (v := nI 0) hx hb d_Mod_act_77 (by decide) ?_
    refine lv_goto hx hb d_Mod_act_78 rfl ?_
    refine j_ge C S.length 0 rfl rfl (by omega) (by omega) d_Mod_act_82 rfl (fun hc31 => ?_) (fun hc31 => absurd hc31 (by omega))
    refine lv_iload_n hx hb d_Mod_act_87 rfl (lv_at hl 4 rfl) ?_
    refine lv_bipush (v := nI 88) hx hb d_Mod_act_88 (by decide) ?_
    refine j_lt C 102 88 rfl rfl (by decide) (by decide) d_Mod_act_90 rfl (fun hc32 => absurd hc32 (by decide)) (fun hc32 => ?_)
    refine lv_iload_n hx hb d_Mod_act_93 rfl (lv_at hl 4 rfl) ?_
    refine lv_bipush (v := nI 91) hx hb d_Mod_act_94 (by decide) ?_
    refine j_le C 102 91 rfl rfl (by decide) (by decide) d_Mod_act_96 rfl (fun hc33 => absurd hc33 (by decide)) (fun hc33 => ?_)
    refine lv_iload_n hx hb d_Mod_act_99 rfl (lv_at hl 4 rfl) ?_
    refine lv_bipush (v := nI 96) hx hb d_Mod_act_100 (by decide) ?_
    refine j_ne C 102 96 rfl rfl (by decide) (by decide) d_Mod_act_102 rfl (fun hc34 => ?_) (fun hc34 => absurd hc34 (by decide))
    refine lv_iconst (v := nI 0) hx hb d_Mod_act_109 (by decide) ?_
    refine lv_istore (lv' := [(6, .int (nI 0)), (5, .int (nI 0)), (4, .int ((nI S.length) - (nI 1))), (3, .int ((nI S.length) - (nI 2))), (0, .ref y0), (1, .int (nI 102)), (2, .int ht)]) hx hb d_Mod_act_110 hl (by decide) rfl (fun ls hl => ?_)
    refine lv_iload hx hb d_Mod_act_112 (lv_at hl 0 rfl) ?_
    refine z_eq C 0 rfl (by omega) d_Mod_act_114 rfl (fun hc35 => ?_) (fun hc35 => absurd hc35 (by omega))
    refine lv_iload hx hb d_Mod_act_145 (lv_at hl 1 rfl) ?_
    refine z_eq C 0 rfl (by omega) d_Mod_act_147 rfl (fun hc36 => ?_) (fun hc36 => absurd hc36 (by omega))
    refine lv_iconst (v := nI 0) hx hb d_Mod_act_163 (by decide) ?_
    refine lv_istore (lv' := [(7, .int (nI 0)), (6, .int (nI 0)), (5, .int (nI 0)), (4, .int ((nI S.length) - (nI 1))), (3, .int ((nI S.length) - (nI 2))), (0, .ref y0), (1, .int (nI 102)), (2, .int ht)]) hx hb d_Mod_act_164 hl (by decide) rfl (fun ls hl => ?_)
    refine lv_iload hx hb d_Mod_act_166 (lv_at hl 1 rfl) ?_
    refine z_eq C 0 rfl (by omega) d_Mod_act_168 rfl (fun hc37 => ?_) (fun hc37 => absurd hc37 (by omega))
    refine lv_iconst (v := nI 0) hx hb d_Mod_act_180 (by decide) ?_
    refine lv_istore (lv' := [(8, .int (nI 0)), (7, .int (nI 0)), (6, .int (nI 0)), (5, .int (nI 0)), (4, .int ((nI S.length) - (nI 1))), (3, .int ((nI S.length) - (nI 2))), (0, .ref y0), (1, .int (nI 102)), (2, .int ht)]) hx hb d_Mod_act_181 hl (by decide) rfl (fun ls hl => ?_)
    refine lv_iload_n hx hb d_Mod_act_183 rfl (lv_at hl 7 rfl) ?_
    refine lv_tableIn hx hb d_Mod_act_184 (by decide) (by decide) rfl rfl ?_
    refine lv_aload_n hx hb d_Mod_act_819 rfl (lv_at hl 6 rfl) ?_
    refine lv_iconst (v := nI 1) hx hb d_Mod_act_820 (by decide) ?_
    refine cal_I (As := [.int (nI 1)]) (rest := []) C lk_Mod_89 (c_Mod_pushNumber_full l E y0 ya yo ym yl yg yw yh yc yd yb yk yz yr nt no fl f sz k8 S (nI 1) hrep hB (by first | omega | (simp only [List.length_cons]; omega))) (by decide) hP hD hS 0 7 rfl rfl [0, 7, 8, 4] rfl (by decide) hl.1 rfl (Nat.le_of_ble_eq_true rfl) d_Mod_act_821 (fun r39 w1 H locs hp40 hP hD hS => ?_)
    obtain ⟨rfl, cq38, rfl⟩ := hp40
    have hP : va_P E.1 clz [(y0, .inr (7, [.ref ya, .int (nI nt), .ref yo, .int (nI no), .ref ym, .ref yl, .ref yg, .ref yw, .ref yh, .ref yc, .ref yd, .ref yb, .ref yk, .ref yz, .int (nI S.length), .int (b2 fl), .ref yr])), (yg, .inl (E.2.1, 32, .inl k5)), (yw, .inl (E.2.2.1, 64, .inl k6)), (yh, .inl (E.2.2.1, 8, .inl k7)), (yc, .inl (E.2.1, 32, .inl cq38)), (yd, .inl (E.2.1, 32, .inl k9)), (yb, .inl (E.2.1, 512, .inl kb)), (yk, .inl (E.2.1, 1920, .inl f)), (yz, .inl (E.2.2.1, 24, .inl sz))] H := hP
    have hD : va_D A [(y0, .inr (7, [.ref ya, .int (nI nt), .ref yo, .int (nI no), .ref ym, .ref yl, .ref yg, .ref yw, .ref yh, .ref yc, .ref yd, .ref yb, .ref yk, .ref yz, .int (nI S.length), .int (b2 fl), .ref yr])), (yg, .inl (E.2.1, 32, .inl k5)), (yw, .inl (E.2.2.1, 64, .inl k6)), (yh, .inl (E.2.2.1, 8, .inl k7)), (yc, .inl (E.2.1, 32, .inl cq38)), (yd, .inl (E.2.1, 32, .inl k9)), (yb, .inl (E.2.1, 512, .inl kb)), (yk, .inl (E.2.1, 1920, .inl f)), (yz, .inl (E.2.2.1, 24, .inl sz))] := hD
    exact kret (b2 false) [(y0, .inr (7, [.ref ya, .int (nI nt), .ref yo, .int (nI no), .ref ym, .ref yl, .ref yg, .ref yw, .ref yh, .ref yc, .ref yd, .ref yb, .ref yk, .ref yz, .int (nI S.length), .int (b2 fl), .ref yr])), (yg, .inl (E.2.1, 32, .inl k5)), (yw, .inl (E.2.2.1, 64, .inl k6)), (yh, .inl (E.2.2.1, 8, .inl k7)), (yc, .inl (E.2.1, 32, .inl cq38)), (yd, .inl (E.2.1, 32, .inl k9)), (yb, .inl (E.2.1, 512, .inl kb)), (yk, .inl (E.2.1, 1920, .inl f)), (yz, .inl (E.2.2.1, 24, .inl sz))] _ _ _ _ d_Mod_act_824 (⟨_, _, _, _, _, _, _, _, rfl, hB, Or.inr ⟨by show pushE _ _ = _; unfold pushE; rw [if_neg (by first | (simp only [List.length_cons]; omega) | omega)], rfl⟩⟩) rfl hP hS

set_option maxHeartbeats 4000000 in
set_option maxRecDepth 100000 in
theorem c_act_84 (l : Launch) (E : En) (y0 ya yo ym yl yg yw yh yc yd yb yk yz yr nt no : Nat) (fl : Bool) (k5 k6 k7 k8 k9 kb f sz : Nat → Int32) (S : Stk) (msg : Byl) (hrep : rep f sz S) (hB : fB f) (hB5 : fB k5) (hlen : S.length ≤ 24) (hm : lay k5 0 msg) (hm32 : msg.length = 32) (ht : Int32) : CtI l y_Mod_act b_Mod_act 11 .boolean (rmd 4) E [.ref y0, .int (nI 84), .int ht] [(y0, .inr (7, [.ref ya, .int (nI nt), .ref yo, .int (nI no), .ref ym, .ref yl, .ref yg, .ref yw, .ref yh, .ref yc, .ref yd, .ref yb, .ref yk, .ref yz, .int (nI S.length), .int (b2 fl), .ref yr])), (yg, .inl (E.2.1, 32, .inl k5)), (yw, .inl (E.2.2.1, 64, .inl k6)), (yh, .inl (E.2.2.1, 8, .inl k7)), (yc, .inl (E.2.1, 32, .inl k8)), (yd, .inl (E.2.1, 32, .inl k9)), (yb, .inl (E.2.1, 512, .inl kb)), (yk, .inl (E.2.1, 1920, .inl f)), (yz, .inl (E.2.2.1, 24, .inl sz))] (stepM E y0 ya yo ym yl yg yw yh yc yd yb yk yz yr nt no fl k5 (actS 84 ht msg S)) := by
  refine CtI.of (by decide) (Nat.le_of_ble_eq_true rfl) (stepM_nar) ?_
  intro p e s m args below meth c A Q H locs ls C hP hD hS hl kret
  have hx := C.1
  have hb := C.2.1
  have hl : lv_has ls 11 [(0, .ref y0), (1, .int (nI 84)), (2, .int ht)] := hl
  refine lv_aload_n hx hb d_Mod_act_0 rfl (lv_at hl 0 rfl) ?_
  refine n_get C fg_Mod_66 hP 0 rfl rfl d_Mod_act_1 ?_
  refine lv_iconst (v := nI 2) hx hb d_Mod_act_4 (by decide) ?_
  refine lv_isub hx hb d_Mod_act_5 ?_
  refine lv_istore_n (lv' := [(3, .int ((nI S.length) - (nI 2))), (0, .ref y0), (1, .int (nI 84)), (2, .int ht)]) hx hb d_Mod_act_6 rfl hl (by decide) rfl (fun ls hl => ?_)
  refine lv_aload_n hx hb d_Mod_act_7 rfl (lv_at hl 1 rfl) ?_
  refine n_get C fg_Mod_66 hP 0 rfl rfl d_Mod_act_8 ?_
  refine lv_iconst (v := nI 1) hx hb d_Mod_act_11 (by decide) ?_
  refine lv_isub hx hb d_Mod_act_12 ?_
  refine lv_istore (lv' := [(4, .int ((nI S.length) - (nI 1))), (3, .int ((nI S.length) - (nI 2))), (0, .ref y0), (1, .int (nI 84)), (2, .int ht)]) hx hb d_Mod_act_13 hl (by decide) rfl (fun ls hl => ?_)
  refine lv_iload_n hx hb d_Mod_act_15 rfl (lv_at hl 3 rfl) ?_
  refine lv_bipush (v := nI 82) hx hb d_Mod_act_16 (by decide) ?_
  refine j_eq C 84 82 rfl rfl (by decide) (by decide) d_Mod_act_18 rfl (fun hc1 => absurd hc1 (by decide)) (fun hc1 => ?_)
  refine lv_iload_n hx hb d_Mod_act_21 rfl (lv_at hl 3 rfl) ?_
  refine lv_bipush (v := nI 83) hx hb d_Mod_act_22 (by decide) ?_
  refine j_eq C 84 83 rfl rfl (by decide) (by decide) d_Mod_act_24 rfl (fun hc2 => absurd hc2 (by decide)) (fun hc2 => ?_)
  refine lv_iload_n hx hb d_Mod_act_27 rfl (lv_at hl 3 rfl) ?_
  refine lv_bipush (v := nI 86) hx hb d_Mod_act_28 (by decide) ?_
  refine j_eq C 84 86 rfl rfl (by decide) (by decide) d_Mod_act_30 rfl (fun hc3 => absurd hc3 (by decide)) (fun hc3 => ?_)
  refine lv_iload_n hx hb d_Mod_act_33 rfl (lv_at hl 3 rfl) ?_
  refine lv_bipush (v := nI 89) hx hb d_Mod_act_34 (by decide) ?_
  refine j_lt C 84 89 rfl rfl (by decide) (by decide) d_Mod_act_36 rfl (fun hc4 => ?_) (fun hc4 => absurd hc4 (by decide))
  refine lv_iload_n hx hb d_Mod_act_45 rfl (lv_at hl 3 rfl) ?_
  refine lv_bipush (v := nI 95) hx hb d_Mod_act_46 (by decide) ?_
  refine j_ne C 84 95 rfl rfl (by decide) (by decide) d_Mod_act_48 rfl (fun hc5 => ?_) (fun hc5 => absurd hc5 (by decide))
  refine lv_iconst (v := nI 0) hx hb d_Mod_act_55 (by decide) ?_
  refine lv_istore (lv' := [(5, .int (nI 0)), (4, .int ((nI S.length) - (nI 1))), (3, .int ((nI S.length) - (nI 2))), (0, .ref y0), (1, .int (nI 84)), (2, .int ht)]) hx hb d_Mod_act_56 hl (by decide) rfl (fun ls hl => ?_)
  refine lv_aload_n hx hb d_Mod_act_58 rfl (lv_at hl 3 rfl) ?_
  refine n_get C fg_Mod_66 hP 0 rfl rfl d_Mod_act_59 ?_
  refine lv_iload hx hb d_Mod_act_62 (lv_at hl 0 rfl) ?_
  refine z_eq C 0 rfl (by omega) d_Mod_act_64 rfl (fun hc6 => ?_) (fun hc6 => absurd hc6 (by omega))
  refine lv_iload_n hx hb d_Mod_act_71 rfl (lv_at hl 4 rfl) ?_
  refine lv_bipush (v := nI 102) hx hb d_Mod_act_72 (by decide) ?_
  refine j_ne C 84 102 rfl rfl (by decide) (by decide) d_Mod_act_74 rfl (fun hc7 => ?_) (fun hc7 => absurd hc7 (by decide))
  refine lv_iconst (v := nI 1) hx hb d_Mod_act_81 (by decide) ?_
  refine j_ge C S.length 1 rfl rfl (by omega) (by omega) d_Mod_act_82 rfl (fun hc8 => ?_) (fun hc8 => ?_)
  · refine lv_iload_n hx hb d_Mod_act_87 rfl (lv_at hl 4 rfl) ?_
    refine lv_bipush (v := nI 88) hx hb d_Mod_act_88 (by decide) ?_
    refine j_lt C 84 88 rfl rfl (by decide) (by decide) d_Mod_act_90 rfl (fun hc9 => ?_) (fun hc9 => absurd hc9 (by decide))
    refine lv_iload_n hx hb d_Mod_act_99 rfl (lv_at hl 4 rfl) ?_
    refine lv_bipush (v := nI 96) hx hb d_Mod_act_100 (by decide) ?_
    refine j_ne C 84 96 rfl rfl (by decide) (by decide) d_Mod_act_102 rfl (fun hc10 => ?_) (fun hc10 => absurd hc10 (by decide))
    refine lv_iconst (v := nI 0) hx hb d_Mod_act_109 (by decide) ?_
    refine lv_istore (lv' := [(6, .int (nI 0)), (5, .int (nI 0)), (4, .int ((nI S.length) - (nI 1))), (3, .int ((nI S.length) - (nI 2))), (0, .ref y0), (1, .int (nI 84)), (2, .int ht)]) hx hb d_Mod_act_110 hl (by decide) rfl (fun ls hl => ?_)
    refine lv_iload hx hb d_Mod_act_112 (lv_at hl 0 rfl) ?_
    refine z_eq C 0 rfl (by omega) d_Mod_act_114 rfl (fun hc11 => ?_) (fun hc11 => absurd hc11 (by omega))
    refine lv_iload hx hb d_Mod_act_145 (lv_at hl 1 rfl) ?_
    refine z_eq C 0 rfl (by omega) d_Mod_act_147 rfl (fun hc12 => ?_) (fun hc12 => absurd hc12 (by omega))
    refine lv_iconst (v := nI 0) hx hb d_Mod_act_163 (by decide) ?_
    refine lv_istore (lv' := [(7, .int (nI 0)), (6, .int (nI 0)), (5, .int (nI 0)), (4, .int ((nI S.length) - (nI 1))), (3, .int ((nI S.length) - (nI 2))), (0, .ref y0), (1, .int (nI 84)), (2, .int ht)]) hx hb d_Mod_act_164 hl (by decide) rfl (fun ls hl => ?_)
    refine lv_iload hx hb d_Mod_act_166 (lv_at hl 1 rfl) ?_
    refine z_eq C 0 rfl (by omega) d_Mod_act_168 rfl (fun hc13 => ?_) (fun hc13 => absurd hc13 (by omega))
    refine lv_iconst (v := nI 0) hx hb d_Mod_act_180 (by decide) ?_
    refine lv_istore (lv' := [(8, .int (nI 0)), (7, .int (nI 0)), (6, .int (nI 0)), (5, .int (nI 0)), (4, .int ((nI S.length) - (nI 1))), (3, .int ((nI S.length) - (nI 2))), (0, .ref y0), (1, .int (nI 84)), (2, .int ht)]) hx hb d_Mod_act_181 hl (by decide) rfl (fun ls hl => ?_)
    refine lv_iload_n hx hb d_Mod_act_183 rfl (lv_at hl 7 rfl) ?_
    refine lv_tableIn hx hb d_Mod_act_184 (by decide) (by decide) rfl rfl ?_
    refine lv_iconst (v := nI 0) hx hb d_Mod_act_825 (by decide) ?_
    exact kret (nI 0) [(y0, .inr (7, [.ref ya, .int (nI nt), .ref yo, .int (nI no), .ref ym, .ref yl, .ref yg, .ref yw, .ref yh, .ref yc, .ref yd, .ref yb, .ref yk, .ref yz, .int (nI S.length), .int (b2 fl), .ref yr])), (yg, .inl (E.2.1, 32, .inl k5)), (yw, .inl (E.2.2.1, 64, .inl k6)), (yh, .inl (E.2.2.1, 8, .inl k7)), (yc, .inl (E.2.1, 32, .inl k8)), (yd, .inl (E.2.1, 32, .inl k9)), (yb, .inl (E.2.1, 512, .inl kb)), (yk, .inl (E.2.1, 1920, .inl f)), (yz, .inl (E.2.2.1, 24, .inl sz))] _ _ _ _ d_Mod_act_826 (⟨_, _, _, _, _, _, _, _, rfl, hB, Or.inr ⟨rfl, rfl⟩⟩) rfl hP hS
  · refine lv_iconst (v := nI 0) hx hb d_Mod_act_85 (by decide) ?_
    exact kret (nI 0) [(y0, .inr (7, [.ref ya, .int (nI nt), .ref yo, .int (nI no), .ref ym, .ref yl, .ref yg, .ref yw, .ref yh, .ref yc, .ref yd, .ref yb, .ref yk, .ref yz, .int (nI S.length), .int (b2 fl), .ref yr])), (yg, .inl (E.2.1, 32, .inl k5)), (yw, .inl (E.2.2.1, 64, .inl k6)), (yh, .inl (E.2.2.1, 8, .inl k7)), (yc, .inl (E.2.1, 32, .inl k8)), (yd, .inl (E.2.1, 32, .inl k9)), (yb, .inl (E.2.1, 512, .inl kb)), (yk, .inl (E.2.1, 1920, .inl f)), (yz, .inl (E.2.2.1, 24, .inl sz))] _ _ _ _ d_Mod_act_86 (⟨_, _, _, _, _, _, _, _, rfl, hB, Or.inr ⟨rfl, rfl⟩⟩) rfl hP hS

set_option maxHeartbeats 4000000 in
set_option maxRecDepth 100000 in
theorem c_act_97 (l : Launch) (E : En) (y0 ya yo ym yl yg yw yh yc yd yb yk yz yr nt no : Nat) (fl : Bool) (k5 k6 k7 k8 k9 kb f sz : Nat → Int32) (S : Stk) (msg : Byl) (hrep : rep f sz S) (hB : fB f) (hB5 : fB k5) (hlen : S.length ≤ 24) (hm : lay k5 0 msg) (hm32 : msg.length = 32) (ht : Int32) : CtI l y_Mod_act b_Mod_act 11 .boolean (rmd 4) E [.ref y0, .int (nI 97), .int ht] [(y0, .inr (7, [.ref ya, .int (nI nt), .ref yo, .int (nI no), .ref ym, .ref yl, .ref yg, .ref yw, .ref yh, .ref yc, .ref yd, .ref yb, .ref yk, .ref yz, .int (nI S.length), .int (b2 fl), .ref yr])), (yg, .inl (E.2.1, 32, .inl k5)), (yw, .inl (E.2.2.1, 64, .inl k6)), (yh, .inl (E.2.2.1, 8, .inl k7)), (yc, .inl (E.2.1, 32, .inl k8)), (yd, .inl (E.2.1, 32, .inl k9)), (yb, .inl (E.2.1, 512, .inl kb)), (yk, .inl (E.2.1, 1920, .inl f)), (yz, .inl (E.2.2.1, 24, .inl sz))] (stepM E y0 ya yo ym yl yg yw yh yc yd yb yk yz yr nt no fl k5 (actS 97 ht msg S)) := by
  refine CtI.of (by decide) (Nat.le_of_ble_eq_true rfl) (stepM_nar) ?_
  intro p e s m args below meth c A Q H locs ls C hP hD hS hl kret
  have hx := C.1
  have hb := C.2.1
  have hl : lv_has ls 11 [(0, .ref y0), (1, .int (nI 97)), (2, .int ht)] := hl
  refine lv_aload_n hx hb d_Mod_act_0 rfl (lv_at hl 0 rfl) ?_
  refine n_get C fg_Mod_66 hP 0 rfl rfl d_Mod_act_1 ?_
  refine lv_iconst (v := nI 2) hx hb d_Mod_act_4 (by decide) ?_
  refine lv_isub hx hb d_Mod_act_5 ?_
  refine lv_istore_n (lv' := [(3, .int ((nI S.length) - (nI 2))), (0, .ref y0), (1, .int (nI 97)), (2, .int ht)]) hx hb d_Mod_act_6 rfl hl (by decide) rfl (fun ls hl => ?_)
  refine lv_aload_n hx hb d_Mod_act_7 rfl (lv_at hl 1 rfl) ?_
  refine n_get C fg_Mod_66 hP 0 rfl rfl d_Mod_act_8 ?_
  refine lv_iconst (v := nI 1) hx hb d_Mod_act_11 (by decide) ?_
  refine lv_isub hx hb d_Mod_act_12 ?_
  refine lv_istore (lv' := [(4, .int ((nI S.length) - (nI 1))), (3, .int ((nI S.length) - (nI 2))), (0, .ref y0), (1, .int (nI 97)), (2, .int ht)]) hx hb d_Mod_act_13 hl (by decide) rfl (fun ls hl => ?_)
  refine lv_iload_n hx hb d_Mod_act_15 rfl (lv_at hl 3 rfl) ?_
  refine lv_bipush (v := nI 82) hx hb d_Mod_act_16 (by decide) ?_
  refine j_eq C 97 82 rfl rfl (by decide) (by decide) d_Mod_act_18 rfl (fun hc1 => absurd hc1 (by decide)) (fun hc1 => ?_)
  refine lv_iload_n hx hb d_Mod_act_21 rfl (lv_at hl 3 rfl) ?_
  refine lv_bipush (v := nI 83) hx hb d_Mod_act_22 (by decide) ?_
  refine j_eq C 97 83 rfl rfl (by decide) (by decide) d_Mod_act_24 rfl (fun hc2 => absurd hc2 (by decide)) (fun hc2 => ?_)
  refine lv_iload_n hx hb d_Mod_act_27 rfl (lv_at hl 3 rfl) ?_
  refine lv_bipush (v := nI 86) hx hb d_Mod_act_28 (by decide) ?_
  refine j_eq C 97 86 rfl rfl (by decide) (by decide) d_Mod_act_30 rfl (fun hc3 => absurd hc3 (by decide)) (fun hc3 => ?_)
  refine lv_iload_n hx hb d_Mod_act_33 rfl (lv_at hl 3 rfl) ?_
  refine lv_bipush (v := nI 89) hx hb d_Mod_act_34 (by decide) ?_
  refine j_lt C 97 89 rfl rfl (by decide) (by decide) d_Mod_act_36 rfl (fun hc4 => absurd hc4 (by decide)) (fun hc4 => ?_)
  refine lv_iload_n hx hb d_Mod_act_39 rfl (lv_at hl 3 rfl) ?_
  refine lv_bipush (v := nI 92) hx hb d_Mod_act_40 (by decide) ?_
  refine j_le C 97 92 rfl rfl (by decide) (by decide) d_Mod_act_42 rfl (fun hc5 => absurd hc5 (by decide)) (fun hc5 => ?_)
  refine lv_iload_n hx hb d_Mod_act_45 rfl (lv_at hl 3 rfl) ?_
  refine lv_bipush (v := nI 95) hx hb d_Mod_act_46 (by decide) ?_
  refine j_ne C 97 95 rfl rfl (by decide) (by decide) d_Mod_act_48 rfl (fun hc6 => ?_) (fun hc6 => absurd hc6 (by decide))
  refine lv_iconst (v := nI 0) hx hb d_Mod_act_55 (by decide) ?_
  refine lv_istore (lv' := [(5, .int (nI 0)), (4, .int ((nI S.length) - (nI 1))), (3, .int ((nI S.length) - (nI 2))), (0, .ref y0), (1, .int (nI 97)), (2, .int ht)]) hx hb d_Mod_act_56 hl (by decide) rfl (fun ls hl => ?_)
  refine lv_aload_n hx hb d_Mod_act_58 rfl (lv_at hl 3 rfl) ?_
  refine n_get C fg_Mod_66 hP 0 rfl rfl d_Mod_act_59 ?_
  refine lv_iload hx hb d_Mod_act_62 (lv_at hl 0 rfl) ?_
  refine z_eq C 0 rfl (by omega) d_Mod_act_64 rfl (fun hc7 => ?_) (fun hc7 => absurd hc7 (by omega))
  refine lv_iload_n hx hb d_Mod_act_71 rfl (lv_at hl 4 rfl) ?_
  refine lv_bipush (v := nI 102) hx hb d_Mod_act_72 (by decide) ?_
  refine j_ne C 97 102 rfl rfl (by decide) (by decide) d_Mod_act_74 rfl (fun hc8 => ?_) (fun hc8 => absurd hc8 (by decide))
  refine lv_iconst (v := nI 1) hx hb d_Mod_act_81 (by decide) ?_
  refine j_ge C S.length 1 rfl rfl (by omega) (by omega) d_Mod_act_82 rfl (fun hc9 => ?_) (fun hc9 => ?_)
  · refine lv_iload_n hx hb d_Mod_act_87 rfl (lv_at hl 4 rfl) ?_
    refine lv_bipush (v := nI 88) hx hb d_Mod_act_88 (by decide) ?_
    refine j_lt C 97 88 rfl rfl (by decide) (by decide) d_Mod_act_90 rfl (fun hc10 => absurd hc10 (by decide)) (fun hc10 => ?_)
    refine lv_iload_n hx hb d_Mod_act_93 rfl (lv_at hl 4 rfl) ?_
    refine lv_bipush (v := nI 91) hx hb d_Mod_act_94 (by decide) ?_
    refine j_le C 97 91 rfl rfl (by decide) (by decide) d_Mod_act_96 rfl (fun hc11 => absurd hc11 (by decide)) (fun hc11 => ?_)
    refine lv_iload_n hx hb d_Mod_act_99 rfl (lv_at hl 4 rfl) ?_
    refine lv_bipush (v := nI 96) hx hb d_Mod_act_100 (by decide) ?_
    refine j_ne C 97 96 rfl rfl (by decide) (by decide) d_Mod_act_102 rfl (fun hc12 => ?_) (fun hc12 => absurd hc12 (by decide))
    refine lv_iconst (v := nI 0) hx hb d_Mod_act_109 (by decide) ?_
    refine lv_istore (lv' := [(6, .int (nI 0)), (5, .int (nI 0)), (4, .int ((nI S.length) - (nI 1))), (3, .int ((nI S.length) - (nI 2))), (0, .ref y0), (1, .int (nI 97)), (2, .int ht)]) hx hb d_Mod_act_110 hl (by decide) rfl (fun ls hl => ?_)
    refine lv_iload hx hb d_Mod_act_112 (lv_at hl 0 rfl) ?_
    refine z_eq C 0 rfl (by omega) d_Mod_act_114 rfl (fun hc13 => ?_) (fun hc13 => absurd hc13 (by omega))
    refine lv_iload hx hb d_Mod_act_145 (lv_at hl 1 rfl) ?_
    refine z_eq C 0 rfl (by omega) d_Mod_act_147 rfl (fun hc14 => ?_) (fun hc14 => absurd hc14 (by omega))
    refine lv_iconst (v := nI 0) hx hb d_Mod_act_163 (by decide) ?_
    refine lv_istore (lv' := [(7, .int (nI 0)), (6, .int (nI 0)), (5, .int (nI 0)), (4, .int ((nI S.length) - (nI 1))), (3, .int ((nI S.length) - (nI 2))), (0, .ref y0), (1, .int (nI 97)), (2, .int ht)]) hx hb d_Mod_act_164 hl (by decide) rfl (fun ls hl => ?_)
    refine lv_iload hx hb d_Mod_act_166 (lv_at hl 1 rfl) ?_
    refine z_eq C 0 rfl (by omega) d_Mod_act_168 rfl (fun hc15 => ?_) (fun hc15 => absurd hc15 (by omega))
    refine lv_iconst (v := nI 0) hx hb d_Mod_act_180 (by decide) ?_
    refine lv_istore (lv' := [(8, .int (nI 0)), (7, .int (nI 0)), (6, .int (nI 0)), (5, .int (nI 0)), (4, .int ((nI S.length) - (nI 1))), (3, .int ((nI S.length) - (nI 2))), (0, .ref y0), (1, .int (nI 97)), (2, .int ht)]) hx hb d_Mod_act_181 hl (by decide) rfl (fun ls hl => ?_)
    refine lv_iload_n hx hb d_Mod_act_183 rfl (lv_at hl 7 rfl) ?_
    refine lv_tableIn hx hb d_Mod_act_184 (by decide) (by decide) rfl rfl ?_
    refine lv_iconst (v := nI 0) hx hb d_Mod_act_825 (by decide) ?_
    exact kret (nI 0) [(y0, .inr (7, [.ref ya, .int (nI nt), .ref yo, .int (nI no), .ref ym, .ref yl, .ref yg, .ref yw, .ref yh, .ref yc, .ref yd, .ref yb, .ref yk, .ref yz, .int (nI S.length), .int (b2 fl), .ref yr])), (yg, .inl (E.2.1, 32, .inl k5)), (yw, .inl (E.2.2.1, 64, .inl k6)), (yh, .inl (E.2.2.1, 8, .inl k7)), (yc, .inl (E.2.1, 32, .inl k8)), (yd, .inl (E.2.1, 32, .inl k9)), (yb, .inl (E.2.1, 512, .inl kb)), (yk, .inl (E.2.1, 1920, .inl f)), (yz, .inl (E.2.2.1, 24, .inl sz))] _ _ _ _ d_Mod_act_826 (⟨_, _, _, _, _, _, _, _, rfl, hB, Or.inr ⟨rfl, rfl⟩⟩) rfl hP hS
  · refine lv_iconst (v := nI 0) hx hb d_Mod_act_85 (by decide) ?_
    exact kret (nI 0) [(y0, .inr (7, [.ref ya, .int (nI nt), .ref yo, .int (nI no), .ref ym, .ref yl, .ref yg, .ref yw, .ref yh, .ref yc, .ref yd, .ref yb, .ref yk, .ref yz, .int (nI S.length), .int (b2 fl), .ref yr])), (yg, .inl (E.2.1, 32, .inl k5)), (yw, .inl (E.2.2.1, 64, .inl k6)), (yh, .inl (E.2.2.1, 8, .inl k7)), (yc, .inl (E.2.1, 32, .inl k8)), (yd, .inl (E.2.1, 32, .inl k9)), (yb, .inl (E.2.1, 512, .inl kb)), (yk, .inl (E.2.1, 1920, .inl f)), (yz, .inl (E.2.2.1, 24, .inl sz))] _ _ _ _ d_Mod_act_86 (⟨_, _, _, _, _, _, _, _, rfl, hB, Or.inr ⟨rfl, rfl⟩⟩) rfl hP hS

set_option maxHeartbeats 4000000 in
set_option maxRecDepth 100000 in
theorem c_act_98 (l : Launch) (E : En) (y0 ya yo ym yl yg yw yh yc yd yb yk yz yr nt no : Nat) (fl : Bool) (k5 k6 k7 k8 k9 kb f sz : Nat → Int32) (S : Stk) (msg : Byl) (hrep : rep f sz S) (hB : fB f) (hB5 : fB k5) (hlen : S.length ≤ 24) (hm : lay k5 0 msg) (hm32 : msg.length = 32) (ht : Int32) : CtI l y_Mod_act b_Mod_act 11 .boolean (rmd 4) E [.ref y0, .int (nI 98), .int ht] [(y0, .inr (7, [.ref ya, .int (nI nt), .ref yo, .int (nI no), .ref ym, .ref yl, .ref yg, .ref yw, .ref yh, .ref yc, .ref yd, .ref yb, .ref yk, .ref yz, .int (nI S.length), .int (b2 fl), .ref yr])), (yg, .inl (E.2.1, 32, .inl k5)), (yw, .inl (E.2.2.1, 64, .inl k6)), (yh, .inl (E.2.2.1, 8, .inl k7)), (yc, .inl (E.2.1, 32, .inl k8)), (yd, .inl (E.2.1, 32, .inl k9)), (yb, .inl (E.2.1, 512, .inl kb)), (yk, .inl (E.2.1, 1920, .inl f)), (yz, .inl (E.2.2.1, 24, .inl sz))] (stepM E y0 ya yo ym yl yg yw yh yc yd yb yk yz yr nt no fl k5 (actS 98 ht msg S)) := by
  refine CtI.of (by decide) (Nat.le_of_ble_eq_true rfl) (stepM_nar) ?_
  intro p e s m args below meth c A Q H locs ls C hP hD hS hl kret
  have hx := C.1
  have hb := C.2.1
  have hl : lv_has ls 11 [(0, .ref y0), (1, .int (nI 98)), (2, .int ht)] := hl
  refine lv_aload_n hx hb d_Mod_act_0 rfl (lv_at hl 0 rfl) ?_
  refine n_get C fg_Mod_66 hP 0 rfl rfl d_Mod_act_1 ?_
  refine lv_iconst (v := nI 2) hx hb d_Mod_act_4 (by decide) ?_
  refine lv_isub hx hb d_Mod_act_5 ?_
  refine lv_istore_n (lv' := [(3, .int ((nI S.length) - (nI 2))), (0, .ref y0), (1, .int (nI 98)), (2, .int ht)]) hx hb d_Mod_act_6 rfl hl (by decide) rfl (fun ls hl => ?_)
  refine lv_aload_n hx hb d_Mod_act_7 rfl (lv_at hl 1 rfl) ?_
  refine n_get C fg_Mod_66 hP 0 rfl rfl d_Mod_act_8 ?_
  refine lv_iconst (v := nI 1) hx hb d_Mod_act_11 (by decide) ?_
  refine lv_isub hx hb d_Mod_act_12 ?_
  refine lv_istore (lv' := [(4, .int ((nI S.length) - (nI 1))), (3, .int ((nI S.length) - (nI 2))), (0, .ref y0), (1, .int (nI 98)), (2, .int ht)]) hx hb d_Mod_act_13 hl (by decide) rfl (fun ls hl => ?_)
  refine lv_iload_n hx hb d_Mod_act_15 rfl (lv_at hl 3 rfl) ?_
  refine lv_bipush (v := nI 82) hx hb d_Mod_act_16 (by decide) ?_
  refine j_eq C 98 82 rfl rfl (by decide) (by decide) d_Mod_act_18 rfl (fun hc1 => absurd hc1 (by decide)) (fun hc1 => ?_)
  refine lv_iload_n hx hb d_Mod_act_21 rfl (lv_at hl 3 rfl) ?_
  refine lv_bipush (v := nI 83) hx hb d_Mod_act_22 (by decide) ?_
  refine j_eq C 98 83 rfl rfl (by decide) (by decide) d_Mod_act_24 rfl (fun hc2 => absurd hc2 (by decide)) (fun hc2 => ?_)
  refine lv_iload_n hx hb d_Mod_act_27 rfl (lv_at hl 3 rfl) ?_
  refine lv_bipush (v := nI 86) hx hb d_Mod_act_28 (by decide) ?_
  refine j_eq C 98 86 rfl rfl (by decide) (by decide) d_Mod_act_30 rfl (fun hc3 => absurd hc3 (by decide)) (fun hc3 => ?_)
  refine lv_iload_n hx hb d_Mod_act_33 rfl (lv_at hl 3 rfl) ?_
  refine lv_bipush (v := nI 89) hx hb d_Mod_act_34 (by decide) ?_
  refine j_lt C 98 89 rfl rfl (by decide) (by decide) d_Mod_act_36 rfl (fun hc4 => absurd hc4 (by decide)) (fun hc4 => ?_)
  refine lv_iload_n hx hb d_Mod_act_39 rfl (lv_at hl 3 rfl) ?_
  refine lv_bipush (v := nI 92) hx hb d_Mod_act_40 (by decide) ?_
  refine j_le C 98 92 rfl rfl (by decide) (by decide) d_Mod_act_42 rfl (fun hc5 => absurd hc5 (by decide)) (fun hc5 => ?_)
  refine lv_iload_n hx hb d_Mod_act_45 rfl (lv_at hl 3 rfl) ?_
  refine lv_bipush (v := nI 95) hx hb d_Mod_act_46 (by decide) ?_
  refine j_ne C 98 95 rfl rfl (by decide) (by decide) d_Mod_act_48 rfl (fun hc6 => ?_) (fun hc6 => absurd hc6 (by decide))
  refine lv_iconst (v := nI 0) hx hb d_Mod_act_55 (by decide) ?_
  refine lv_istore (lv' := [(5, .int (nI 0)), (4, .int ((nI S.length) - (nI 1))), (3, .int ((nI S.length) - (nI 2))), (0, .ref y0), (1, .int (nI 98)), (2, .int ht)]) hx hb d_Mod_act_56 hl (by decide) rfl (fun ls hl => ?_)
  refine lv_aload_n hx hb d_Mod_act_58 rfl (lv_at hl 3 rfl) ?_
  refine n_get C fg_Mod_66 hP 0 rfl rfl d_Mod_act_59 ?_
  refine lv_iload hx hb d_Mod_act_62 (lv_at hl 0 rfl) ?_
  refine z_eq C 0 rfl (by omega) d_Mod_act_64 rfl (fun hc7 => ?_) (fun hc7 => absurd hc7 (by omega))
  refine lv_iload_n hx hb d_Mod_act_71 rfl (lv_at hl 4 rfl) ?_
  refine lv_bipush (v := nI 102) hx hb d_Mod_act_72 (by decide) ?_
  refine j_ne C 98 102 rfl rfl (by decide) (by decide) d_Mod_act_74 rfl (fun hc8 => ?_) (fun hc8 => absurd hc8 (by decide))
  refine lv_iconst (v := nI 1) hx hb d_Mod_act_81 (by decide) ?_
  refine j_ge C S.length 1 rfl rfl (by omega) (by omega) d_Mod_act_82 rfl (fun hc9 => ?_) (fun hc9 => ?_)
  · refine lv_iload_n hx hb d_Mod_act_87 rfl (lv_at hl 4 rfl) ?_
    refine lv_bipush (v := nI 88) hx hb d_Mod_act_88 (by decide) ?_
    refine j_lt C 98 88 rfl rfl (by decide) (by decide) d_Mod_act_90 rfl (fun hc10 => absurd hc10 (by decide)) (fun hc10 => ?_)
    refine lv_iload_n hx hb d_Mod_act_93 rfl (lv_at hl 4 rfl) ?_
    refine lv_bipush (v := nI 91) hx hb d_Mod_act_94 (by decide) ?_
    refine j_le C 98 91 rfl rfl (by decide) (by decide) d_Mod_act_96 rfl (fun hc11 => absurd hc11 (by decide)) (fun hc11 => ?_)
    refine lv_iload_n hx hb d_Mod_act_99 rfl (lv_at hl 4 rfl) ?_
    refine lv_bipush (v := nI 96) hx hb d_Mod_act_100 (by decide) ?_
    refine j_ne C 98 96 rfl rfl (by decide) (by decide) d_Mod_act_102 rfl (fun hc12 => ?_) (fun hc12 => absurd hc12 (by decide))
    refine lv_iconst (v := nI 0) hx hb d_Mod_act_109 (by decide) ?_
    refine lv_istore (lv' := [(6, .int (nI 0)), (5, .int (nI 0)), (4, .int ((nI S.length) - (nI 1))), (3, .int ((nI S.length) - (nI 2))), (0, .ref y0), (1, .int (nI 98)), (2, .int ht)]) hx hb d_Mod_act_110 hl (by decide) rfl (fun ls hl => ?_)
    refine lv_iload hx hb d_Mod_act_112 (lv_at hl 0 rfl) ?_
    refine z_eq C 0 rfl (by omega) d_Mod_act_114 rfl (fun hc13 => ?_) (fun hc13 => absurd hc13 (by omega))
    refine lv_iload hx hb d_Mod_act_145 (lv_at hl 1 rfl) ?_
    refine z_eq C 0 rfl (by omega) d_Mod_act_147 rfl (fun hc14 => ?_) (fun hc14 => absurd hc14 (by omega))
    refine lv_iconst (v := nI 0) hx hb d_Mod_act_163 (by decide) ?_
    refine lv_istore (lv' := [(7, .int (nI 0)), (6, .int (nI 0)), (5, .int (nI 0)), (4, .int ((nI S.length) - (nI 1))), (3, .int ((nI S.length) - (nI 2))), (0, .ref y0), (1, .int (nI 98)), (2, .int ht)]) hx hb d_Mod_act_164 hl (by decide) rfl (fun ls hl => ?_)
    refine lv_iload hx hb d_Mod_act_166 (lv_at hl 1 rfl) ?_
    refine z_eq C 0 rfl (by omega) d_Mod_act_168 rfl (fun hc15 => ?_) (fun hc15 => absurd hc15 (by omega))
    refine lv_iconst (v := nI 0) hx hb d_Mod_act_180 (by decide) ?_
    refine lv_istore (lv' := [(8, .int (nI 0)), (7, .int (nI 0)), (6, .int (nI 0)), (5, .int (nI 0)), (4, .int ((nI S.length) - (nI 1))), (3, .int ((nI S.length) - (nI 2))), (0, .ref y0), (1, .int (nI 98)), (2, .int ht)]) hx hb d_Mod_act_181 hl (by decide) rfl (fun ls hl => ?_)
    refine lv_iload_n hx hb d_Mod_act_183 rfl (lv_at hl 7 rfl) ?_
    refine lv_tableIn hx hb d_Mod_act_184 (by decide) (by decide) rfl rfl ?_
    refine lv_iconst (v := nI 0) hx hb d_Mod_act_825 (by decide) ?_
    exact kret (nI 0) [(y0, .inr (7, [.ref ya, .int (nI nt), .ref yo, .int (nI no), .ref ym, .ref yl, .ref yg, .ref yw, .ref yh, .ref yc, .ref yd, .ref yb, .ref yk, .ref yz, .int (nI S.length), .int (b2 fl), .ref yr])), (yg, .inl (E.2.1, 32, .inl k5)), (yw, .inl (E.2.2.1, 64, .inl k6)), (yh, .inl (E.2.2.1, 8, .inl k7)), (yc, .inl (E.2.1, 32, .inl k8)), (yd, .inl (E.2.1, 32, .inl k9)), (yb, .inl (E.2.1, 512, .inl kb)), (yk, .inl (E.2.1, 1920, .inl f)), (yz, .inl (E.2.2.1, 24, .inl sz))] _ _ _ _ d_Mod_act_826 (⟨_, _, _, _, _, _, _, _, rfl, hB, Or.inr ⟨rfl, rfl⟩⟩) rfl hP hS
  · refine lv_iconst (v := nI 0) hx hb d_Mod_act_85 (by decide) ?_
    exact kret (nI 0) [(y0, .inr (7, [.ref ya, .int (nI nt), .ref yo, .int (nI no), .ref ym, .ref yl, .ref yg, .ref yw, .ref yh, .ref yc, .ref yd, .ref yb, .ref yk, .ref yz, .int (nI S.length), .int (b2 fl), .ref yr])), (yg, .inl (E.2.1, 32, .inl k5)), (yw, .inl (E.2.2.1, 64, .inl k6)), (yh, .inl (E.2.2.1, 8, .inl k7)), (yc, .inl (E.2.1, 32, .inl k8)), (yd, .inl (E.2.1, 32, .inl k9)), (yb, .inl (E.2.1, 512, .inl kb)), (yk, .inl (E.2.1, 1920, .inl f)), (yz, .inl (E.2.2.1, 24, .inl sz))] _ _ _ _ d_Mod_act_86 (⟨_, _, _, _, _, _, _, _, rfl, hB, Or.inr ⟨rfl, rfl⟩⟩) rfl hP hS

set_option maxHeartbeats 4000000 in
set_option maxRecDepth 100000 in
theorem c_act_99 (l : Launch) (E : En) (y0 ya yo ym yl yg yw yh yc yd yb yk yz yr nt no : Nat) (fl : Bool) (k5 k6 k7 k8 k9 kb f sz : Nat → Int32) (S : Stk) (msg : Byl) (hrep : rep f sz S) (hB : fB f) (hB5 : fB k5) (hlen : S.length ≤ 24) (hm : lay k5 0 msg) (hm32 : msg.length = 32) (ht : Int32) : CtI l y_Mod_act b_Mod_act 11 .boolean (rmd 4) E [.ref y0, .int (nI 99), .int ht] [(y0, .inr (7, [.ref ya, .int (nI nt), .ref yo, .int (nI no), .ref ym, .ref yl, .ref yg, .ref yw, .ref yh, .ref yc, .ref yd, .ref yb, .ref yk, .ref yz, .int (nI S.length), .int (b2 fl), .ref yr])), (yg, .inl (E.2.1, 32, .inl k5)), (yw, .inl (E.2.2.1, 64, .inl k6)), (yh, .inl (E.2.2.1, 8, .inl k7)), (yc, .inl (E.2.1, 32, .inl k8)), (yd, .inl (E.2.1, 32, .inl k9)), (yb, .inl (E.2.1, 512, .inl kb)), (yk, .inl (E.2.1, 1920, .inl f)), (yz, .inl (E.2.2.1, 24, .inl sz))] (stepM E y0 ya yo ym yl yg yw yh yc yd yb yk yz yr nt no fl k5 (actS 99 ht msg S)) := by
  refine CtI.of (by decide) (Nat.le_of_ble_eq_true rfl) (stepM_nar) ?_
  intro p e s m args below meth c A Q H locs ls C hP hD hS hl kret
  have hx := C.1
  have hb := C.2.1
  have hl : lv_has ls 11 [(0, .ref y0), (1, .int (nI 99)), (2, .int ht)] := hl
  refine lv_aload_n hx hb d_Mod_act_0 rfl (lv_at hl 0 rfl) ?_
  refine n_get C fg_Mod_66 hP 0 rfl rfl d_Mod_act_1 ?_
  refine lv_iconst (v := nI 2) hx hb d_Mod_act_4 (by decide) ?_
  refine lv_isub hx hb d_Mod_act_5 ?_
  refine lv_istore_n (lv' := [(3, .int ((nI S.length) - (nI 2))), (0, .ref y0), (1, .int (nI 99)), (2, .int ht)]) hx hb d_Mod_act_6 rfl hl (by decide) rfl (fun ls hl => ?_)
  refine lv_aload_n hx hb d_Mod_act_7 rfl (lv_at hl 1 rfl) ?_
  refine n_get C fg_Mod_66 hP 0 rfl rfl d_Mod_act_8 ?_
  refine lv_iconst (v := nI 1) hx hb d_Mod_act_11 (by decide) ?_
  refine lv_isub hx hb d_Mod_act_12 ?_
  refine lv_istore (lv' := [(4, .int ((nI S.length) - (nI 1))), (3, .int ((nI S.length) - (nI 2))), (0, .ref y0), (1, .int (nI 99)), (2, .int ht)]) hx hb d_Mod_act_13 hl (by decide) rfl (fun ls hl => ?_)
  refine lv_iload_n hx hb d_Mod_act_15 rfl (lv_at hl 3 rfl) ?_
  refine lv_bipush (v := nI 82) hx hb d_Mod_act_16 (by decide) ?_
  refine j_eq C 99 82 rfl rfl (by decide) (by decide) d_Mod_act_18 rfl (fun hc1 => absurd hc1 (by decide)) (fun hc1 => ?_)
  refine lv_iload_n hx hb d_Mod_act_21 rfl (lv_at hl 3 rfl) ?_
  refine lv_bipush (v := nI 83) hx hb d_Mod_act_22 (by decide) ?_
  refine j_eq C 99 83 rfl rfl (by decide) (by decide) d_Mod_act_24 rfl (fun hc2 => absurd hc2 (by decide)) (fun hc2 => ?_)
  refine lv_iload_n hx hb d_Mod_act_27 rfl (lv_at hl 3 rfl) ?_
  refine lv_bipush (v := nI 86) hx hb d_Mod_act_28 (by decide) ?_
  refine j_eq C 99 86 rfl rfl (by decide) (by decide) d_Mod_act_30 rfl (fun hc3 => absurd hc3 (by decide)) (fun hc3 => ?_)
  refine lv_iload_n hx hb d_Mod_act_33 rfl (lv_at hl 3 rfl) ?_
  refine lv_bipush (v := nI 89) hx hb d_Mod_act_34 (by decide) ?_
  refine j_lt C 99 89 rfl rfl (by decide) (by decide) d_Mod_act_36 rfl (fun hc4 => absurd hc4 (by decide)) (fun hc4 => ?_)
  refine lv_iload_n hx hb d_Mod_act_39 rfl (lv_at hl 3 rfl) ?_
  refine lv_bipush (v := nI 92) hx hb d_Mod_act_40 (by decide) ?_
  refine j_le C 99 92 rfl rfl (by decide) (by decide) d_Mod_act_42 rfl (fun hc5 => absurd hc5 (by decide)) (fun hc5 => ?_)
  refine lv_iload_n hx hb d_Mod_act_45 rfl (lv_at hl 3 rfl) ?_
  refine lv_bipush (v := nI 95) hx hb d_Mod_act_46 (by decide) ?_
  refine j_ne C 99 95 rfl rfl (by decide) (by decide) d_Mod_act_48 rfl (fun hc6 => ?_) (fun hc6 => absurd hc6 (by decide))
  refine lv_iconst (v := nI 0) hx hb d_Mod_act_55 (by decide) ?_
  refine lv_istore (lv' := [(5, .int (nI 0)), (4, .int ((nI S.length) - (nI 1))), (3, .int ((nI S.length) - (nI 2))), (0, .ref y0), (1, .int (nI 99)), (2, .int ht)]) hx hb d_Mod_act_56 hl (by decide) rfl (fun ls hl => ?_)
  refine lv_aload_n hx hb d_Mod_act_58 rfl (lv_at hl 3 rfl) ?_
  refine n_get C fg_Mod_66 hP 0 rfl rfl d_Mod_act_59 ?_
  refine lv_iload hx hb d_Mod_act_62 (lv_at hl 0 rfl) ?_
  refine z_eq C 0 rfl (by omega) d_Mod_act_64 rfl (fun hc7 => ?_) (fun hc7 => absurd hc7 (by omega))
  refine lv_iload_n hx hb d_Mod_act_71 rfl (lv_at hl 4 rfl) ?_
  refine lv_bipush (v := nI 102) hx hb d_Mod_act_72 (by decide) ?_
  refine j_ne C 99 102 rfl rfl (by decide) (by decide) d_Mod_act_74 rfl (fun hc8 => ?_) (fun hc8 => absurd hc8 (by decide))
  refine lv_iconst (v := nI 1) hx hb d_Mod_act_81 (by decide) ?_
  refine j_ge C S.length 1 rfl rfl (by omega) (by omega) d_Mod_act_82 rfl (fun hc9 => ?_) (fun hc9 => ?_)
  · refine lv_iload_n hx hb d_Mod_act_87 rfl (lv_at hl 4 rfl) ?_
    refine lv_bipush (v := nI 88) hx hb d_Mod_act_88 (by decide) ?_
    refine j_lt C 99 88 rfl rfl (by decide) (by decide) d_Mod_act_90 rfl (fun hc10 => absurd hc10 (by decide)) (fun hc10 => ?_)
    refine lv_iload_n hx hb d_Mod_act_93 rfl (lv_at hl 4 rfl) ?_
    refine lv_bipush (v := nI 91) hx hb d_Mod_act_94 (by decide) ?_
    refine j_le C 99 91 rfl rfl (by decide) (by decide) d_Mod_act_96 rfl (fun hc11 => absurd hc11 (by decide)) (fun hc11 => ?_)
    refine lv_iload_n hx hb d_Mod_act_99 rfl (lv_at hl 4 rfl) ?_
    refine lv_bipush (v := nI 96) hx hb d_Mod_act_100 (by decide) ?_
    refine j_ne C 99 96 rfl rfl (by decide) (by decide) d_Mod_act_102 rfl (fun hc12 => ?_) (fun hc12 => absurd hc12 (by decide))
    refine lv_iconst (v := nI 0) hx hb d_Mod_act_109 (by decide) ?_
    refine lv_istore (lv' := [(6, .int (nI 0)), (5, .int (nI 0)), (4, .int ((nI S.length) - (nI 1))), (3, .int ((nI S.length) - (nI 2))), (0, .ref y0), (1, .int (nI 99)), (2, .int ht)]) hx hb d_Mod_act_110 hl (by decide) rfl (fun ls hl => ?_)
    refine lv_iload hx hb d_Mod_act_112 (lv_at hl 0 rfl) ?_
    refine z_eq C 0 rfl (by omega) d_Mod_act_114 rfl (fun hc13 => ?_) (fun hc13 => absurd hc13 (by omega))
    refine lv_iload hx hb d_Mod_act_145 (lv_at hl 1 rfl) ?_
    refine z_eq C 0 rfl (by omega) d_Mod_act_147 rfl (fun hc14 => ?_) (fun hc14 => absurd hc14 (by omega))
    refine lv_iconst (v := nI 0) hx hb d_Mod_act_163 (by decide) ?_
    refine lv_istore (lv' := [(7, .int (nI 0)), (6, .int (nI 0)), (5, .int (nI 0)), (4, .int ((nI S.length) - (nI 1))), (3, .int ((nI S.length) - (nI 2))), (0, .ref y0), (1, .int (nI 99)), (2, .int ht)]) hx hb d_Mod_act_164 hl (by decide) rfl (fun ls hl => ?_)
    refine lv_iload hx hb d_Mod_act_166 (lv_at hl 1 rfl) ?_
    refine z_eq C 0 rfl (by omega) d_Mod_act_168 rfl (fun hc15 => ?_) (fun hc15 => absurd hc15 (by omega))
    refine lv_iconst (v := nI 0) hx hb d_Mod_act_180 (by decide) ?_
    refine lv_istore (lv' := [(8, .int (nI 0)), (7, .int (nI 0)), (6, .int (nI 0)), (5, .int (nI 0)), (4, .int ((nI S.length) - (nI 1))), (3, .int ((nI S.length) - (nI 2))), (0, .ref y0), (1, .int (nI 99)), (2, .int ht)]) hx hb d_Mod_act_181 hl (by decide) rfl (fun ls hl => ?_)
    refine lv_iload_n hx hb d_Mod_act_183 rfl (lv_at hl 7 rfl) ?_
    refine lv_tableIn hx hb d_Mod_act_184 (by decide) (by decide) rfl rfl ?_
    refine lv_iconst (v := nI 0) hx hb d_Mod_act_825 (by decide) ?_
    exact kret (nI 0) [(y0, .inr (7, [.ref ya, .int (nI nt), .ref yo, .int (nI no), .ref ym, .ref yl, .ref yg, .ref yw, .ref yh, .ref yc, .ref yd, .ref yb, .ref yk, .ref yz, .int (nI S.length), .int (b2 fl), .ref yr])), (yg, .inl (E.2.1, 32, .inl k5)), (yw, .inl (E.2.2.1, 64, .inl k6)), (yh, .inl (E.2.2.1, 8, .inl k7)), (yc, .inl (E.2.1, 32, .inl k8)), (yd, .inl (E.2.1, 32, .inl k9)), (yb, .inl (E.2.1, 512, .inl kb)), (yk, .inl (E.2.1, 1920, .inl f)), (yz, .inl (E.2.2.1, 24, .inl sz))] _ _ _ _ d_Mod_act_826 (⟨_, _, _, _, _, _, _, _, rfl, hB, Or.inr ⟨rfl, rfl⟩⟩) rfl hP hS
  · refine lv_iconst (v := nI 0) hx hb d_Mod_act_85 (by decide) ?_
    exact kret (nI 0) [(y0, .inr (7, [.ref ya, .int (nI nt), .ref yo, .int (nI no), .ref ym, .ref yl, .ref yg, .ref yw, .ref yh, .ref yc, .ref yd, .ref yb, .ref yk, .ref yz, .int (nI S.length), .int (b2 fl), .ref yr])), (yg, .inl (E.2.1, 32, .inl k5)), (yw, .inl (E.2.2.1, 64, .inl k6)), (yh, .inl (E.2.2.1, 8, .inl k7)), (yc, .inl (E.2.1, 32, .inl k8)), (yd, .inl (E.2.1, 32, .inl k9)), (yb, .inl (E.2.1, 512, .inl kb)), (yk, .inl (E.2.1, 1920, .inl f)), (yz, .inl (E.2.2.1, 24, .inl sz))] _ _ _ _ d_Mod_act_86 (⟨_, _, _, _, _, _, _, _, rfl, hB, Or.inr ⟨rfl, rfl⟩⟩) rfl hP hS

set_option maxHeartbeats 4000000 in
set_option maxRecDepth 100000 in
theorem c_act_100 (l : Launch) (E : En) (y0 ya yo ym yl yg yw yh yc yd yb yk yz yr nt no : Nat) (fl : Bool) (k5 k6 k7 k8 k9 kb f sz : Nat → Int32) (S : Stk) (msg : Byl) (hrep : rep f sz S) (hB : fB f) (hB5 : fB k5) (hlen : S.length ≤ 24) (hm : lay k5 0 msg) (hm32 : msg.length = 32) (ht : Int32) : CtI l y_Mod_act b_Mod_act 11 .boolean (rmd 4) E [.ref y0, .int (nI 100), .int ht] [(y0, .inr (7, [.ref ya, .int (nI nt), .ref yo, .int (nI no), .ref ym, .ref yl, .ref yg, .ref yw, .ref yh, .ref yc, .ref yd, .ref yb, .ref yk, .ref yz, .int (nI S.length), .int (b2 fl), .ref yr])), (yg, .inl (E.2.1, 32, .inl k5)), (yw, .inl (E.2.2.1, 64, .inl k6)), (yh, .inl (E.2.2.1, 8, .inl k7)), (yc, .inl (E.2.1, 32, .inl k8)), (yd, .inl (E.2.1, 32, .inl k9)), (yb, .inl (E.2.1, 512, .inl kb)), (yk, .inl (E.2.1, 1920, .inl f)), (yz, .inl (E.2.2.1, 24, .inl sz))] (stepM E y0 ya yo ym yl yg yw yh yc yd yb yk yz yr nt no fl k5 (actS 100 ht msg S)) := by
  refine CtI.of (by decide) (Nat.le_of_ble_eq_true rfl) (stepM_nar) ?_
  intro p e s m args below meth c A Q H locs ls C hP hD hS hl kret
  have hx := C.1
  have hb := C.2.1
  have hl : lv_has ls 11 [(0, .ref y0), (1, .int (nI 100)), (2, .int ht)] := hl
  refine lv_aload_n hx hb d_Mod_act_0 rfl (lv_at hl 0 rfl) ?_
  refine n_get C fg_Mod_66 hP 0 rfl rfl d_Mod_act_1 ?_
  refine lv_iconst (v := nI 2) hx hb d_Mod_act_4 (by decide) ?_
  refine lv_isub hx hb d_Mod_act_5 ?_
  refine lv_istore_n (lv' := [(3, .int ((nI S.length) - (nI 2))), (0, .ref y0), (1, .int (nI 100)), (2, .int ht)]) hx hb d_Mod_act_6 rfl hl (by decide) rfl (fun ls hl => ?_)
  refine lv_aload_n hx hb d_Mod_act_7 rfl (lv_at hl 1 rfl) ?_
  refine n_get C fg_Mod_66 hP 0 rfl rfl d_Mod_act_8 ?_
  refine lv_iconst (v := nI 1) hx hb d_Mod_act_11 (by decide) ?_
  refine lv_isub hx hb d_Mod_act_12 ?_
  refine lv_istore (lv' := [(4, .int ((nI S.length) - (nI 1))), (3, .int ((nI S.length) - (nI 2))), (0, .ref y0), (1, .int (nI 100)), (2, .int ht)]) hx hb d_Mod_act_13 hl (by decide) rfl (fun ls hl => ?_)
  refine lv_iload_n hx hb d_Mod_act_15 rfl (lv_at hl 3 rfl) ?_
  refine lv_bipush (v := nI 82) hx hb d_Mod_act_16 (by decide) ?_
  refine j_eq C 100 82 rfl rfl (by decide) (by decide) d_Mod_act_18 rfl (fun hc1 => absurd hc1 (by decide)) (fun hc1 => ?_)
  refine lv_iload_n hx hb d_Mod_act_21 rfl (lv_at hl 3 rfl) ?_
  refine lv_bipush (v := nI 83) hx hb d_Mod_act_22 (by decide) ?_
  refine j_eq C 100 83 rfl rfl (by decide) (by decide) d_Mod_act_24 rfl (fun hc2 => absurd hc2 (by decide)) (fun hc2 => ?_)
  refine lv_iload_n hx hb d_Mod_act_27 rfl (lv_at hl 3 rfl) ?_
  refine lv_bipush (v := nI 86) hx hb d_Mod_act_28 (by decide) ?_
  refine j_eq C 100 86 rfl rfl (by decide) (by decide) d_Mod_act_30 rfl (fun hc3 => absurd hc3 (by decide)) (fun hc3 => ?_)
  refine lv_iload_n hx hb d_Mod_act_33 rfl (lv_at hl 3 rfl) ?_
  refine lv_bipush (v := nI 89) hx hb d_Mod_act_34 (by decide) ?_
  refine j_lt C 100 89 rfl rfl (by decide) (by decide) d_Mod_act_36 rfl (fun hc4 => absurd hc4 (by decide)) (fun hc4 => ?_)
  refine lv_iload_n hx hb d_Mod_act_39 rfl (lv_at hl 3 rfl) ?_
  refine lv_bipush (v := nI 92) hx hb d_Mod_act_40 (by decide) ?_
  refine j_le C 100 92 rfl rfl (by decide) (by decide) d_Mod_act_42 rfl (fun hc5 => absurd hc5 (by decide)) (fun hc5 => ?_)
  refine lv_iload_n hx hb d_Mod_act_45 rfl (lv_at hl 3 rfl) ?_
  refine lv_bipush (v := nI 95) hx hb d_Mod_act_46 (by decide) ?_
  refine j_ne C 100 95 rfl rfl (by decide) (by decide) d_Mod_act_48 rfl (fun hc6 => ?_) (fun hc6 => absurd hc6 (by decide))
  refine lv_iconst (v := nI 0) hx hb d_Mod_act_55 (by decide) ?_
  refine lv_istore (lv' := [(5, .int (nI 0)), (4, .int ((nI S.length) - (nI 1))), (3, .int ((nI S.length) - (nI 2))), (0, .ref y0), (1, .int (nI 100)), (2, .int ht)]) hx hb d_Mod_act_56 hl (by decide) rfl (fun ls hl => ?_)
  refine lv_aload_n hx hb d_Mod_act_58 rfl (lv_at hl 3 rfl) ?_
  refine n_get C fg_Mod_66 hP 0 rfl rfl d_Mod_act_59 ?_
  refine lv_iload hx hb d_Mod_act_62 (lv_at hl 0 rfl) ?_
  refine z_eq C 0 rfl (by omega) d_Mod_act_64 rfl (fun hc7 => ?_) (fun hc7 => absurd hc7 (by omega))
  refine lv_iload_n hx hb d_Mod_act_71 rfl (lv_at hl 4 rfl) ?_
  refine lv_bipush (v := nI 102) hx hb d_Mod_act_72 (by decide) ?_
  refine j_ne C 100 102 rfl rfl (by decide) (by decide) d_Mod_act_74 rfl (fun hc8 => ?_) (fun hc8 => absurd hc8 (by decide))
  refine lv_iconst (v := nI 1) hx hb d_Mod_act_81 (by decide) ?_
  refine j_ge C S.length 1 rfl rfl (by omega) (by omega) d_Mod_act_82 rfl (fun hc9 => ?_) (fun hc9 => ?_)
  · refine lv_iload_n hx hb d_Mod_act_87 rfl (lv_at hl 4 rfl) ?_
    refine lv_bipush (v := nI 88) hx hb d_Mod_act_88 (by decide) ?_
    refine j_lt C 100 88 rfl rfl (by decide) (by decide) d_Mod_act_90 rfl (fun hc10 => absurd hc10 (by decide)) (fun hc10 => ?_)
    refine lv_iload_n hx hb d_Mod_act_93 rfl (lv_at hl 4 rfl) ?_
    refine lv_bipush (v := nI 91) hx hb d_Mod_act_94 (by decide) ?_
    refine j_le C 100 91 rfl rfl (by decide) (by decide) d_Mod_act_96 rfl (fun hc11 => absurd hc11 (by decide)) (fun hc11 => ?_)
    refine lv_iload_n hx hb d_Mod_act_99 rfl (lv_at hl 4 rfl) ?_
    refine lv_bipush (v := nI 96) hx hb d_Mod_act_100 (by decide) ?_
    refine j_ne C 100 96 rfl rfl (by decide) (by decide) d_Mod_act_102 rfl (fun hc12 => ?_) (fun hc12 => absurd hc12 (by decide))
    refine lv_iconst (v := nI 0) hx hb d_Mod_act_109 (by decide) ?_
    refine lv_istore (lv' := [(6, .int (nI 0)), (5, .int (nI 0)), (4, .int ((nI S.length) - (nI 1))), (3, .int ((nI S.length) - (nI 2))), (0, .ref y0), (1, .int (nI 100)), (2, .int ht)]) hx hb d_Mod_act_110 hl (by decide) rfl (fun ls hl => ?_)
    refine lv_iload hx hb d_Mod_act_112 (lv_at hl 0 rfl) ?_
    refine z_eq C 0 rfl (by omega) d_Mod_act_114 rfl (fun hc13 => ?_) (fun hc13 => absurd hc13 (by omega))
    refine lv_iload hx hb d_Mod_act_145 (lv_at hl 1 rfl) ?_
    refine z_eq C 0 rfl (by omega) d_Mod_act_147 rfl (fun hc14 => ?_) (fun hc14 => absurd hc14 (by omega))
    refine lv_iconst (v := nI 0) hx hb d_Mod_act_163 (by decide) ?_
    refine lv_istore (lv' := [(7, .int (nI 0)), (6, .int (nI 0)), (5, .int (nI 0)), (4, .int ((nI S.length) - (nI 1))), (3, .int ((nI S.length) - (nI 2))), (0, .ref y0), (1, .int (nI 100)), (2, .int ht)]) hx hb d_Mod_act_164 hl (by decide) rfl (fun ls hl => ?_)
    refine lv_iload hx hb d_Mod_act_166 (lv_at hl 1 rfl) ?_
    refine z_eq C 0 rfl (by omega) d_Mod_act_168 rfl (fun hc15 => ?_) (fun hc15 => absurd hc15 (by omega))
    refine lv_iconst (v := nI 0) hx hb d_Mod_act_180 (by decide) ?_
    refine lv_istore (lv' := [(8, .int (nI 0)), (7, .int (nI 0)), (6, .int (nI 0)), (5, .int (nI 0)), (4, .int ((nI S.length) - (nI 1))), (3, .int ((nI S.length) - (nI 2))), (0, .ref y0), (1, .int (nI 100)), (2, .int ht)]) hx hb d_Mod_act_181 hl (by decide) rfl (fun ls hl => ?_)
    refine lv_iload_n hx hb d_Mod_act_183 rfl (lv_at hl 7 rfl) ?_
    refine lv_tableIn hx hb d_Mod_act_184 (by decide) (by decide) rfl rfl ?_
    refine lv_iconst (v := nI 0) hx hb d_Mod_act_825 (by decide) ?_
    exact kret (nI 0) [(y0, .inr (7, [.ref ya, .int (nI nt), .ref yo, .int (nI no), .ref ym, .ref yl, .ref yg, .ref yw, .ref yh, .ref yc, .ref yd, .ref yb, .ref yk, .ref yz, .int (nI S.length), .int (b2 fl), .ref yr])), (yg, .inl (E.2.1, 32, .inl k5)), (yw, .inl (E.2.2.1, 64, .inl k6)), (yh, .inl (E.2.2.1, 8, .inl k7)), (yc, .inl (E.2.1, 32, .inl k8)), (yd, .inl (E.2.1, 32, .inl k9)), (yb, .inl (E.2.1, 512, .inl kb)), (yk, .inl (E.2.1, 1920, .inl f)), (yz, .inl (E.2.2.1, 24, .inl sz))] _ _ _ _ d_Mod_act_826 (⟨_, _, _, _, _, _, _, _, rfl, hB, Or.inr ⟨rfl, rfl⟩⟩) rfl hP hS
  · refine lv_iconst (v := nI 0) hx hb d_Mod_act_85 (by decide) ?_
    exact kret (nI 0) [(y0, .inr (7, [.ref ya, .int (nI nt), .ref yo, .int (nI no), .ref ym, .ref yl, .ref yg, .ref yw, .ref yh, .ref yc, .ref yd, .ref yb, .ref yk, .ref yz, .int (nI S.length), .int (b2 fl), .ref yr])), (yg, .inl (E.2.1, 32, .inl k5)), (yw, .inl (E.2.2.1, 64, .inl k6)), (yh, .inl (E.2.2.1, 8, .inl k7)), (yc, .inl (E.2.1, 32, .inl k8)), (yd, .inl (E.2.1, 32, .inl k9)), (yb, .inl (E.2.1, 512, .inl kb)), (yk, .inl (E.2.1, 1920, .inl f)), (yz, .inl (E.2.2.1, 24, .inl sz))] _ _ _ _ d_Mod_act_86 (⟨_, _, _, _, _, _, _, _, rfl, hB, Or.inr ⟨rfl, rfl⟩⟩) rfl hP hS

set_option maxHeartbeats 4000000 in
set_option maxRecDepth 100000 in
theorem c_act_101 (l : Launch) (E : En) (y0 ya yo ym yl yg yw yh yc yd yb yk yz yr nt no : Nat) (fl : Bool) (k5 k6 k7 k8 k9 kb f sz : Nat → Int32) (S : Stk) (msg : Byl) (hrep : rep f sz S) (hB : fB f) (hB5 : fB k5) (hlen : S.length ≤ 24) (hm : lay k5 0 msg) (hm32 : msg.length = 32) (ht : Int32) : CtI l y_Mod_act b_Mod_act 11 .boolean (rmd 4) E [.ref y0, .int (nI 101), .int ht] [(y0, .inr (7, [.ref ya, .int (nI nt), .ref yo, .int (nI no), .ref ym, .ref yl, .ref yg, .ref yw, .ref yh, .ref yc, .ref yd, .ref yb, .ref yk, .ref yz, .int (nI S.length), .int (b2 fl), .ref yr])), (yg, .inl (E.2.1, 32, .inl k5)), (yw, .inl (E.2.2.1, 64, .inl k6)), (yh, .inl (E.2.2.1, 8, .inl k7)), (yc, .inl (E.2.1, 32, .inl k8)), (yd, .inl (E.2.1, 32, .inl k9)), (yb, .inl (E.2.1, 512, .inl kb)), (yk, .inl (E.2.1, 1920, .inl f)), (yz, .inl (E.2.2.1, 24, .inl sz))] (stepM E y0 ya yo ym yl yg yw yh yc yd yb yk yz yr nt no fl k5 (actS 101 ht msg S)) := by
  refine CtI.of (by decide) (Nat.le_of_ble_eq_true rfl) (stepM_nar) ?_
  intro p e s m args below meth c A Q H locs ls C hP hD hS hl kret
  have hx := C.1
  have hb := C.2.1
  have hl : lv_has ls 11 [(0, .ref y0), (1, .int (nI 101)), (2, .int ht)] := hl
  refine lv_aload_n hx hb d_Mod_act_0 rfl (lv_at hl 0 rfl) ?_
  refine n_get C fg_Mod_66 hP 0 rfl rfl d_Mod_act_1 ?_
  refine lv_iconst (v := nI 2) hx hb d_Mod_act_4 (by decide) ?_
  refine lv_isub hx hb d_Mod_act_5 ?_
  refine lv_istore_n (lv' := [(3, .int ((nI S.length) - (nI 2))), (0, .ref y0), (1, .int (nI 101)), (2, .int ht)]) hx hb d_Mod_act_6 rfl hl (by decide) rfl (fun ls hl => ?_)
  refine lv_aload_n hx hb d_Mod_act_7 rfl (lv_at hl 1 rfl) ?_
  refine n_get C fg_Mod_66 hP 0 rfl rfl d_Mod_act_8 ?_
  refine lv_iconst (v := nI 1) hx hb d_Mod_act_11 (by decide) ?_
  refine lv_isub hx hb d_Mod_act_12 ?_
  refine lv_istore (lv' := [(4, .int ((nI S.length) - (nI 1))), (3, .int ((nI S.length) - (nI 2))), (0, .ref y0), (1, .int (nI 101)), (2, .int ht)]) hx hb d_Mod_act_13 hl (by decide) rfl (fun ls hl => ?_)
  refine lv_iload_n hx hb d_Mod_act_15 rfl (lv_at hl 3 rfl) ?_
  refine lv_bipush (v := nI 82) hx hb d_Mod_act_16 (by decide) ?_
  refine j_eq C 101 82 rfl rfl (by decide) (by decide) d_Mod_act_18 rfl (fun hc1 => absurd hc1 (by decide)) (fun hc1 => ?_)
  refine lv_iload_n hx hb d_Mod_act_21 rfl (lv_at hl 3 rfl) ?_
  refine lv_bipush (v := nI 83) hx hb d_Mod_act_22 (by decide) ?_
  refine j_eq C 101 83 rfl rfl (by decide) (by decide) d_Mod_act_24 rfl (fun hc2 => absurd hc2 (by decide)) (fun hc2 => ?_)
  refine lv_iload_n hx hb d_Mod_act_27 rfl (lv_at hl 3 rfl) ?_
  refine lv_bipush (v := nI 86) hx hb d_Mod_act_28 (by decide) ?_
  refine j_eq C 101 86 rfl rfl (by decide) (by decide) d_Mod_act_30 rfl (fun hc3 => absurd hc3 (by decide)) (fun hc3 => ?_)
  refine lv_iload_n hx hb d_Mod_act_33 rfl (lv_at hl 3 rfl) ?_
  refine lv_bipush (v := nI 89) hx hb d_Mod_act_34 (by decide) ?_
  refine j_lt C 101 89 rfl rfl (by decide) (by decide) d_Mod_act_36 rfl (fun hc4 => absurd hc4 (by decide)) (fun hc4 => ?_)
  refine lv_iload_n hx hb d_Mod_act_39 rfl (lv_at hl 3 rfl) ?_
  refine lv_bipush (v := nI 92) hx hb d_Mod_act_40 (by decide) ?_
  refine j_le C 101 92 rfl rfl (by decide) (by decide) d_Mod_act_42 rfl (fun hc5 => absurd hc5 (by decide)) (fun hc5 => ?_)
  refine lv_iload_n hx hb d_Mod_act_45 rfl (lv_at hl 3 rfl) ?_
  refine lv_bipush (v := nI 95) hx hb d_Mod_act_46 (by decide) ?_
  refine j_ne C 101 95 rfl rfl (by decide) (by decide) d_Mod_act_48 rfl (fun hc6 => ?_) (fun hc6 => absurd hc6 (by decide))
  refine lv_iconst (v := nI 0) hx hb d_Mod_act_55 (by decide) ?_
  refine lv_istore (lv' := [(5, .int (nI 0)), (4, .int ((nI S.length) - (nI 1))), (3, .int ((nI S.length) - (nI 2))), (0, .ref y0), (1, .int (nI 101)), (2, .int ht)]) hx hb d_Mod_act_56 hl (by decide) rfl (fun ls hl => ?_)
  refine lv_aload_n hx hb d_Mod_act_58 rfl (lv_at hl 3 rfl) ?_
  refine n_get C fg_Mod_66 hP 0 rfl rfl d_Mod_act_59 ?_
  refine lv_iload hx hb d_Mod_act_62 (lv_at hl 0 rfl) ?_
  refine z_eq C 0 rfl (by omega) d_Mod_act_64 rfl (fun hc7 => ?_) (fun hc7 => absurd hc7 (by omega))
  refine lv_iload_n hx hb d_Mod_act_71 rfl (lv_at hl 4 rfl) ?_
  refine lv_bipush (v := nI 102) hx hb d_Mod_act_72 (by decide) ?_
  refine j_ne C 101 102 rfl rfl (by decide) (by decide) d_Mod_act_74 rfl (fun hc8 => ?_) (fun hc8 => absurd hc8 (by decide))
  refine lv_iconst (v := nI 1) hx hb d_Mod_act_81 (by decide) ?_
  refine j_ge C S.length 1 rfl rfl (by omega) (by omega) d_Mod_act_82 rfl (fun hc9 => ?_) (fun hc9 => ?_)
  · refine lv_iload_n hx hb d_Mod_act_87 rfl (lv_at hl 4 rfl) ?_
    refine lv_bipush (v := nI 88) hx hb d_Mod_act_88 (by decide) ?_
    refine j_lt C 101 88 rfl rfl (by decide) (by decide) d_Mod_act_90 rfl (fun hc10 => absurd hc10 (by decide)) (fun hc10 => ?_)
    refine lv_iload_n hx hb d_Mod_act_93 rfl (lv_at hl 4 rfl) ?_
    refine lv_bipush (v := nI 91) hx hb d_Mod_act_94 (by decide) ?_
    refine j_le C 101 91 rfl rfl (by decide) (by decide) d_Mod_act_96 rfl (fun hc11 => absurd hc11 (by decide)) (fun hc11 => ?_)
    refine lv_iload_n hx hb d_Mod_act_99 rfl (lv_at hl 4 rfl) ?_
    refine lv_bipush (v := nI 96) hx hb d_Mod_act_100 (by decide) ?_
    refine j_ne C 101 96 rfl rfl (by decide) (by decide) d_Mod_act_102 rfl (fun hc12 => ?_) (fun hc12 => absurd hc12 (by decide))
    refine lv_iconst (v := nI 0) hx hb d_Mod_act_109 (by decide) ?_
    refine lv_istore (lv' := [(6, .int (nI 0)), (5, .int (nI 0)), (4, .int ((nI S.length) - (nI 1))), (3, .int ((nI S.length) - (nI 2))), (0, .ref y0), (1, .int (nI 101)), (2, .int ht)]) hx hb d_Mod_act_110 hl (by decide) rfl (fun ls hl => ?_)
    refine lv_iload hx hb d_Mod_act_112 (lv_at hl 0 rfl) ?_
    refine z_eq C 0 rfl (by omega) d_Mod_act_114 rfl (fun hc13 => ?_) (fun hc13 => absurd hc13 (by omega))
    refine lv_iload hx hb d_Mod_act_145 (lv_at hl 1 rfl) ?_
    refine z_eq C 0 rfl (by omega) d_Mod_act_147 rfl (fun hc14 => ?_) (fun hc14 => absurd hc14 (by omega))
    refine lv_iconst (v := nI 0) hx hb d_Mod_act_163 (by decide) ?_
    refine lv_istore (lv' := [(7, .int (nI 0)), (6, .int (nI 0)), (5, .int (nI 0)), (4, .int ((nI S.length) - (nI 1))), (3, .int ((nI S.length) - (nI 2))), (0, .ref y0), (1, .int (nI 101)), (2, .int ht)]) hx hb d_Mod_act_164 hl (by decide) rfl (fun ls hl => ?_)
    refine lv_iload hx hb d_Mod_act_166 (lv_at hl 1 rfl) ?_
    refine z_eq C 0 rfl (by omega) d_Mod_act_168 rfl (fun hc15 => ?_) (fun hc15 => absurd hc15 (by omega))
    refine lv_iconst (v := nI 0) hx hb d_Mod_act_180 (by decide) ?_
    refine lv_istore (lv' := [(8, .int (nI 0)), (7, .int (nI 0)), (6, .int (nI 0)), (5, .int (nI 0)), (4, .int ((nI S.length) - (nI 1))), (3, .int ((nI S.length) - (nI 2))), (0, .ref y0), (1, .int (nI 101)), (2, .int ht)]) hx hb d_Mod_act_181 hl (by decide) rfl (fun ls hl => ?_)
    refine lv_iload_n hx hb d_Mod_act_183 rfl (lv_at hl 7 rfl) ?_
    refine lv_tableIn hx hb d_Mod_act_184 (by decide) (by decide) rfl rfl ?_
    refine lv_iconst (v := nI 0) hx hb d_Mod_act_825 (by decide) ?_
    exact kret (nI 0) [(y0, .inr (7, [.ref ya, .int (nI nt), .ref yo, .int (nI no), .ref ym, .ref yl, .ref yg, .ref yw, .ref yh, .ref yc, .ref yd, .ref yb, .ref yk, .ref yz, .int (nI S.length), .int (b2 fl), .ref yr])), (yg, .inl (E.2.1, 32, .inl k5)), (yw, .inl (E.2.2.1, 64, .inl k6)), (yh, .inl (E.2.2.1, 8, .inl k7)), (yc, .inl (E.2.1, 32, .inl k8)), (yd, .inl (E.2.1, 32, .inl k9)), (yb, .inl (E.2.1, 512, .inl kb)), (yk, .inl (E.2.1, 1920, .inl f)), (yz, .inl (E.2.2.1, 24, .inl sz))] _ _ _ _ d_Mod_act_826 (⟨_, _, _, _, _, _, _, _, rfl, hB, Or.inr ⟨rfl, rfl⟩⟩) rfl hP hS
  · refine lv_iconst (v := nI 0) hx hb d_Mod_act_85 (by decide) ?_
    exact kret (nI 0) [(y0, .inr (7, [.ref ya, .int (nI nt), .ref yo, .int (nI no), .ref ym, .ref yl, .ref yg, .ref yw, .ref yh, .ref yc, .ref yd, .ref yb, .ref yk, .ref yz, .int (nI S.length), .int (b2 fl), .ref yr])), (yg, .inl (E.2.1, 32, .inl k5)), (yw, .inl (E.2.2.1, 64, .inl k6)), (yh, .inl (E.2.2.1, 8, .inl k7)), (yc, .inl (E.2.1, 32, .inl k8)), (yd, .inl (E.2.1, 32, .inl k9)), (yb, .inl (E.2.1, 512, .inl kb)), (yk, .inl (E.2.1, 1920, .inl f)), (yz, .inl (E.2.2.1, 24, .inl sz))] _ _ _ _ d_Mod_act_86 (⟨_, _, _, _, _, _, _, _, rfl, hB, Or.inr ⟨rfl, rfl⟩⟩) rfl hP hS

set_option maxHeartbeats 4000000 in
set_option maxRecDepth 100000 in
theorem c_act_lo (l : Launch) (E : En) (y0 ya yo ym yl yg yw yh yc yd yb yk yz yr nt no : Nat) (fl : Bool) (k5 k6 k7 k8 k9 kb f sz : Nat → Int32) (S : Stk) (msg : Byl) (hrep : rep f sz S) (hB : fB f) (hB5 : fB k5) (hlen : S.length ≤ 24) (hm : lay k5 0 msg) (hm32 : msg.length = 32) (ht : Int32) (op : Nat) (ho : op < 80) (ho2 : op < 256) : CtI l y_Mod_act b_Mod_act 11 .boolean (rmd 4) E [.ref y0, .int (nI op), .int ht] [(y0, .inr (7, [.ref ya, .int (nI nt), .ref yo, .int (nI no), .ref ym, .ref yl, .ref yg, .ref yw, .ref yh, .ref yc, .ref yd, .ref yb, .ref yk, .ref yz, .int (nI S.length), .int (b2 fl), .ref yr])), (yg, .inl (E.2.1, 32, .inl k5)), (yw, .inl (E.2.2.1, 64, .inl k6)), (yh, .inl (E.2.2.1, 8, .inl k7)), (yc, .inl (E.2.1, 32, .inl k8)), (yd, .inl (E.2.1, 32, .inl k9)), (yb, .inl (E.2.1, 512, .inl kb)), (yk, .inl (E.2.1, 1920, .inl f)), (yz, .inl (E.2.2.1, 24, .inl sz))] (stepM E y0 ya yo ym yl yg yw yh yc yd yb yk yz yr nt no fl k5 (actS op ht msg S)) := by
  refine CtI.of (by decide) (Nat.le_of_ble_eq_true rfl) (stepM_nar) ?_
  intro p e s m args below meth c A Q H locs ls C hP hD hS hl kret
  have hx := C.1
  have hb := C.2.1
  have hl : lv_has ls 11 [(0, .ref y0), (1, .int (nI op)), (2, .int ht)] := hl
  refine lv_aload_n hx hb d_Mod_act_0 rfl (lv_at hl 0 rfl) ?_
  refine n_get C fg_Mod_66 hP 0 rfl rfl d_Mod_act_1 ?_
  refine lv_iconst (v := nI 2) hx hb d_Mod_act_4 (by decide) ?_
  refine lv_isub hx hb d_Mod_act_5 ?_
  refine lv_istore_n (lv' := [(3, .int ((nI S.length) - (nI 2))), (0, .ref y0), (1, .int (nI op)), (2, .int ht)]) hx hb d_Mod_act_6 rfl hl (by decide) rfl (fun ls hl => ?_)
  refine lv_aload_n hx hb d_Mod_act_7 rfl (lv_at hl 1 rfl) ?_
  refine n_get C fg_Mod_66 hP 0 rfl rfl d_Mod_act_8 ?_
  refine lv_iconst (v := nI 1) hx hb d_Mod_act_11 (by decide) ?_
  refine lv_isub hx hb d_Mod_act_12 ?_
  refine lv_istore (lv' := [(4, .int ((nI S.length) - (nI 1))), (3, .int ((nI S.length) - (nI 2))), (0, .ref y0), (1, .int (nI op)), (2, .int ht)]) hx hb d_Mod_act_13 hl (by decide) rfl (fun ls hl => ?_)
  refine lv_iload_n hx hb d_Mod_act_15 rfl (lv_at hl 3 rfl) ?_
  refine lv_bipush (v := nI 82) hx hb d_Mod_act_16 (by decide) ?_
  refine j_eq C op 82 rfl rfl (by omega) (by omega) d_Mod_act_18 rfl (fun hc1 => absurd hc1 (by omega)) (fun hc1 => ?_)
  refine lv_iload_n hx hb d_Mod_act_21 rfl (lv_at hl 3 rfl) ?_
  refine lv_bipush (v := nI 83) hx hb d_Mod_act_22 (by decide) ?_
  refine j_eq C op 83 rfl rfl (by omega) (by omega) d_Mod_act_24 rfl (fun hc2 => absurd hc2 (by omega)) (fun hc2 => ?_)
  refine lv_iload_n hx hb d_Mod_act_27 rfl (lv_at hl 3 rfl) ?_
  refine lv_bipush (v := nI 86) hx hb d_Mod_act_28 (by decide) ?_
  refine j_eq C op 86 rfl rfl (by omega) (by omega) d_Mod_act_30 rfl (fun hc3 => absurd hc3 (by omega)) (fun hc3 => ?_)
  refine lv_iload_n hx hb d_Mod_act_33 rfl (lv_at hl 3 rfl) ?_
  refine lv_bipush (v := nI 89) hx hb d_Mod_act_34 (by decide) ?_
  refine j_lt C op 89 rfl rfl (by omega) (by omega) d_Mod_act_36 rfl (fun hc4 => ?_) (fun hc4 => absurd hc4 (by omega))
  refine lv_iload_n hx hb d_Mod_act_45 rfl (lv_at hl 3 rfl) ?_
  refine lv_bipush (v := nI 95) hx hb d_Mod_act_46 (by decide) ?_
  refine j_ne C op 95 rfl rfl (by omega) (by omega) d_Mod_act_48 rfl (fun hc5 => ?_) (fun hc5 => absurd hc5 (by omega))
  refine lv_iconst (v := nI 0) hx hb d_Mod_act_55 (by decide) ?_
  refine lv_istore (lv' := [(5, .int (nI 0)), (4, .int ((nI S.length) - (nI 1))), (3, .int ((nI S.length) - (nI 2))), (0, .ref y0), (1, .int (nI op)), (2, .int ht)]) hx hb d_Mod_act_56 hl (by decide) rfl (fun ls hl => ?_)
  refine lv_aload_n hx hb d_Mod_act_58 rfl (lv_at hl 3 rfl) ?_
  refine n_get C fg_Mod_66 hP 0 rfl rfl d_Mod_act_59 ?_
  refine lv_iload hx hb d_Mod_act_62 (lv_at hl 0 rfl) ?_
  refine z_eq C 0 rfl (by omega) d_Mod_act_64 rfl (fun hc6 => ?_) (fun hc6 => absurd hc6 (by omega))
  refine lv_iload_n hx hb d_Mod_act_71 rfl (lv_at hl 4 rfl) ?_
  refine lv_bipush (v := nI 102) hx hb d_Mod_act_72 (by decide) ?_
  refine j_ne C op 102 rfl rfl (by omega) (by omega) d_Mod_act_74 rfl (fun hc7 => ?_) (fun hc7 => absurd hc7 (by omega))
  refine lv_iconst (v := nI 1) hx hb d_Mod_act_81 (by decide) ?_
  refine j_ge C S.length 1 rfl rfl (by omega) (by omega) d_Mod_act_82 rfl (fun hc8 => ?_) (fun hc8 => ?_)
  · refine lv_iload_n hx hb d_Mod_act_87 rfl (lv_at hl 4 rfl) ?_
    refine lv_bipush (v := nI 88) hx hb d_Mod_act_88 (by decide) ?_
    refine j_lt C op 88 rfl rfl (by omega) (by omega) d_Mod_act_90 rfl (fun hc9 => ?_) (fun hc9 => absurd hc9 (by omega))
    refine lv_iload_n hx hb d_Mod_act_99 rfl (lv_at hl 4 rfl) ?_
    refine lv_bipush (v := nI 96) hx hb d_Mod_act_100 (by decide) ?_
    refine j_ne C op 96 rfl rfl (by omega) (by omega) d_Mod_act_102 rfl (fun hc10 => ?_) (fun hc10 => absurd hc10 (by omega))
    refine lv_iconst (v := nI 0) hx hb d_Mod_act_109 (by decide) ?_
    refine lv_istore (lv' := [(6, .int (nI 0)), (5, .int (nI 0)), (4, .int ((nI S.length) - (nI 1))), (3, .int ((nI S.length) - (nI 2))), (0, .ref y0), (1, .int (nI op)), (2, .int ht)]) hx hb d_Mod_act_110 hl (by decide) rfl (fun ls hl => ?_)
    refine lv_iload hx hb d_Mod_act_112 (lv_at hl 0 rfl) ?_
    refine z_eq C 0 rfl (by omega) d_Mod_act_114 rfl (fun hc11 => ?_) (fun hc11 => absurd hc11 (by omega))
    refine lv_iload hx hb d_Mod_act_145 (lv_at hl 1 rfl) ?_
    refine z_eq C 0 rfl (by omega) d_Mod_act_147 rfl (fun hc12 => ?_) (fun hc12 => absurd hc12 (by omega))
    refine lv_iconst (v := nI 0) hx hb d_Mod_act_163 (by decide) ?_
    refine lv_istore (lv' := [(7, .int (nI 0)), (6, .int (nI 0)), (5, .int (nI 0)), (4, .int ((nI S.length) - (nI 1))), (3, .int ((nI S.length) - (nI 2))), (0, .ref y0), (1, .int (nI op)), (2, .int ht)]) hx hb d_Mod_act_164 hl (by decide) rfl (fun ls hl => ?_)
    refine lv_iload hx hb d_Mod_act_166 (lv_at hl 1 rfl) ?_
    refine z_eq C 0 rfl (by omega) d_Mod_act_168 rfl (fun hc13 => ?_) (fun hc13 => absurd hc13 (by omega))
    refine lv_iconst (v := nI 0) hx hb d_Mod_act_180 (by decide) ?_
    refine lv_istore (lv' := [(8, .int (nI 0)), (7, .int (nI 0)), (6, .int (nI 0)), (5, .int (nI 0)), (4, .int ((nI S.length) - (nI 1))), (3, .int ((nI S.length) - (nI 2))), (0, .ref y0), (1, .int (nI op)), (2, .int ht)]) hx hb d_Mod_act_181 hl (by decide) rfl (fun ls hl => ?_)
    refine lv_iload_n hx hb d_Mod_act_183 rfl (lv_at hl 7 rfl) ?_
    refine lv_tableOut hx hb d_Mod_act_184 (by rw [nI_toInt (by omega)]; omega) rfl ?_
    refine lv_iconst (v := nI 0) hx hb d_Mod_act_825 (by decide) ?_
    exact kret (nI 0) [(y0, .inr (7, [.ref ya, .int (nI nt), .ref yo, .int (nI no), .ref ym, .ref yl, .ref yg, .ref yw, .ref yh, .ref yc, .ref yd, .ref yb, .ref yk, .ref yz, .int (nI S.length), .int (b2 fl), .ref yr])), (yg, .inl (E.2.1, 32, .inl k5)), (yw, .inl (E.2.2.1, 64, .inl k6)), (yh, .inl (E.2.2.1, 8, .inl k7)), (yc, .inl (E.2.1, 32, .inl k8)), (yd, .inl (E.2.1, 32, .inl k9)), (yb, .inl (E.2.1, 512, .inl kb)), (yk, .inl (E.2.1, 1920, .inl f)), (yz, .inl (E.2.2.1, 24, .inl sz))] _ _ _ _ d_Mod_act_826 (⟨_, _, _, _, _, _, _, _, rfl, hB, Or.inr ⟨by unfold actS; rw [if_neg (by omega), if_neg (by omega), if_neg (by omega), if_neg (by omega), if_neg (by omega), if_neg (by omega), if_neg (by omega), if_neg (by omega), if_neg (by omega), if_neg (by omega), if_neg (by omega), if_neg (by omega), if_neg (by omega), if_neg (by omega), if_neg (by omega), if_neg (by omega), if_neg (by omega), if_neg (by omega)], rfl⟩⟩) rfl hP hS
  · refine lv_iconst (v := nI 0) hx hb d_Mod_act_85 (by decide) ?_
    exact kret (nI 0) [(y0, .inr (7, [.ref ya, .int (nI nt), .ref yo, .int (nI no), .ref ym, .ref yl, .ref yg, .ref yw, .ref yh, .ref yc, .ref yd, .ref yb, .ref yk, .ref yz, .int (nI S.length), .int (b2 fl), .ref yr])), (yg, .inl (E.2.1, 32, .inl k5)), (yw, .inl (E.2.2.1, 64, .inl k6)), (yh, .inl (E.2.2.1, 8, .inl k7)), (yc, .inl (E.2.1, 32, .inl k8)), (yd, .inl (E.2.1, 32, .inl k9)), (yb, .inl (E.2.1, 512, .inl kb)), (yk, .inl (E.2.1, 1920, .inl f)), (yz, .inl (E.2.2.1, 24, .inl sz))] _ _ _ _ d_Mod_act_86 (⟨_, _, _, _, _, _, _, _, rfl, hB, Or.inr ⟨by unfold actS; rw [if_neg (by omega), if_neg (by omega), if_neg (by omega), if_neg (by omega), if_neg (by omega), if_neg (by omega), if_neg (by omega), if_neg (by omega), if_neg (by omega), if_neg (by omega), if_neg (by omega), if_neg (by omega), if_neg (by omega), if_neg (by omega), if_neg (by omega), if_neg (by omega), if_neg (by omega), if_neg (by omega)], rfl⟩⟩) rfl hP hS

set_option maxHeartbeats 4000000 in
set_option maxRecDepth 100000 in
theorem c_act_hi (l : Launch) (E : En) (y0 ya yo ym yl yg yw yh yc yd yb yk yz yr nt no : Nat) (fl : Bool) (k5 k6 k7 k8 k9 kb f sz : Nat → Int32) (S : Stk) (msg : Byl) (hrep : rep f sz S) (hB : fB f) (hB5 : fB k5) (hlen : S.length ≤ 24) (hm : lay k5 0 msg) (hm32 : msg.length = 32) (ht : Int32) (op : Nat) (ho : 103 < op) (ho2 : op < 256) : CtI l y_Mod_act b_Mod_act 11 .boolean (rmd 4) E [.ref y0, .int (nI op), .int ht] [(y0, .inr (7, [.ref ya, .int (nI nt), .ref yo, .int (nI no), .ref ym, .ref yl, .ref yg, .ref yw, .ref yh, .ref yc, .ref yd, .ref yb, .ref yk, .ref yz, .int (nI S.length), .int (b2 fl), .ref yr])), (yg, .inl (E.2.1, 32, .inl k5)), (yw, .inl (E.2.2.1, 64, .inl k6)), (yh, .inl (E.2.2.1, 8, .inl k7)), (yc, .inl (E.2.1, 32, .inl k8)), (yd, .inl (E.2.1, 32, .inl k9)), (yb, .inl (E.2.1, 512, .inl kb)), (yk, .inl (E.2.1, 1920, .inl f)), (yz, .inl (E.2.2.1, 24, .inl sz))] (stepM E y0 ya yo ym yl yg yw yh yc yd yb yk yz yr nt no fl k5 (actS op ht msg S)) := by
  refine CtI.of (by decide) (Nat.le_of_ble_eq_true rfl) (stepM_nar) ?_
  intro p e s m args below meth c A Q H locs ls C hP hD hS hl kret
  have hx := C.1
  have hb := C.2.1
  have hl : lv_has ls 11 [(0, .ref y0), (1, .int (nI op)), (2, .int ht)] := hl
  refine lv_aload_n hx hb d_Mod_act_0 rfl (lv_at hl 0 rfl) ?_
  refine n_get C fg_Mod_66 hP 0 rfl rfl d_Mod_act_1 ?_
  refine lv_iconst (v := nI 2) hx hb d_Mod_act_4 (by decide) ?_
  refine lv_isub hx hb d_Mod_act_5 ?_
  refine lv_istore_n (lv' := [(3, .int ((nI S.length) - (nI 2))), (0, .ref y0), (1, .int (nI op)), (2, .int ht)]) hx hb d_Mod_act_6 rfl hl (by decide) rfl (fun ls hl => ?_)
  refine lv_aload_n hx hb d_Mod_act_7 rfl (lv_at hl 1 rfl) ?_
  refine n_get C fg_Mod_66 hP 0 rfl rfl d_Mod_act_8 ?_
  refine lv_iconst (v := nI 1) hx hb d_Mod_act_11 (by decide) ?_
  refine lv_isub hx hb d_Mod_act_12 ?_
  refine lv_istore (lv' := [(4, .int ((nI S.length) - (nI 1))), (3, .int ((nI S.length) - (nI 2))), (0, .ref y0), (1, .int (nI op)), (2, .int ht)]) hx hb d_Mod_act_13 hl (by decide) rfl (fun ls hl => ?_)
  refine lv_iload_n hx hb d_Mod_act_15 rfl (lv_at hl 3 rfl) ?_
  refine lv_bipush (v := nI 82) hx hb d_Mod_act_16 (by decide) ?_
  refine j_eq C op 82 rfl rfl (by omega) (by omega) d_Mod_act_18 rfl (fun hc1 => absurd hc1 (by omega)) (fun hc1 => ?_)
  refine lv_iload_n hx hb d_Mod_act_21 rfl (lv_at hl 3 rfl) ?_
  refine lv_bipush (v := nI 83) hx hb d_Mod_act_22 (by decide) ?_
  refine j_eq C op 83 rfl rfl (by omega) (by omega) d_Mod_act_24 rfl (fun hc2 => absurd hc2 (by omega)) (fun hc2 => ?_)
  refine lv_iload_n hx hb d_Mod_act_27 rfl (lv_at hl 3 rfl) ?_
  refine lv_bipush (v := nI 86) hx hb d_Mod_act_28 (by decide) ?_
  refine j_eq C op 86 rfl rfl (by omega) (by omega) d_Mod_act_30 rfl (fun hc3 => absurd hc3 (by omega)) (fun hc3 => ?_)
  refine lv_iload_n hx hb d_Mod_act_33 rfl (lv_at hl 3 rfl) ?_
  refine lv_bipush (v := nI 89) hx hb d_Mod_act_34 (by decide) ?_
  refine j_lt C op 89 rfl rfl (by omega) (by omega) d_Mod_act_36 rfl (fun hc4 => absurd hc4 (by omega)) (fun hc4 => ?_)
  refine lv_iload_n hx hb d_Mod_act_39 rfl (lv_at hl 3 rfl) ?_
  refine lv_bipush (v := nI 92) hx hb d_Mod_act_40 (by decide) ?_
  refine j_le C op 92 rfl rfl (by omega) (by omega) d_Mod_act_42 rfl (fun hc5 => absurd hc5 (by omega)) (fun hc5 => ?_)
  refine lv_iload_n hx hb d_Mod_act_45 rfl (lv_at hl 3 rfl) ?_
  refine lv_bipush (v := nI 95) hx hb d_Mod_act_46 (by decide) ?_
  refine j_ne C op 95 rfl rfl (by omega) (by omega) d_Mod_act_48 rfl (fun hc6 => ?_) (fun hc6 => absurd hc6 (by omega))
  refine lv_iconst (v := nI 0) hx hb d_Mod_act_55 (by decide) ?_
  refine lv_istore (lv' := [(5, .int (nI 0)), (4, .int ((nI S.length) - (nI 1))), (3, .int ((nI S.length) - (nI 2))), (0, .ref y0), (1, .int (nI op)), (2, .int ht)]) hx hb d_Mod_act_56 hl (by decide) rfl (fun ls hl => ?_)
  refine lv_aload_n hx hb d_Mod_act_58 rfl (lv_at hl 3 rfl) ?_
  refine n_get C fg_Mod_66 hP 0 rfl rfl d_Mod_act_59 ?_
  refine lv_iload hx hb d_Mod_act_62 (lv_at hl 0 rfl) ?_
  refine z_eq C 0 rfl (by omega) d_Mod_act_64 rfl (fun hc7 => ?_) (fun hc7 => absurd hc7 (by omega))
  refine lv_iload_n hx hb d_Mod_act_71 rfl (lv_at hl 4 rfl) ?_
  refine lv_bipush (v := nI 102) hx hb d_Mod_act_72 (by decide) ?_
  refine j_ne C op 102 rfl rfl (by omega) (by omega) d_Mod_act_74 rfl (fun hc8 => ?_) (fun hc8 => absurd hc8 (by omega))
  refine lv_iconst (v := nI 1) hx hb d_Mod_act_81 (by decide) ?_
  refine j_ge C S.length 1 rfl rfl (by omega) (by omega) d_Mod_act_82 rfl (fun hc9 => ?_) (fun hc9 => ?_)
  · refine lv_iload_n hx hb d_Mod_act_87 rfl (lv_at hl 4 rfl) ?_
    refine lv_bipush (v := nI 88) hx hb d_Mod_act_88 (by decide) ?_
    refine j_lt C op 88 rfl rfl (by omega) (by omega) d_Mod_act_90 rfl (fun hc10 => absurd hc10 (by omega)) (fun hc10 => ?_)
    refine lv_iload_n hx hb d_Mod_act_93 rfl (lv_at hl 4 rfl) ?_
    refine lv_bipush (v := nI 91) hx hb d_Mod_act_94 (by decide) ?_
    refine j_le C op 91 rfl rfl (by omega) (by omega) d_Mod_act_96 rfl (fun hc11 => absurd hc11 (by omega)) (fun hc11 => ?_)
    refine lv_iload_n hx hb d_Mod_act_99 rfl (lv_at hl 4 rfl) ?_
    refine lv_bipush (v := nI 96) hx hb d_Mod_act_100 (by decide) ?_
    refine j_ne C op 96 rfl rfl (by omega) (by omega) d_Mod_act_102 rfl (fun hc12 => ?_) (fun hc12 => absurd hc12 (by omega))
    refine lv_iconst (v := nI 0) hx hb d_Mod_act_109 (by decide) ?_
    refine lv_istore (lv' := [(6, .int (nI 0)), (5, .int (nI 0)), (4, .int ((nI S.length) - (nI 1))), (3, .int ((nI S.length) - (nI 2))), (0, .ref y0), (1, .int (nI op)), (2, .int ht)]) hx hb d_Mod_act_110 hl (by decide) rfl (fun ls hl => ?_)
    refine lv_iload hx hb d_Mod_act_112 (lv_at hl 0 rfl) ?_
    refine z_eq C 0 rfl (by omega) d_Mod_act_114 rfl (fun hc13 => ?_) (fun hc13 => absurd hc13 (by omega))
    refine lv_iload hx hb d_Mod_act_145 (lv_at hl 1 rfl) ?_
    refine z_eq C 0 rfl (by omega) d_Mod_act_147 rfl (fun hc14 => ?_) (fun hc14 => absurd hc14 (by omega))
    refine lv_iconst (v := nI 0) hx hb d_Mod_act_163 (by decide) ?_
    refine lv_istore (lv' := [(7, .int (nI 0)), (6, .int (nI 0)), (5, .int (nI 0)), (4, .int ((nI S.length) - (nI 1))), (3, .int ((nI S.length) - (nI 2))), (0, .ref y0), (1, .int (nI op)), (2, .int ht)]) hx hb d_Mod_act_164 hl (by decide) rfl (fun ls hl => ?_)
    refine lv_iload hx hb d_Mod_act_166 (lv_at hl 1 rfl) ?_
    refine z_eq C 0 rfl (by omega) d_Mod_act_168 rfl (fun hc15 => ?_) (fun hc15 => absurd hc15 (by omega))
    refine lv_iconst (v := nI 0) hx hb d_Mod_act_180 (by decide) ?_
    refine lv_istore (lv' := [(8, .int (nI 0)), (7, .int (nI 0)), (6, .int (nI 0)), (5, .int (nI 0)), (4, .int ((nI S.length) - (nI 1))), (3, .int ((nI S.length) - (nI 2))), (0, .ref y0), (1, .int (nI op)), (2, .int ht)]) hx hb d_Mod_act_181 hl (by decide) rfl (fun ls hl => ?_)
    refine lv_iload_n hx hb d_Mod_act_183 rfl (lv_at hl 7 rfl) ?_
    refine lv_tableOut hx hb d_Mod_act_184 (by rw [nI_toInt (by omega)]; omega) rfl ?_
    refine lv_iconst (v := nI 0) hx hb d_Mod_act_825 (by decide) ?_
    exact kret (nI 0) [(y0, .inr (7, [.ref ya, .int (nI nt), .ref yo, .int (nI no), .ref ym, .ref yl, .ref yg, .ref yw, .ref yh, .ref yc, .ref yd, .ref yb, .ref yk, .ref yz, .int (nI S.length), .int (b2 fl), .ref yr])), (yg, .inl (E.2.1, 32, .inl k5)), (yw, .inl (E.2.2.1, 64, .inl k6)), (yh, .inl (E.2.2.1, 8, .inl k7)), (yc, .inl (E.2.1, 32, .inl k8)), (yd, .inl (E.2.1, 32, .inl k9)), (yb, .inl (E.2.1, 512, .inl kb)), (yk, .inl (E.2.1, 1920, .inl f)), (yz, .inl (E.2.2.1, 24, .inl sz))] _ _ _ _ d_Mod_act_826 (⟨_, _, _, _, _, _, _, _, rfl, hB, Or.inr ⟨by unfold actS; rw [if_neg (by omega), if_neg (by omega), if_neg (by omega), if_neg (by omega), if_neg (by omega), if_neg (by omega), if_neg (by omega), if_neg (by omega), if_neg (by omega), if_neg (by omega), if_neg (by omega), if_neg (by omega), if_neg (by omega), if_neg (by omega), if_neg (by omega), if_neg (by omega), if_neg (by omega), if_neg (by omega)], rfl⟩⟩) rfl hP hS
  · refine lv_iconst (v := nI 0) hx hb d_Mod_act_85 (by decide) ?_
    exact kret (nI 0) [(y0, .inr (7, [.ref ya, .int (nI nt), .ref yo, .int (nI no), .ref ym, .ref yl, .ref yg, .ref yw, .ref yh, .ref yc, .ref yd, .ref yb, .ref yk, .ref yz, .int (nI S.length), .int (b2 fl), .ref yr])), (yg, .inl (E.2.1, 32, .inl k5)), (yw, .inl (E.2.2.1, 64, .inl k6)), (yh, .inl (E.2.2.1, 8, .inl k7)), (yc, .inl (E.2.1, 32, .inl k8)), (yd, .inl (E.2.1, 32, .inl k9)), (yb, .inl (E.2.1, 512, .inl kb)), (yk, .inl (E.2.1, 1920, .inl f)), (yz, .inl (E.2.2.1, 24, .inl sz))] _ _ _ _ d_Mod_act_86 (⟨_, _, _, _, _, _, _, _, rfl, hB, Or.inr ⟨by unfold actS; rw [if_neg (by omega), if_neg (by omega), if_neg (by omega), if_neg (by omega), if_neg (by omega), if_neg (by omega), if_neg (by omega), if_neg (by omega), if_neg (by omega), if_neg (by omega), if_neg (by omega), if_neg (by omega), if_neg (by omega), if_neg (by omega), if_neg (by omega), if_neg (by omega), if_neg (by omega), if_neg (by omega)], rfl⟩⟩) rfl hP hS

theorem c_Mod_act (l : Launch) (E : En) (y0 ya yo ym yl yg yw yh yc yd yb yk yz yr nt no : Nat) (fl : Bool) (k5 k6 k7 k8 k9 kb f sz : Nat → Int32) (S : Stk) (msg : Byl) (hrep : rep f sz S) (hB : fB f) (hB5 : fB k5) (hlen : S.length ≤ 24) (hm : lay k5 0 msg) (hm32 : msg.length = 32) (ht : Int32) (op : Nat) (ho2 : op < 256) (ho3 : ¬ op = 103) : CtI l y_Mod_act b_Mod_act 11 .boolean (rmd 4) E [.ref y0, .int (nI op), .int ht] [(y0, .inr (7, [.ref ya, .int (nI nt), .ref yo, .int (nI no), .ref ym, .ref yl, .ref yg, .ref yw, .ref yh, .ref yc, .ref yd, .ref yb, .ref yk, .ref yz, .int (nI S.length), .int (b2 fl), .ref yr])), (yg, .inl (E.2.1, 32, .inl k5)), (yw, .inl (E.2.2.1, 64, .inl k6)), (yh, .inl (E.2.2.1, 8, .inl k7)), (yc, .inl (E.2.1, 32, .inl k8)), (yd, .inl (E.2.1, 32, .inl k9)), (yb, .inl (E.2.1, 512, .inl kb)), (yk, .inl (E.2.1, 1920, .inl f)), (yz, .inl (E.2.2.1, 24, .inl sz))] (stepM E y0 ya yo ym yl yg yw yh yc yd yb yk yz yr nt no fl k5 (actS op ht msg S)) := by
  by_cases h80 : op = 80
  · subst h80; exact c_act_80 l E y0 ya yo ym yl yg yw yh yc yd yb yk yz yr nt no fl k5 k6 k7 k8 k9 kb f sz S msg hrep hB hB5 hlen hm hm32 ht
  by_cases h81 : op = 81
  · subst h81; exact c_act_81 l E y0 ya yo ym yl yg yw yh yc yd yb yk yz yr nt no fl k5 k6 k7 k8 k9 kb f sz S msg hrep hB hB5 hlen hm hm32 ht
  by_cases h82 : op = 82
  · subst h82; exact c_act_82 l E y0 ya yo ym yl yg yw yh yc yd yb yk yz yr nt no fl k5 k6 k7 k8 k9 kb f sz S msg hrep hB hB5 hlen hm hm32 ht
  by_cases h83 : op = 83
  · subst h83; exact c_act_83 l E y0 ya yo ym yl yg yw yh yc yd yb yk yz yr nt no fl k5 k6 k7 k8 k9 kb f sz S msg hrep hB hB5 hlen hm hm32 ht
  by_cases h84 : op = 84
  · subst h84; exact c_act_84 l E y0 ya yo ym yl yg yw yh yc yd yb yk yz yr nt no fl k5 k6 k7 k8 k9 kb f sz S msg hrep hB hB5 hlen hm hm32 ht
  by_cases h85 : op = 85
  · subst h85; exact c_act_85 l E y0 ya yo ym yl yg yw yh yc yd yb yk yz yr nt no fl k5 k6 k7 k8 k9 kb f sz S msg hrep hB hB5 hlen hm hm32 ht
  by_cases h86 : op = 86
  · subst h86; exact c_act_86 l E y0 ya yo ym yl yg yw yh yc yd yb yk yz yr nt no fl k5 k6 k7 k8 k9 kb f sz S msg hrep hB hB5 hlen hm hm32 ht
  by_cases h87 : op = 87
  · subst h87; exact c_act_87 l E y0 ya yo ym yl yg yw yh yc yd yb yk yz yr nt no fl k5 k6 k7 k8 k9 kb f sz S msg hrep hB hB5 hlen hm hm32 ht
  by_cases h88 : op = 88
  · subst h88; exact c_act_88 l E y0 ya yo ym yl yg yw yh yc yd yb yk yz yr nt no fl k5 k6 k7 k8 k9 kb f sz S msg hrep hB hB5 hlen hm hm32 ht
  by_cases h89 : op = 89
  · subst h89; exact c_act_89 l E y0 ya yo ym yl yg yw yh yc yd yb yk yz yr nt no fl k5 k6 k7 k8 k9 kb f sz S msg hrep hB hB5 hlen hm hm32 ht
  by_cases h90 : op = 90
  · subst h90; exact c_act_90 l E y0 ya yo ym yl yg yw yh yc yd yb yk yz yr nt no fl k5 k6 k7 k8 k9 kb f sz S msg hrep hB hB5 hlen hm hm32 ht
  by_cases h91 : op = 91
  · subst h91; exact c_act_91 l E y0 ya yo ym yl yg yw yh yc yd yb yk yz yr nt no fl k5 k6 k7 k8 k9 kb f sz S msg hrep hB hB5 hlen hm hm32 ht
  by_cases h92 : op = 92
  · subst h92; exact c_act_92 l E y0 ya yo ym yl yg yw yh yc yd yb yk yz yr nt no fl k5 k6 k7 k8 k9 kb f sz S msg hrep hB hB5 hlen hm hm32 ht
  by_cases h93 : op = 93
  · subst h93; exact c_act_93 l E y0 ya yo ym yl yg yw yh yc yd yb yk yz yr nt no fl k5 k6 k7 k8 k9 kb f sz S msg hrep hB hB5 hlen hm hm32 ht
  by_cases h94 : op = 94
  · subst h94; exact c_act_94 l E y0 ya yo ym yl yg yw yh yc yd yb yk yz yr nt no fl k5 k6 k7 k8 k9 kb f sz S msg hrep hB hB5 hlen hm hm32 ht
  by_cases h95 : op = 95
  · subst h95; exact c_act_95 l E y0 ya yo ym yl yg yw yh yc yd yb yk yz yr nt no fl k5 k6 k7 k8 k9 kb f sz S msg hrep hB hB5 hlen hm hm32 ht
  by_cases h96 : op = 96
  · subst h96; exact c_act_96 l E y0 ya yo ym yl yg yw yh yc yd yb yk yz yr nt no fl k5 k6 k7 k8 k9 kb f sz S msg hrep hB hB5 hlen hm hm32 ht
  by_cases h97 : op = 97
  · subst h97; exact c_act_97 l E y0 ya yo ym yl yg yw yh yc yd yb yk yz yr nt no fl k5 k6 k7 k8 k9 kb f sz S msg hrep hB hB5 hlen hm hm32 ht
  by_cases h98 : op = 98
  · subst h98; exact c_act_98 l E y0 ya yo ym yl yg yw yh yc yd yb yk yz yr nt no fl k5 k6 k7 k8 k9 kb f sz S msg hrep hB hB5 hlen hm hm32 ht
  by_cases h99 : op = 99
  · subst h99; exact c_act_99 l E y0 ya yo ym yl yg yw yh yc yd yb yk yz yr nt no fl k5 k6 k7 k8 k9 kb f sz S msg hrep hB hB5 hlen hm hm32 ht
  by_cases h100 : op = 100
  · subst h100; exact c_act_100 l E y0 ya yo ym yl yg yw yh yc yd yb yk yz yr nt no fl k5 k6 k7 k8 k9 kb f sz S msg hrep hB hB5 hlen hm hm32 ht
  by_cases h101 : op = 101
  · subst h101; exact c_act_101 l E y0 ya yo ym yl yg yw yh yc yd yb yk yz yr nt no fl k5 k6 k7 k8 k9 kb f sz S msg hrep hB hB5 hlen hm hm32 ht
  by_cases h102 : op = 102
  · subst h102; exact c_act_102 l E y0 ya yo ym yl yg yw yh yc yd yb yk yz yr nt no fl k5 k6 k7 k8 k9 kb f sz S msg hrep hB hB5 hlen hm hm32 ht
  by_cases hlo : op < 80
  · exact c_act_lo l E y0 ya yo ym yl yg yw yh yc yd yb yk yz yr nt no fl k5 k6 k7 k8 k9 kb f sz S msg hrep hB hB5 hlen hm hm32 ht op hlo ho2
  exact c_act_hi l E y0 ya yo ym yl yg yw yh yc yd yb yk yz yr nt no fl k5 k6 k7 k8 k9 kb f sz S msg hrep hB hB5 hlen hm hm32 ht op (by omega) ho2
