section XT
variable {p : Program} {l : Launch} {e : Env} {R : Room} {s : State} {m : MethodId} {args : Array Value} {below : List Frame} {meth : Method} {c : Code} {H : Heap} {locs : List Loc} {cells slots : Nat} {Q : State → Prop}
variable {cc : ByteArray} {pc nL index a : Nat} {ls : Array Slot} {rest : List Value} {E : En} {A : Nat → Prop} {own : String} {ws : va_W}
/-- System.arraycopy out of a table of constants, all of the first k places -/
theorem n_cpyT (C : Cx p c cc nL s m args own E A) (hlk : Cond.methodLink own index arraycopyName ∈ ALLW ∧ Cond.native arraycopyName ∈ ALLW ∧ Cond.static arraycopyName ∈ ALLW ∧ Cond.initialized "java/lang/System" ∈ ALLW) (hP : va_P E.1 clz ws H) (hD : va_D A ws) (hS : va_S A s.heap H locs) {b0 n0 : Nat} {f : Nat → Int32} (hX : va_T .int b0 n0 (fun j => .int (f j)) A s s.heap) (q1 : Nat) {n1 : Nat} {g : Nat → Int32} (ha1 : ws[q1]? = some (a, .inl (E.2.2.1, n1, .inl g)))
    {sp dp n : Int32} (k : Nat) (e1 : sp = nI 0) (e2 : dp = nI 0) (e3 : n = nI k) (h4 : k ≤ n0) (h5 : k ≤ n1) (hk : k < 2 ^ 31) (hls : ls.size = nL)
    (hframes : 1 ≤ R.frames) (hlocals : (rest.map fun v => v.category).sum + (nativeFrameWords "java/lang/System" "arraycopy" 5 + 11) ≤ R.locals) (hdg : decode cc pc = .ok (.invokestatic index, 3))
    (kk : ∀ (H1 : Heap) (locs1 : List Loc), va_P E.1 clz (ws.set q1 (a, .inl (E.2.2.1, n1, .inl (va_cpy f g 0 0 k)))) H1 → va_D A (ws.set q1 (a, .inl (E.2.2.1, n1, .inl (va_cpy f g 0 0 k)))) → va_S A s.heap H1 locs1 → W p l e R s m args below meth c H1 locs1 cells slots Q (F0 m (pc + 3) ls rest)) : W p l e R s m args below meth c H locs cells slots Q (F0 m pc ls (.int n :: .int dp :: .ref a :: .int sp :: .ref b0 :: rest)) := by
  subst e1 e2 e3
  obtain ⟨hexec, hb, hml, hown, hts, hK, -, -⟩ := C
  have c0 : (nI 0).toNatClampNeg = 0 := nI_clamp (by omega)
  have ck : (nI k).toNatClampNeg = k := nI_clamp hk
  have t0 : (nI 0).toInt = 0 := nI_toInt (by omega)
  have tk : (nI k).toInt = (k : Int) := nI_toInt hk
  intro T hT X
  obtain ⟨scr, hs1, hs2, hs3, hs4, -, hs5, hs7⟩ := hX
  have hc0 : H[b0]? = some scr := by rw [hS.2.1 b0 (Array.getElem?_eq_some_iff.mp hs1).1 hs7]; exact hs1
  have hc1 : H[a]? = some (vp_cell E.2.2.1 (n1, .inl g)) := hP q1 _ ha1
  obtain ⟨hs6, k0, hk0, cm0, hkk0⟩ := hs2
  obtain ⟨-, k1, hk1, cm1, hkk1⟩ := (hK.2 1 (E.2.2.1, .int) rfl).1 n1 (fun j => .int (g j))
  obtain ⟨vm', X', step⟩ := X.arraycopy hexec hown (hts _ hlk.1) (hts _ hlk.2.1) (hts _ hlk.2.2.1) (hts _ hlk.2.2.2) (src := b0) (dst := a) (cs := scr) (cd := vp_cell E.2.2.1 (n1, .inl g)) (srcPos := nI 0) (destPos := nI 0) (n := nI k) (by rw [hT]; exact hc0) (by rw [hT]; exact hc1)
    hs6 (fun _ h => by cases h) hs3 (fun h => by cases h) hk0 hk1 hkk0 hkk1 (by simp [refKind]) (nI_pos (by omega)) (nI_pos (by omega)) (nI_pos hk)
    (by rw [t0, tk]; omega)
    (by rw [t0, tk]; show ¬ _ > ((arrV E.2.2.1 n1 (fun j => .int (g j))).slots.size : Int); rw [arrV_size]; omega)
    (fun vm₁ _ i hi => by
      rw [ck] at hi
      have e : scr.slots.getD ((nI 0).toNatClampNeg + i) .null = .int (f i) := by
        rw [c0, Nat.zero_add, Array.getD_eq_getD_getElem?, hs5 _ (by omega)]
        rfl
      refine ⟨?_, ?_⟩
      · rw [e]
        rfl
      · rw [e]
        exact trivial)
    (g := F0 m pc ls (.int (nI k) :: .int (nI 0) :: .ref a :: .int (nI 0) :: .ref b0 :: rest)) rfl (by rw [hml, hls]) (rest := rest) rfl (by rw [hb]; exact hdg) hframes (by show 2 * 0 + _ + _ ≤ _; omega)
  have e1 : copied scr (vp_cell E.2.2.1 (n1, .inl g)) (nI 0) (nI 0) (nI k) = vp_cell E.2.2.1 (n1, .inl (va_cpy f g 0 0 k)) := by
    have := va_copiedX (n1 := n1) (fun z => Value.int z) scr E.2.2.1 f g (sp := (nI 0).toNatClampNeg) (dp := (nI 0).toNatClampNeg) (n := (nI k).toNatClampNeg) (n0 := n0) hs5 (by rw [c0, ck]; omega)
    rw [c0, ck] at this
    rw [vp_cell_i, vp_cell_i, ← this]
    show _ = _
    unfold copied
    rw [c0, ck]
  rw [e1] at X' step
  have hl : a < H.size := (Array.getElem?_eq_some_iff.mp hc1).1
  have hheap : ((T.setVm vm').setCell a (vp_cell E.2.2.1 (n1, .inl (va_cpy f g 0 0 k)))).heap = H.setIfInBounds a (vp_cell E.2.2.1 (n1, .inl (va_cpy f g 0 0 k))) := by rw [← hT]; rfl
  have oq : ∀ q : Nat, q ≠ a → (H.setIfInBounds a (vp_cell E.2.2.1 (n1, .inl (va_cpy f g 0 0 k))))[q]? = H[q]? := fun q hq => by simp [Array.getElem?_setIfInBounds, Ne.symm hq]
  obtain ⟨t, a1, b1⟩ := kk _ _ (hP.set hD ha1 (show (H.setIfInBounds a _)[a]? = some _ by simp [Array.getElem?_setIfInBounds, hl]) oq) (hD.set ha1) ⟨by simp; exact hS.1, fun q g1 g2 => by
      rw [oq q (fun e => g2 (by rw [e]; exact hD.2 q1 _ ha1))]
      exact hS.2.1 q g1 g2, fun q hq => by
      rcases List.mem_append.mp hq with h | h
      · exact hS.2.2 q h
      · obtain ⟨z, -, hz⟩ := List.mem_map.mp h
        rw [← hz]
        exact hD.2 q1 _ ha1⟩ _ hheap X'
  exact ⟨t, step t a1, b1⟩
end XT

theorem exW_z (w : Nat → Int32) : exW w 0 = w := rfl
theorem ldW_z (b : Nat → Int32) (n j : Nat) (w : Nat → Int32) : ldW b n j w 0 = w := rfl

set_option maxHeartbeats 4000000 in
set_option maxRecDepth 100000 in
theorem c_Sha_extend (l : Launch) (E : En) (h0 a1 a2 : Nat) (wv : Nat → Int32) : CtV l y_Sha_extendWords b_Sha_extendWords 6 (rmd 0) E [.ref h0] [(h0, .inr (4, [.ref a1, .ref a2])), (a2, .inl (E.2.2.1, 64, .inl wv))] (fun w => w = [(h0, .inr (4, [.ref a1, .ref a2])), (a2, .inl (E.2.2.1, 64, .inl (exW wv 48)))]) := by
  refine CtV.of (by decide) (Nat.le_of_ble_eq_true rfl) ?_
  intro p e s m args below meth c A Q H locs ls C hP hD hS hl kret
  have hx := C.1
  have hb := C.2.1
  have hl : lv_has ls 6 [(0, .ref h0)] := hl
  refine lv_bipush (v := nI 16) hx hb d_Sha_extendWords_0 (by decide) ?_
  refine lv_istore_n (lv' := [(1, .int (nI 16)), (0, .ref h0)]) hx hb d_Sha_extendWords_2 rfl hl (by decide) rfl (fun ls hl => ?_)
  have hloop3 : ∀ (dd : Nat) (i : Nat) (H : Heap) (locs : List Loc) (ls : Array Slot), 48 - i < dd → (i ≤ 48) → va_P E.1 clz [(h0, .inr (4, [.ref a1, .ref a2])), (a2, .inl (E.2.2.1, 64, .inl (exW wv i)))] H → va_D A [(h0, .inr (4, [.ref a1, .ref a2])), (a2, .inl (E.2.2.1, 64, .inl (exW wv i)))] → va_S A s.heap H locs → lv_has ls 6 [(1, .int (nI (16 + i))), (0, .ref h0)] → W p l e (rmd 0) s m args below meth c H locs 0 0 Q (F0 m 3 ls []) := by
    intro dd
    induction dd with
    | zero => intro i H locs ls hmz; exact absurd hmz (Nat.not_lt_zero _)
    | succ dd ih3 =>
      intro i H locs ls hmz hi hP hD hS hl
      refine lv_iload_n hx hb d_Sha_extendWords_3 rfl (lv_at hl 0 rfl) ?_
      refine lv_bipush (v := nI 64) hx hb d_Sha_extendWords_4 (by decide) ?_
      refine j_ge C (16 + i) 64 rfl rfl (by omega) (by omega) d_Sha_extendWords_6 rfl (fun hc1 => ?_) (fun hc1 => ?_)
      · obtain rfl : i = 48 := by omega
        exact kret [(h0, .inr (4, [.ref a1, .ref a2])), (a2, .inl (E.2.2.1, 64, .inl (exW wv 48)))] _ _ _ _ d_Sha_extendWords_116 (rfl) rfl hP hS
      · refine lv_aload_n hx hb d_Sha_extendWords_9 rfl (lv_at hl 1 rfl) ?_
        refine n_get C fg_Sha_15 hP 0 rfl rfl d_Sha_extendWords_10 ?_
        refine lv_iload_n hx hb d_Sha_extendWords_13 rfl (lv_at hl 0 rfl) ?_
        refine lv_bipush (v := nI 15) hx hb d_Sha_extendWords_14 (by decide) ?_
        refine lv_isub hx hb d_Sha_extendWords_16 ?_
        refine tope (z := nI ((16 + i) - 15)) (pk_sub (by omega)) ?_
        refine tope (z := nI (i + 1)) (congrArg nI (by omega)) ?_
        refine n_iald C hP 1 rfl (i + 1) rfl (by omega) (by omega) d_Sha_extendWords_17 ?_
        refine lv_istore_n (lv' := [(2, .int ((exW wv i) (i + 1))), (1, .int (nI (16 + i))), (0, .ref h0)]) hx hb d_Sha_extendWords_18 rfl hl (by decide) rfl (fun ls hl => ?_)
        refine lv_aload_n hx hb d_Sha_extendWords_19 rfl (lv_at hl 2 rfl) ?_
        refine n_get C fg_Sha_15 hP 0 rfl rfl d_Sha_extendWords_20 ?_
        refine lv_iload_n hx hb d_Sha_extendWords_23 rfl (lv_at hl 1 rfl) ?_
        refine lv_iconst (v := nI 2) hx hb d_Sha_extendWords_24 (by decide) ?_
        refine lv_isub hx hb d_Sha_extendWords_25 ?_
        refine tope (z := nI ((16 + i) - 2)) (pk_sub (by omega)) ?_
        refine tope (z := nI (i + 14)) (congrArg nI (by omega)) ?_
        refine n_iald C hP 1 rfl (i + 14) rfl (by omega) (by omega) d_Sha_extendWords_26 ?_
        refine lv_istore_n (lv' := [(3, .int ((exW wv i) (i + 14))), (2, .int ((exW wv i) (i + 1))), (1, .int (nI (16 + i))), (0, .ref h0)]) hx hb d_Sha_extendWords_27 rfl hl (by decide) rfl (fun ls hl => ?_)
        refine lv_iload_n hx hb d_Sha_extendWords_28 rfl (lv_at hl 1 rfl) ?_
        refine lv_bipush (v := nI 7) hx hb d_Sha_extendWords_29 (by decide) ?_
        refine lv_iushr (v := us ((exW wv i) (i + 1)) (nI 7)) hx hb d_Sha_extendWords_31 rfl ?_
        refine lv_iload_n hx hb d_Sha_extendWords_32 rfl (lv_at hl 1 rfl) ?_
        refine lv_bipush (v := nI 25) hx hb d_Sha_extendWords_33 (by decide) ?_
        refine lv_ishl hx hb d_Sha_extendWords_35 ?_
        refine lv_ior hx hb d_Sha_extendWords_36 ?_
        refine lv_iload_n hx hb d_Sha_extendWords_37 rfl (lv_at hl 1 rfl) ?_
        refine lv_bipush (v := nI 18) hx hb d_Sha_extendWords_38 (by decide) ?_
        refine lv_iushr (v := us ((exW wv i) (i + 1)) (nI 18)) hx hb d_Sha_extendWords_40 rfl ?_
        refine lv_iload_n hx hb d_Sha_extendWords_41 rfl (lv_at hl 1 rfl) ?_
        refine lv_bipush (v := nI 14) hx hb d_Sha_extendWords_42 (by decide) ?_
        refine lv_ishl hx hb d_Sha_extendWords_44 ?_
        refine lv_ior hx hb d_Sha_extendWords_45 ?_
        refine lv_ixor hx hb d_Sha_extendWords_46 ?_
        refine lv_iload_n hx hb d_Sha_extendWords_47 rfl (lv_at hl 1 rfl) ?_
        refine lv_iconst (v := nI 3) hx hb d_Sha_extendWords_48 (by decide) ?_
        refine lv_iushr (v := us ((exW wv i) (i + 1)) (nI 3)) hx hb d_Sha_extendWords_49 rfl ?_
        refine lv_ixor hx hb d_Sha_extendWords_50 ?_
        refine tope (z := sg0 (exW wv i (i + 1))) (rfl) ?_
        refine lv_istore (lv' := [(4, .int (sg0 (exW wv i (i + 1)))), (3, .int ((exW wv i) (i + 14))), (2, .int ((exW wv i) (i + 1))), (1, .int (nI (16 + i))), (0, .ref h0)]) hx hb d_Sha_extendWords_51 hl (by decide) rfl (fun ls hl => ?_)
        refine lv_iload_n hx hb d_Sha_extendWords_53 rfl (lv_at hl 1 rfl) ?_
        refine lv_bipush (v := nI 17) hx hb d_Sha_extendWords_54 (by decide) ?_
        refine lv_iushr (v := us ((exW wv i) (i + 14)) (nI 17)) hx hb d_Sha_extendWords_56 rfl ?_
        refine lv_iload_n hx hb d_Sha_extendWords_57 rfl (lv_at hl 1 rfl) ?_
        refine lv_bipush (v := nI 15) hx hb d_Sha_extendWords_58 (by decide) ?_
        refine lv_ishl hx hb d_Sha_extendWords_60 ?_
        refine lv_ior hx hb d_Sha_extendWords_61 ?_
        refine lv_iload_n hx hb d_Sha_extendWords_62 rfl (lv_at hl 1 rfl) ?_
        refine lv_bipush (v := nI 19) hx hb d_Sha_extendWords_63 (by decide) ?_
        refine lv_iushr (v := us ((exW wv i) (i + 14)) (nI 19)) hx hb d_Sha_extendWords_65 rfl ?_
        refine lv_iload_n hx hb d_Sha_extendWords_66 rfl (lv_at hl 1 rfl) ?_
        refine lv_bipush (v := nI 13) hx hb d_Sha_extendWords_67 (by decide) ?_
        refine lv_ishl hx hb d_Sha_extendWords_69 ?_
        refine lv_ior hx hb d_Sha_extendWords_70 ?_
        refine lv_ixor hx hb d_Sha_extendWords_71 ?_
        refine lv_iload_n hx hb d_Sha_extendWords_72 rfl (lv_at hl 1 rfl) ?_
        refine lv_bipush (v := nI 10) hx hb d_Sha_extendWords_73 (by decide) ?_
        refine lv_iushr (v := us ((exW wv i) (i + 14)) (nI 10)) hx hb d_Sha_extendWords_75 rfl ?_
        refine lv_ixor hx hb d_Sha_extendWords_76 ?_
        refine tope (z := sg1 (exW wv i (i + 14))) (rfl) ?_
        refine lv_istore (lv' := [(5, .int (sg1 (exW wv i (i + 14)))), (4, .int (sg0 (exW wv i (i + 1)))), (3, .int ((exW wv i) (i + 14))), (2, .int ((exW wv i) (i + 1))), (1, .int (nI (16 + i))), (0, .ref h0)]) hx hb d_Sha_extendWords_77 hl (by decide) rfl (fun ls hl => ?_)
        refine lv_aload_n hx hb d_Sha_extendWords_79 rfl (lv_at hl 5 rfl) ?_
        refine n_get C fg_Sha_15 hP 0 rfl rfl d_Sha_extendWords_80 ?_
        refine lv_iload_n hx hb d_Sha_extendWords_83 rfl (lv_at hl 4 rfl) ?_
        refine lv_aload_n hx hb d_Sha_extendWords_84 rfl (lv_at hl 5 rfl) ?_
        refine n_get C fg_Sha_15 hP 0 rfl rfl d_Sha_extendWords_85 ?_
        refine lv_iload_n hx hb d_Sha_extendWords_88 rfl (lv_at hl 4 rfl) ?_
        refine lv_bipush (v := nI 16) hx hb d_Sha_extendWords_89 (by decide) ?_
        refine lv_isub hx hb d_Sha_extendWords_91 ?_
        refine tope (z := nI ((16 + i) - 16)) (pk_sub (by omega)) ?_
        refine tope (z := nI i) (congrArg nI (by omega)) ?_
        refine n_iald C hP 1 rfl i rfl (by omega) (by omega) d_Sha_extendWords_92 ?_
        refine lv_iload hx hb d_Sha_extendWords_93 (lv_at hl 1 rfl) ?_
        refine lv_iadd hx hb d_Sha_extendWords_95 ?_
        refine lv_aload_n hx hb d_Sha_extendWords_96 rfl (lv_at hl 5 rfl) ?_
        refine n_get C fg_Sha_15 hP 0 rfl rfl d_Sha_extendWords_97 ?_
        refine lv_iload_n hx hb d_Sha_extendWords_100 rfl (lv_at hl 4 rfl) ?_
        refine lv_bipush (v := nI 7) hx hb d_Sha_extendWords_101 (by decide) ?_
        refine lv_isub hx hb d_Sha_extendWords_103 ?_
        refine tope (z := nI ((16 + i) - 7)) (pk_sub (by omega)) ?_
        refine tope (z := nI (i + 9)) (congrArg nI (by omega)) ?_
        refine n_iald C hP 1 rfl (i + 9) rfl (by omega) (by omega) d_Sha_extendWords_104 ?_
        refine lv_iadd hx hb d_Sha_extendWords_105 ?_
        refine lv_iload hx hb d_Sha_extendWords_106 (lv_at hl 0 rfl) ?_
        refine lv_iadd hx hb d_Sha_extendWords_108 ?_
        refine n_iast C hP hD hS 1 rfl (16 + i) rfl (by omega) (by omega) d_Sha_extendWords_109 (fun H locs hP hD hS => ?_)
        have hP : va_P E.1 clz [(h0, .inr (4, [.ref a1, .ref a2])), (a2, .inl (E.2.2.1, 64, .inl (upd (exW wv i) (16 + i) (((((exW wv i) i) + (sg0 (exW wv i (i + 1)))) + ((exW wv i) (i + 9))) + (sg1 (exW wv i (i + 14)))))))] H := hP
        have hD : va_D A [(h0, .inr (4, [.ref a1, .ref a2])), (a2, .inl (E.2.2.1, 64, .inl (upd (exW wv i) (16 + i) (((((exW wv i) i) + (sg0 (exW wv i (i + 1)))) + ((exW wv i) (i + 9))) + (sg1 (exW wv i (i + 14)))))))] := hD
        have hP : va_P E.1 clz [(h0, .inr (4, [.ref a1, .ref a2])), (a2, .inl (E.2.2.1, 64, .inl (exW wv (i + 1))))] H := hP
        have hD : va_D A [(h0, .inr (4, [.ref a1, .ref a2])), (a2, .inl (E.2.2.1, 64, .inl (exW wv (i + 1))))] := hD
        refine lv_iinc (k := 4) (v := nI (16 + i + 1)) (lv' := [(1, .int (nI (16 + i + 1))), (5, .int (sg1 (exW wv i (i + 14)))), (4, .int (sg0 (exW wv i (i + 1)))), (3, .int ((exW wv i) (i + 14))), (2, .int ((exW wv i) (i + 1))), (0, .ref h0)]) hx hb d_Sha_extendWords_110 hl rfl (iincK (16 + i) 1) (by decide) rfl (fun ls hl => ?_)
        refine lv_goto hx hb d_Sha_extendWords_113 rfl ?_
        exact ih3 (i + 1) H locs ls (by omega) (by omega) hP hD hS (lv_sub hl [0, 5] rfl)
  exact hloop3 (48 + 1) 0 H locs ls (by omega) (by omega) hP hD hS (lv_sub hl [0, 1] rfl)

set_option maxHeartbeats 4000000 in
set_option maxRecDepth 100000 in
theorem c_Sha_mix (l : Launch) (E : En) (h0 a1 a2 : Nat) (st wv : Nat → Int32) : CtV l y_Sha_mixWords b_Sha_mixWords 16 (rmd 0) E [.ref h0] [(h0, .inr (4, [.ref a1, .ref a2])), (a1, .inl (E.2.2.1, 8, .inl st)), (a2, .inl (E.2.2.1, 64, .inl wv))] (fun w => w = [(h0, .inr (4, [.ref a1, .ref a2])), (a1, .inl (E.2.2.1, 8, .inl (blkF wv st))), (a2, .inl (E.2.2.1, 64, .inl wv))]) := by
  refine CtV.of (by decide) (Nat.le_of_ble_eq_true rfl) ?_
  intro p e s m args below meth c A Q H locs ls C hP hD hS hl kret
  have hx := C.1
  have hb := C.2.1
  have hl : lv_has ls 16 [(0, .ref h0)] := hl
  refine lv_aload_n hx hb d_Sha_mixWords_0 rfl (lv_at hl 0 rfl) ?_
  refine n_get C fg_Sha_9 hP 0 rfl rfl d_Sha_mixWords_1 ?_
  refine lv_iconst (v := nI 0) hx hb d_Sha_mixWords_4 (by decide) ?_
  refine n_iald C hP 1 rfl 0 rfl (by omega) (by omega) d_Sha_mixWords_5 ?_
  refine lv_istore_n (lv' := [(1, .int (st 0)), (0, .ref h0)]) hx hb d_Sha_mixWords_6 rfl hl (by decide) rfl (fun ls hl => ?_)
  refine lv_aload_n hx hb d_Sha_mixWords_7 rfl (lv_at hl 1 rfl) ?_
  refine n_get C fg_Sha_9 hP 0 rfl rfl d_Sha_mixWords_8 ?_
  refine lv_iconst (v := nI 1) hx hb d_Sha_mixWords_11 (by decide) ?_
  refine n_iald C hP 1 rfl 1 rfl (by omega) (by omega) d_Sha_mixWords_12 ?_
  refine lv_istore_n (lv' := [(2, .int (st 1)), (1, .int (st 0)), (0, .ref h0)]) hx hb d_Sha_mixWords_13 rfl hl (by decide) rfl (fun ls hl => ?_)
  refine lv_aload_n hx hb d_Sha_mixWords_14 rfl (lv_at hl 2 rfl) ?_
  refine n_get C fg_Sha_9 hP 0 rfl rfl d_Sha_mixWords_15 ?_
  refine lv_iconst (v := nI 2) hx hb d_Sha_mixWords_18 (by decide) ?_
  refine n_iald C hP 1 rfl 2 rfl (by omega) (by omega) d_Sha_mixWords_19 ?_
  refine lv_istore_n (lv' := [(3, .int (st 2)), (2, .int (st 1)), (1, .int (st 0)), (0, .ref h0)]) hx hb d_Sha_mixWords_20 rfl hl (by decide) rfl (fun ls hl => ?_)
  refine lv_aload_n hx hb d_Sha_mixWords_21 rfl (lv_at hl 3 rfl) ?_
  refine n_get C fg_Sha_9 hP 0 rfl rfl d_Sha_mixWords_22 ?_
  refine lv_iconst (v := nI 3) hx hb d_Sha_mixWords_25 (by decide) ?_
  refine n_iald C hP 1 rfl 3 rfl (by omega) (by omega) d_Sha_mixWords_26 ?_
  refine lv_istore (lv' := [(4, .int (st 3)), (3, .int (st 2)), (2, .int (st 1)), (1, .int (st 0)), (0, .ref h0)]) hx hb d_Sha_mixWords_27 hl (by decide) rfl (fun ls hl => ?_)
  refine lv_aload_n hx hb d_Sha_mixWords_29 rfl (lv_at hl 4 rfl) ?_
  refine n_get C fg_Sha_9 hP 0 rfl rfl d_Sha_mixWords_30 ?_
  refine lv_iconst (v := nI 4) hx hb d_Sha_mixWords_33 (by decide) ?_
  refine n_iald C hP 1 rfl 4 rfl (by omega) (by omega) d_Sha_mixWords_34 ?_
  refine lv_istore (lv' := [(5, .int (st 4)), (4, .int (st 3)), (3, .int (st 2)), (2, .int (st 1)), (1, .int (st 0)), (0, .ref h0)]) hx hb d_Sha_mixWords_35 hl (by decide) rfl (fun ls hl => ?_)
  refine lv_aload_n hx hb d_Sha_mixWords_37 rfl (lv_at hl 5 rfl) ?_
  refine n_get C fg_Sha_9 hP 0 rfl rfl d_Sha_mixWords_38 ?_
  refine lv_iconst (v := nI 5) hx hb d_Sha_mixWords_41 (by decide) ?_
  refine n_iald C hP 1 rfl 5 rfl (by omega) (by omega) d_Sha_mixWords_42 ?_
  refine lv_istore (lv' := [(6, .int (st 5)), (5, .int (st 4)), (4, .int (st 3)), (3, .int (st 2)), (2, .int (st 1)), (1, .int (st 0)), (0, .ref h0)]) hx hb d_Sha_mixWords_43 hl (by decide) rfl (fun ls hl => ?_)
  refine lv_aload_n hx hb d_Sha_mixWords_45 rfl (lv_at hl 6 rfl) ?_
  refine n_get C fg_Sha_9 hP 0 rfl rfl d_Sha_mixWords_46 ?_
  refine lv_bipush (v := nI 6) hx hb d_Sha_mixWords_49 (by decide) ?_
  refine n_iald C hP 1 rfl 6 rfl (by omega) (by omega) d_Sha_mixWords_51 ?_
  refine lv_istore (lv' := [(7, .int (st 6)), (6, .int (st 5)), (5, .int (st 4)), (4, .int (st 3)), (3, .int (st 2)), (2, .int (st 1)), (1, .int (st 0)), (0, .ref h0)]) hx hb d_Sha_mixWords_52 hl (by decide) rfl (fun ls hl => ?_)
  refine lv_aload_n hx hb d_Sha_mixWords_54 rfl (lv_at hl 7 rfl) ?_
  refine n_get C fg_Sha_9 hP 0 rfl rfl d_Sha_mixWords_55 ?_
  refine lv_bipush (v := nI 7) hx hb d_Sha_mixWords_58 (by decide) ?_
  refine n_iald C hP 1 rfl 7 rfl (by omega) (by omega) d_Sha_mixWords_60 ?_
  refine lv_istore (lv' := [(8, .int (st 7)), (7, .int (st 6)), (6, .int (st 5)), (5, .int (st 4)), (4, .int (st 3)), (3, .int (st 2)), (2, .int (st 1)), (1, .int (st 0)), (0, .ref h0)]) hx hb d_Sha_mixWords_61 hl (by decide) rfl (fun ls hl => ?_)
  refine lv_iconst (v := nI 0) hx hb d_Sha_mixWords_63 (by decide) ?_
  refine lv_istore (lv' := [(9, .int (nI 0)), (8, .int (st 7)), (7, .int (st 6)), (6, .int (st 5)), (5, .int (st 4)), (4, .int (st 3)), (3, .int (st 2)), (2, .int (st 1)), (1, .int (st 0)), (0, .ref h0)]) hx hb d_Sha_mixWords_64 hl (by decide) rfl (fun ls hl => ?_)
  have hloop66 : ∀ (dd : Nat) (i : Nat) (va : Int32) (vb : Int32) (vc : Int32) (vd : Int32) (ve : Int32) (vf : Int32) (vg : Int32) (vh : Int32) (H : Heap) (locs : List Loc) (ls : Array Slot), 64 - i < dd → (i ≤ 64) → (mx wv (st 0, st 1, st 2, st 3, st 4, st 5, st 6, st 7) i = (va, vb, vc, vd, ve, vf, vg, vh)) → va_P E.1 clz [(h0, .inr (4, [.ref a1, .ref a2])), (a1, .inl (E.2.2.1, 8, .inl st)), (a2, .inl (E.2.2.1, 64, .inl wv))] H → va_D A [(h0, .inr (4, [.ref a1, .ref a2])), (a1, .inl (E.2.2.1, 8, .inl st)), (a2, .inl (E.2.2.1, 64, .inl wv))] → va_S A s.heap H locs → lv_has ls 16 [(9, .int (nI i)), (8, .int vh), (7, .int vg), (6, .int vf), (5, .int ve), (4, .int vd), (3, .int vc), (2, .int vb), (1, .int va), (0, .ref h0)] → W p l e (rmd 0) s m args below meth c H locs 0 0 Q (F0 m 66 ls []) := by
    intro dd
    induction dd with
    | zero => intro i va vb vc vd ve vf vg vh H locs ls hmz; exact absurd hmz (Nat.not_lt_zero _)
    | succ dd ih66 =>
      intro i va vb vc vd ve vf vg vh H locs ls hmz hi hinv hP hD hS hl
      refine lv_iload hx hb d_Sha_mixWords_66 (lv_at hl 0 rfl) ?_
      refine lv_bipush (v := nI 64) hx hb d_Sha_mixWords_68 (by decide) ?_
      refine j_ge C i 64 rfl rfl (by omega) (by omega) d_Sha_mixWords_70 rfl (fun hc1 => ?_) (fun hc1 => ?_)
      · obtain rfl : i = 64 := by omega
        refine lv_aload_n hx hb d_Sha_mixWords_238 rfl (lv_at hl 9 rfl) ?_
        refine n_get C fg_Sha_9 hP 0 rfl rfl d_Sha_mixWords_239 ?_
        refine lv_iconst (v := nI 0) hx hb d_Sha_mixWords_242 (by decide) ?_
        refine lv_dup2_11 hx hb d_Sha_mixWords_243 rfl rfl ?_
        refine n_iald C hP 1 rfl 0 rfl (by omega) (by omega) d_Sha_mixWords_244 ?_
        refine tope (z := st 0) (rfl) ?_
        refine lv_iload_n hx hb d_Sha_mixWords_245 rfl (lv_at hl 8 rfl) ?_
        refine lv_iadd hx hb d_Sha_mixWords_246 ?_
        refine n_iast C hP hD hS 1 rfl 0 rfl (by omega) (by omega) d_Sha_mixWords_247 (fun H locs hP hD hS => ?_)
        have hP : va_P E.1 clz [(h0, .inr (4, [.ref a1, .ref a2])), (a1, .inl (E.2.2.1, 8, .inl (upd st 0 ((st 0) + va)))), (a2, .inl (E.2.2.1, 64, .inl wv))] H := hP
        have hD : va_D A [(h0, .inr (4, [.ref a1, .ref a2])), (a1, .inl (E.2.2.1, 8, .inl (upd st 0 ((st 0) + va)))), (a2, .inl (E.2.2.1, 64, .inl wv))] := hD
        refine lv_aload_n hx hb d_Sha_mixWords_248 rfl (lv_at hl 9 rfl) ?_
        refine n_get C fg_Sha_9 hP 0 rfl rfl d_Sha_mixWords_249 ?_
        refine lv_iconst (v := nI 1) hx hb d_Sha_mixWords_252 (by decide) ?_
        refine lv_dup2_11 hx hb d_Sha_mixWords_253 rfl rfl ?_
        refine n_iald C hP 1 rfl 1 rfl (by omega) (by omega) d_Sha_mixWords_254 ?_
        refine tope (z := st 1) (rfl) ?_
        refine lv_iload_n hx hb d_Sha_mixWords_255 rfl (lv_at hl 7 rfl) ?_
        refine lv_iadd hx hb d_Sha_mixWords_256 ?_
        refine n_iast C hP hD hS 1 rfl 1 rfl (by omega) (by omega) d_Sha_mixWords_257 (fun H locs hP hD hS => ?_)
        have hP : va_P E.1 clz [(h0, .inr (4, [.ref a1, .ref a2])), (a1, .inl (E.2.2.1, 8, .inl (upd (upd st 0 ((st 0) + va)) 1 ((st 1) + vb)))), (a2, .inl (E.2.2.1, 64, .inl wv))] H := hP
        have hD : va_D A [(h0, .inr (4, [.ref a1, .ref a2])), (a1, .inl (E.2.2.1, 8, .inl (upd (upd st 0 ((st 0) + va)) 1 ((st 1) + vb)))), (a2, .inl (E.2.2.1, 64, .inl wv))] := hD
        refine lv_aload_n hx hb d_Sha_mixWords_258 rfl (lv_at hl 9 rfl) ?_
        refine n_get C fg_Sha_9 hP 0 rfl rfl d_Sha_mixWords_259 ?_
        refine lv_iconst (v := nI 2) hx hb d_Sha_mixWords_262 (by decide) ?_
        refine lv_dup2_11 hx hb d_Sha_mixWords_263 rfl rfl ?_
        refine n_iald C hP 1 rfl 2 rfl (by omega) (by omega) d_Sha_mixWords_264 ?_
        refine tope (z := st 2) (rfl) ?_
        refine lv_iload_n hx hb d_Sha_mixWords_265 rfl (lv_at hl 6 rfl) ?_
        refine lv_iadd hx hb d_Sha_mixWords_266 ?_
        refine n_iast C hP hD hS 1 rfl 2 rfl (by omega) (by omega) d_Sha_mixWords_267 (fun H locs hP hD hS => ?_)
        have hP : va_P E.1 clz [(h0, .inr (4, [.ref a1, .ref a2])), (a1, .inl (E.2.2.1, 8, .inl (upd (upd (upd st 0 ((st 0) + va)) 1 ((st 1) + vb)) 2 ((st 2) + vc)))), (a2, .inl (E.2.2.1, 64, .inl wv))] H := hP
        have hD : va_D A [(h0, .inr (4, [.ref a1, .ref a2])), (a1, .inl (E.2.2.1, 8, .inl (upd (upd (upd st 0 ((st 0) + va)) 1 ((st 1) + vb)) 2 ((st 2) + vc)))), (a2, .inl (E.2.2.1, 64, .inl wv))] := hD
        refine lv_aload_n hx hb d_Sha_mixWords_268 rfl (lv_at hl 9 rfl) ?_
        refine n_get C fg_Sha_9 hP 0 rfl rfl d_Sha_mixWords_269 ?_
        refine lv_iconst (v := nI 3) hx hb d_Sha_mixWords_272 (by decide) ?_
        refine lv_dup2_11 hx hb d_Sha_mixWords_273 rfl rfl ?_
        refine n_iald C hP 1 rfl 3 rfl (by omega) (by omega) d_Sha_mixWords_274 ?_
        refine tope (z := st 3) (rfl) ?_
        refine lv_iload hx hb d_Sha_mixWords_275 (lv_at hl 5 rfl) ?_
        refine lv_iadd hx hb d_Sha_mixWords_277 ?_
        refine n_iast C hP hD hS 1 rfl 3 rfl (by omega) (by omega) d_Sha_mixWords_278 (fun H locs hP hD hS => ?_)
        have hP : va_P E.1 clz [(h0, .inr (4, [.ref a1, .ref a2])), (a1, .inl (E.2.2.1, 8, .inl (upd (upd (upd (upd st 0 ((st 0) + va)) 1 ((st 1) + vb)) 2 ((st 2) + vc)) 3 ((st 3) + vd)))), (a2, .inl (E.2.2.1, 64, .inl wv))] H := hP
        have hD : va_D A [(h0, .inr (4, [.ref a1, .ref a2])), (a1, .inl (E.2.2.1, 8, .inl (upd (upd (upd (upd st 0 ((st 0) + va)) 1 ((st 1) + vb)) 2 ((st 2) + vc)) 3 ((st 3) + vd)))), (a2, .inl (E.2.2.1, 64, .inl wv))] := hD
        refine lv_aload_n hx hb d_Sha_mixWords_279 rfl (lv_at hl 9 rfl) ?_
        refine n_get C fg_Sha_9 hP 0 rfl rfl d_Sha_mixWords_280 ?_
        refine lv_iconst (v := nI 4) hx hb d_Sha_mixWords_283 (by decide) ?_
        refine lv_dup2_11 hx hb d_Sha_mixWords_284 rfl rfl ?_
        refine n_iald C hP 1 rfl 4 rfl (by omega) (by omega) d_Sha_mixWords_285 ?_
        refine tope (z := st 4) (rfl) ?_
        refine lv_iload hx hb d_Sha_mixWords_286 (lv_at hl 4 rfl) ?_
        refine lv_iadd hx hb d_Sha_mixWords_288 ?_
        refine n_iast C hP hD hS 1 rfl 4 rfl (by omega) (by omega) d_Sha_mixWords_289 (fun H locs hP hD hS => ?_)
        have hP : va_P E.1 clz [(h0, .inr (4, [.ref a1, .ref a2])), (a1, .inl (E.2.2.1, 8, .inl (upd (upd (upd (upd (upd st 0 ((st 0) + va)) 1 ((st 1) + vb)) 2 ((st 2) + vc)) 3 ((st 3) + vd)) 4 ((st 4) + ve)))), (a2, .inl (E.2.2.1, 64, .inl wv))] H := hP
        have hD : va_D A [(h0, .inr (4, [.ref a1, .ref a2])), (a1, .inl (E.2.2.1, 8, .inl (upd (upd (upd (upd (upd st 0 ((st 0) + va)) 1 ((st 1) + vb)) 2 ((st 2) + vc)) 3 ((st 3) + vd)) 4 ((st 4) + ve)))), (a2, .inl (E.2.2.1, 64, .inl wv))] := hD
        refine lv_aload_n hx hb d_Sha_mixWords_290 rfl (lv_at hl 9 rfl) ?_
        refine n_get C fg_Sha_9 hP 0 rfl rfl d_Sha_mixWords_291 ?_
        refine lv_iconst (v := nI 5) hx hb d_Sha_mixWords_294 (by decide) ?_
        refine lv_dup2_11 hx hb d_Sha_mixWords_295 rfl rfl ?_
        refine n_iald C hP 1 rfl 5 rfl (by omega) (by omega) d_Sha_mixWords_296 ?_
        refine tope (z := st 5) (rfl) ?_
        refine lv_iload hx hb d_Sha_mixWords_297 (lv_at hl 3 rfl) ?_
        refine lv_iadd hx hb d_Sha_mixWords_299 ?_
        refine n_iast C hP hD hS 1 rfl 5 rfl (by omega) (by omega) d_Sha_mixWords_300 (fun H locs hP hD hS => ?_)
        have hP : va_P E.1 clz [(h0, .inr (4, [.ref a1, .ref a2])), (a1, .inl (E.2.2.1, 8, .inl (upd (upd (upd (upd (upd (upd st 0 ((st 0) + va)) 1 ((st 1) + vb)) 2 ((st 2) + vc)) 3 ((st 3) + vd)) 4 ((st 4) + ve)) 5 ((st 5) + vf)))), (a2, .inl (E.2.2.1, 64, .inl wv))] H := hP
        have hD : va_D A [(h0, .inr (4, [.ref a1, .ref a2])), (a1, .inl (E.2.2.1, 8, .inl (upd (upd (upd (upd (upd (upd st 0 ((st 0) + va)) 1 ((st 1) + vb)) 2 ((st 2) + vc)) 3 ((st 3) + vd)) 4 ((st 4) + ve)) 5 ((st 5) + vf)))), (a2, .inl (E.2.2.1, 64, .inl wv))] := hD
        refine lv_aload_n hx hb d_Sha_mixWords_301 rfl (lv_at hl 9 rfl) ?_
        refine n_get C fg_Sha_9 hP 0 rfl rfl d_Sha_mixWords_302 ?_
        refine lv_bipush (v := nI 6) hx hb d_Sha_mixWords_305 (by decide) ?_
        refine lv_dup2_11 hx hb d_Sha_mixWords_307 rfl rfl ?_
        refine n_iald C hP 1 rfl 6 rfl (by omega) (by omega) d_Sha_mixWords_308 ?_
        refine tope (z := st 6) (rfl) ?_
        refine lv_iload hx hb d_Sha_mixWords_309 (lv_at hl 2 rfl) ?_
        refine lv_iadd hx hb d_Sha_mixWords_311 ?_
        refine n_iast C hP hD hS 1 rfl 6 rfl (by omega) (by omega) d_Sha_mixWords_312 (fun H locs hP hD hS => ?_)
        have hP : va_P E.1 clz [(h0, .inr (4, [.ref a1, .ref a2])), (a1, .inl (E.2.2.1, 8, .inl (upd (upd (upd (upd (upd (upd (upd st 0 ((st 0) + va)) 1 ((st 1) + vb)) 2 ((st 2) + vc)) 3 ((st 3) + vd)) 4 ((st 4) + ve)) 5 ((st 5) + vf)) 6 ((st 6) + vg)))), (a2, .inl (E.2.2.1, 64, .inl wv))] H := hP
        have hD : va_D A [(h0, .inr (4, [.ref a1, .ref a2])), (a1, .inl (E.2.2.1, 8, .inl (upd (upd (upd (upd (upd (upd (upd st 0 ((st 0) + va)) 1 ((st 1) + vb)) 2 ((st 2) + vc)) 3 ((st 3) + vd)) 4 ((st 4) + ve)) 5 ((st 5) + vf)) 6 ((st 6) + vg)))), (a2, .inl (E.2.2.1, 64, .inl wv))] := hD
        refine lv_aload_n hx hb d_Sha_mixWords_313 rfl (lv_at hl 9 rfl) ?_
        refine n_get C fg_Sha_9 hP 0 rfl rfl d_Sha_mixWords_314 ?_
        refine lv_bipush (v := nI 7) hx hb d_Sha_mixWords_317 (by decide) ?_
        refine lv_dup2_11 hx hb d_Sha_mixWords_319 rfl rfl ?_
        refine n_iald C hP 1 rfl 7 rfl (by omega) (by omega) d_Sha_mixWords_320 ?_
        refine tope (z := st 7) (rfl) ?_
        refine lv_iload hx hb d_Sha_mixWords_321 (lv_at hl 1 rfl) ?_
        refine lv_iadd hx hb d_Sha_mixWords_323 ?_
        refine n_iast C hP hD hS 1 rfl 7 rfl (by omega) (by omega) d_Sha_mixWords_324 (fun H locs hP hD hS => ?_)
        have hP : va_P E.1 clz [(h0, .inr (4, [.ref a1, .ref a2])), (a1, .inl (E.2.2.1, 8, .inl (upd (upd (upd (upd (upd (upd (upd (upd st 0 ((st 0) + va)) 1 ((st 1) + vb)) 2 ((st 2) + vc)) 3 ((st 3) + vd)) 4 ((st 4) + ve)) 5 ((st 5) + vf)) 6 ((st 6) + vg)) 7 ((st 7) + vh)))), (a2, .inl (E.2.2.1, 64, .inl wv))] H := hP
        have hD : va_D A [(h0, .inr (4, [.ref a1, .ref a2])), (a1, .inl (E.2.2.1, 8, .inl (upd (upd (upd (upd (upd (upd (upd (upd st 0 ((st 0) + va)) 1 ((st 1) + vb)) 2 ((st 2) + vc)) 3 ((st 3) + vd)) 4 ((st 4) + ve)) 5 ((st 5) + vf)) 6 ((st 6) + vg)) 7 ((st 7) + vh)))), (a2, .inl (E.2.2.1, 64, .inl wv))] := hD
        exact kret [(h0, .inr (4, [.ref a1, .ref a2])), (a1, .inl (E.2.2.1, 8, .inl (upd (upd (upd (upd (upd (upd (upd (upd st 0 ((st 0) + va)) 1 ((st 1) + vb)) 2 ((st 2) + vc)) 3 ((st 3) + vd)) 4 ((st 4) + ve)) 5 ((st 5) + vf)) 6 ((st 6) + vg)) 7 ((st 7) + vh)))), (a2, .inl (E.2.2.1, 64, .inl wv))] _ _ _ _ d_Sha_mixWords_325 (by unfold blkF; rw [hinv]; rfl) rfl hP hS
      · refine lv_iload hx hb d_Sha_mixWords_73 (lv_at hl 4 rfl) ?_
        refine lv_bipush (v := nI 6) hx hb d_Sha_mixWords_75 (by decide) ?_
        refine lv_iushr (v := us ve (nI 6)) hx hb d_Sha_mixWords_77 rfl ?_
        refine lv_iload hx hb d_Sha_mixWords_78 (lv_at hl 4 rfl) ?_
        refine lv_bipush (v := nI 26) hx hb d_Sha_mixWords_80 (by decide) ?_
        refine lv_ishl hx hb d_Sha_mixWords_82 ?_
        refine lv_ior hx hb d_Sha_mixWords_83 ?_
        refine lv_iload hx hb d_Sha_mixWords_84 (lv_at hl 4 rfl) ?_
        refine lv_bipush (v := nI 11) hx hb d_Sha_mixWords_86 (by decide) ?_
        refine lv_iushr (v := us ve (nI 11)) hx hb d_Sha_mixWords_88 rfl ?_
        refine lv_iload hx hb d_Sha_mixWords_89 (lv_at hl 4 rfl) ?_
        refine lv_bipush (v := nI 21) hx hb d_Sha_mixWords_91 (by decide) ?_
        refine lv_ishl hx hb d_Sha_mixWords_93 ?_
        refine lv_ior hx hb d_Sha_mixWords_94 ?_
        refine lv_ixor hx hb d_Sha_mixWords_95 ?_
        refine lv_iload hx hb d_Sha_mixWords_96 (lv_at hl 4 rfl) ?_
        refine lv_bipush (v := nI 25) hx hb d_Sha_mixWords_98 (by decide) ?_
        refine lv_iushr (v := us ve (nI 25)) hx hb d_Sha_mixWords_100 rfl ?_
        refine lv_iload hx hb d_Sha_mixWords_101 (lv_at hl 4 rfl) ?_
        refine lv_bipush (v := nI 7) hx hb d_Sha_mixWords_103 (by decide) ?_
        refine lv_ishl hx hb d_Sha_mixWords_105 ?_
        refine lv_ior hx hb d_Sha_mixWords_106 ?_
        refine lv_ixor hx hb d_Sha_mixWords_107 ?_
        refine tope (z := bg1 ve) (rfl) ?_
        refine lv_istore (lv' := [(10, .int (bg1 ve)), (9, .int (nI i)), (8, .int vh), (7, .int vg), (6, .int vf), (5, .int ve), (4, .int vd), (3, .int vc), (2, .int vb), (1, .int va), (0, .ref h0)]) hx hb d_Sha_mixWords_108 hl (by decide) rfl (fun ls hl => ?_)
        refine lv_iload hx hb d_Sha_mixWords_110 (lv_at hl 5 rfl) ?_
        refine lv_iload hx hb d_Sha_mixWords_112 (lv_at hl 4 rfl) ?_
        refine lv_iand hx hb d_Sha_mixWords_114 ?_
        refine lv_iload hx hb d_Sha_mixWords_115 (lv_at hl 5 rfl) ?_
        refine lv_iconst (v := (-1)) hx hb d_Sha_mixWords_117 (by decide) ?_
        refine lv_ixor hx hb d_Sha_mixWords_118 ?_
        refine lv_iload hx hb d_Sha_mixWords_119 (lv_at hl 3 rfl) ?_
        refine lv_iand hx hb d_Sha_mixWords_121 ?_
        refine lv_ixor hx hb d_Sha_mixWords_122 ?_
        refine tope (z := chs ve vf vg) (rfl) ?_
        refine lv_istore (lv' := [(11, .int (chs ve vf vg)), (10, .int (bg1 ve)), (9, .int (nI i)), (8, .int vh), (7, .int vg), (6, .int vf), (5, .int ve), (4, .int vd), (3, .int vc), (2, .int vb), (1, .int va), (0, .ref h0)]) hx hb d_Sha_mixWords_123 hl (by decide) rfl (fun ls hl => ?_)
        refine lv_iload hx hb d_Sha_mixWords_125 (lv_at hl 3 rfl) ?_
        refine lv_iload hx hb d_Sha_mixWords_127 (lv_at hl 1 rfl) ?_
        refine lv_iadd hx hb d_Sha_mixWords_129 ?_
        refine lv_iload hx hb d_Sha_mixWords_130 (lv_at hl 0 rfl) ?_
        refine lv_iadd hx hb d_Sha_mixWords_132 ?_
        refine n_gets C fl_Sha_41 C.2.2.2.2.2.2.1.2.1.1 hS d_Sha_mixWords_133 ?_
        refine lv_iload hx hb d_Sha_mixWords_136 (lv_at hl 2 rfl) ?_
        refine n_tab (t := E.2.2.2.2.2.1) C (C.2.2.2.2.2.2.1.2.1.2) i rfl (by omega) (by omega) hS d_Sha_mixWords_138 ?_
        refine lv_iadd hx hb d_Sha_mixWords_139 ?_
        refine lv_aload_n hx hb d_Sha_mixWords_140 rfl (lv_at hl 11 rfl) ?_
        refine n_get C fg_Sha_15 hP 0 rfl rfl d_Sha_mixWords_141 ?_
        refine lv_iload hx hb d_Sha_mixWords_144 (lv_at hl 2 rfl) ?_
        refine n_iald C hP 2 rfl i rfl (by omega) (by omega) d_Sha_mixWords_146 ?_
        refine lv_iadd hx hb d_Sha_mixWords_147 ?_
        refine lv_istore (lv' := [(12, .int ((((vh + (bg1 ve)) + (chs ve vf vg)) + (shK i)) + (wv i))), (11, .int (chs ve vf vg)), (10, .int (bg1 ve)), (9, .int (nI i)), (8, .int vh), (7, .int vg), (6, .int vf), (5, .int ve), (4, .int vd), (3, .int vc), (2, .int vb), (1, .int va), (0, .ref h0)]) hx hb d_Sha_mixWords_148 hl (by decide) rfl (fun ls hl => ?_)
        refine lv_iload_n hx hb d_Sha_mixWords_150 rfl (lv_at hl 11 rfl) ?_
        refine lv_iconst (v := nI 2) hx hb d_Sha_mixWords_151 (by decide) ?_
        refine lv_iushr (v := us va (nI 2)) hx hb d_Sha_mixWords_152 rfl ?_
        refine lv_iload_n hx hb d_Sha_mixWords_153 rfl (lv_at hl 11 rfl) ?_
        refine lv_bipush (v := nI 30) hx hb d_Sha_mixWords_154 (by decide) ?_
        refine lv_ishl hx hb d_Sha_mixWords_156 ?_
        refine lv_ior hx hb d_Sha_mixWords_157 ?_
        refine lv_iload_n hx hb d_Sha_mixWords_158 rfl (lv_at hl 11 rfl) ?_
        refine lv_bipush (v := nI 13) hx hb d_Sha_mixWords_159 (by decide) ?_
        refine lv_iushr (v := us va (nI 13)) hx hb d_Sha_mixWords_161 rfl ?_
        refine lv_iload_n hx hb d_Sha_mixWords_162 rfl (lv_at hl 11 rfl) ?_
        refine lv_bipush (v := nI 19) hx hb d_Sha_mixWords_163 (by decide) ?_
        refine lv_ishl hx hb d_Sha_mixWords_165 ?_
        refine lv_ior hx hb d_Sha_mixWords_166 ?_
        refine lv_ixor hx hb d_Sha_mixWords_167 ?_
        refine lv_iload_n hx hb d_Sha_mixWords_168 rfl (lv_at hl 11 rfl) ?_
        refine lv_bipush (v := nI 22) hx hb d_Sha_mixWords_169 (by decide) ?_
        refine lv_iushr (v := us va (nI 22)) hx hb d_Sha_mixWords_171 rfl ?_
        refine lv_iload_n hx hb d_Sha_mixWords_172 rfl (lv_at hl 11 rfl) ?_
        refine lv_bipush (v := nI 10) hx hb d_Sha_mixWords_173 (by decide) ?_
        refine lv_ishl hx hb d_Sha_mixWords_175 ?_
        refine lv_ior hx hb d_Sha_mixWords_176 ?_
        refine lv_ixor hx hb d_Sha_mixWords_177 ?_
        refine tope (z := bg0 va) (rfl) ?_
        refine lv_istore (lv' := [(13, .int (bg0 va)), (12, .int ((((vh + (bg1 ve)) + (chs ve vf vg)) + (shK i)) + (wv i))), (11, .int (chs ve vf vg)), (10, .int (bg1 ve)), (9, .int (nI i)), (8, .int vh), (7, .int vg), (6, .int vf), (5, .int ve), (4, .int vd), (3, .int vc), (2, .int vb), (1, .int va), (0, .ref h0)]) hx hb d_Sha_mixWords_178 hl (by decide) rfl (fun ls hl => ?_)
        refine lv_iload_n hx hb d_Sha_mixWords_180 rfl (lv_at hl 12 rfl) ?_
        refine lv_iload_n hx hb d_Sha_mixWords_181 rfl (lv_at hl 11 rfl) ?_
        refine lv_iand hx hb d_Sha_mixWords_182 ?_
        refine lv_iload_n hx hb d_Sha_mixWords_183 rfl (lv_at hl 12 rfl) ?_
        refine lv_iload_n hx hb d_Sha_mixWords_184 rfl (lv_at hl 10 rfl) ?_
        refine lv_iand hx hb d_Sha_mixWords_185 ?_
        refine lv_ixor hx hb d_Sha_mixWords_186 ?_
        refine lv_iload_n hx hb d_Sha_mixWords_187 rfl (lv_at hl 11 rfl) ?_
        refine lv_iload_n hx hb d_Sha_mixWords_188 rfl (lv_at hl 10 rfl) ?_
        refine lv_iand hx hb d_Sha_mixWords_189 ?_
        refine lv_ixor hx hb d_Sha_mixWords_190 ?_
        refine tope (z := mjs va vb vc) (rfl) ?_
        refine lv_istore (lv' := [(14, .int (mjs va vb vc)), (13, .int (bg0 va)), (12, .int ((((vh + (bg1 ve)) + (chs ve vf vg)) + (shK i)) + (wv i))), (11, .int (chs ve vf vg)), (10, .int (bg1 ve)), (9, .int (nI i)), (8, .int vh), (7, .int vg), (6, .int vf), (5, .int ve), (4, .int vd), (3, .int vc), (2, .int vb), (1, .int va), (0, .ref h0)]) hx hb d_Sha_mixWords_191 hl (by decide) rfl (fun ls hl => ?_)
        refine lv_iload hx hb d_Sha_mixWords_193 (lv_at hl 1 rfl) ?_
        refine lv_iload hx hb d_Sha_mixWords_195 (lv_at hl 0 rfl) ?_
        refine lv_iadd hx hb d_Sha_mixWords_197 ?_
        refine lv_istore (lv' := [(15, .int ((bg0 va) + (mjs va vb vc))), (14, .int (mjs va vb vc)), (13, .int (bg0 va)), (12, .int ((((vh + (bg1 ve)) + (chs ve vf vg)) + (shK i)) + (wv i))), (11, .int (chs ve vf vg)), (10, .int (bg1 ve)), (9, .int (nI i)), (8, .int vh), (7, .int vg), (6, .int vf), (5, .int ve), (4, .int vd), (3, .int vc), (2, .int vb), (1, .int va), (0, .ref h0)]) hx hb d_Sha_mixWords_198 hl (by decide) rfl (fun ls hl => ?_)
        refine lv_iload hx hb d_Sha_mixWords_200 (lv_at hl 8 rfl) ?_
        refine lv_istore (lv' := [(8, .int vg), (15, .int ((bg0 va) + (mjs va vb vc))), (14, .int (mjs va vb vc)), (13, .int (bg0 va)), (12, .int ((((vh + (bg1 ve)) + (chs ve vf vg)) + (shK i)) + (wv i))), (11, .int (chs ve vf vg)), (10, .int (bg1 ve)), (9, .int (nI i)), (7, .int vg), (6, .int vf), (5, .int ve), (4, .int vd), (3, .int vc), (2, .int vb), (1, .int va), (0, .ref h0)]) hx hb d_Sha_mixWords_202 hl (by decide) rfl (fun ls hl => ?_)
        refine lv_iload hx hb d_Sha_mixWords_204 (lv_at hl 9 rfl) ?_
        refine lv_istore (lv' := [(7, .int vf), (8, .int vg), (15, .int ((bg0 va) + (mjs va vb vc))), (14, .int (mjs va vb vc)), (13, .int (bg0 va)), (12, .int ((((vh + (bg1 ve)) + (chs ve vf vg)) + (shK i)) + (wv i))), (11, .int (chs ve vf vg)), (10, .int (bg1 ve)), (9, .int (nI i)), (6, .int vf), (5, .int ve), (4, .int vd), (3, .int vc), (2, .int vb), (1, .int va), (0, .ref h0)]) hx hb d_Sha_mixWords_206 hl (by decide) rfl (fun ls hl => ?_)
        refine lv_iload hx hb d_Sha_mixWords_208 (lv_at hl 10 rfl) ?_
        refine lv_istore (lv' := [(6, .int ve), (7, .int vf), (8, .int vg), (15, .int ((bg0 va) + (mjs va vb vc))), (14, .int (mjs va vb vc)), (13, .int (bg0 va)), (12, .int ((((vh + (bg1 ve)) + (chs ve vf vg)) + (shK i)) + (wv i))), (11, .int (chs ve vf vg)), (10, .int (bg1 ve)), (9, .int (nI i)), (5, .int ve), (4, .int vd), (3, .int vc), (2, .int vb), (1, .int va), (0, .ref h0)]) hx hb d_Sha_mixWords_210 hl (by decide) rfl (fun ls hl => ?_)
        refine lv_iload hx hb d_Sha_mixWords_212 (lv_at hl 11 rfl) ?_
        refine lv_iload hx hb d_Sha_mixWords_214 (lv_at hl 6 rfl) ?_
        refine lv_iadd hx hb d_Sha_mixWords_216 ?_
        refine lv_istore (lv' := [(5, .int (vd + ((((vh + (bg1 ve)) + (chs ve vf vg)) + (shK i)) + (wv i)))), (6, .int ve), (7, .int vf), (8, .int vg), (15, .int ((bg0 va) + (mjs va vb vc))), (14, .int (mjs va vb vc)), (13, .int (bg0 va)), (12, .int ((((vh + (bg1 ve)) + (chs ve vf vg)) + (shK i)) + (wv i))), (11, .int (chs ve vf vg)), (10, .int (bg1 ve)), (9, .int (nI i)), (4, .int vd), (3, .int vc), (2, .int vb), (1, .int va), (0, .ref h0)]) hx hb d_Sha_mixWords_217 hl (by decide) rfl (fun ls hl => ?_)
        refine lv_iload_n hx hb d_Sha_mixWords_219 rfl (lv_at hl 12 rfl) ?_
        refine lv_istore (lv' := [(4, .int vc), (5, .int (vd + ((((vh + (bg1 ve)) + (chs ve vf vg)) + (shK i)) + (wv i)))), (6, .int ve), (7, .int vf), (8, .int vg), (15, .int ((bg0 va) + (mjs va vb vc))), (14, .int (mjs va vb vc)), (13, .int (bg0 va)), (12, .int ((((vh + (bg1 ve)) + (chs ve vf vg)) + (shK i)) + (wv i))), (11, .int (chs ve vf vg)), (10, .int (bg1 ve)), (9, .int (nI i)), (3, .int vc), (2, .int vb), (1, .int va), (0, .ref h0)]) hx hb d_Sha_mixWords_220 hl (by decide) rfl (fun ls hl => ?_)
        refine lv_iload_n hx hb d_Sha_mixWords_222 rfl (lv_at hl 13 rfl) ?_
        refine lv_istore_n (lv' := [(3, .int vb), (4, .int vc), (5, .int (vd + ((((vh + (bg1 ve)) + (chs ve vf vg)) + (shK i)) + (wv i)))), (6, .int ve), (7, .int vf), (8, .int vg), (15, .int ((bg0 va) + (mjs va vb vc))), (14, .int (mjs va vb vc)), (13, .int (bg0 va)), (12, .int ((((vh + (bg1 ve)) + (chs ve vf vg)) + (shK i)) + (wv i))), (11, .int (chs ve vf vg)), (10, .int (bg1 ve)), (9, .int (nI i)), (2, .int vb), (1, .int va), (0, .ref h0)]) hx hb d_Sha_mixWords_223 rfl hl (by decide) rfl (fun ls hl => ?_)
        refine lv_iload_n hx hb d_Sha_mixWords_224 rfl (lv_at hl 14 rfl) ?_
        refine lv_istore_n (lv' := [(2, .int va), (3, .int vb), (4, .int vc), (5, .int (vd + ((((vh + (bg1 ve)) + (chs ve vf vg)) + (shK i)) + (wv i)))), (6, .int ve), (7, .int vf), (8, .int vg), (15, .int ((bg0 va) + (mjs va vb vc))), (14, .int (mjs va vb vc)), (13, .int (bg0 va)), (12, .int ((((vh + (bg1 ve)) + (chs ve vf vg)) + (shK i)) + (wv i))), (11, .int (chs ve vf vg)), (10, .int (bg1 ve)), (9, .int (nI i)), (1, .int va), (0, .ref h0)]) hx hb d_Sha_mixWords_225 rfl hl (by decide) rfl (fun ls hl => ?_)
        refine lv_iload hx hb d_Sha_mixWords_226 (lv_at hl 10 rfl) ?_
        refine lv_iload hx hb d_Sha_mixWords_228 (lv_at hl 7 rfl) ?_
        refine lv_iadd hx hb d_Sha_mixWords_230 ?_
        refine lv_istore_n (lv' := [(1, .int (((((vh + (bg1 ve)) + (chs ve vf vg)) + (shK i)) + (wv i)) + ((bg0 va) + (mjs va vb vc)))), (2, .int va), (3, .int vb), (4, .int vc), (5, .int (vd + ((((vh + (bg1 ve)) + (chs ve vf vg)) + (shK i)) + (wv i)))), (6, .int ve), (7, .int vf), (8, .int vg), (15, .int ((bg0 va) + (mjs va vb vc))), (14, .int (mjs va vb vc)), (13, .int (bg0 va)), (12, .int ((((vh + (bg1 ve)) + (chs ve vf vg)) + (shK i)) + (wv i))), (11, .int (chs ve vf vg)), (10, .int (bg1 ve)), (9, .int (nI i)), (0, .ref h0)]) hx hb d_Sha_mixWords_231 rfl hl (by decide) rfl (fun ls hl => ?_)
        refine lv_iinc (k := 14) (v := nI (i + 1)) (lv' := [(9, .int (nI (i + 1))), (1, .int (((((vh + (bg1 ve)) + (chs ve vf vg)) + (shK i)) + (wv i)) + ((bg0 va) + (mjs va vb vc)))), (2, .int va), (3, .int vb), (4, .int vc), (5, .int (vd + ((((vh + (bg1 ve)) + (chs ve vf vg)) + (shK i)) + (wv i)))), (6, .int ve), (7, .int vf), (8, .int vg), (15, .int ((bg0 va) + (mjs va vb vc))), (14, .int (mjs va vb vc)), (13, .int (bg0 va)), (12, .int ((((vh + (bg1 ve)) + (chs ve vf vg)) + (shK i)) + (wv i))), (11, .int (chs ve vf vg)), (10, .int (bg1 ve)), (0, .ref h0)]) hx hb d_Sha_mixWords_232 hl rfl (iincK i 1) (by decide) rfl (fun ls hl => ?_)
        refine lv_goto hx hb d_Sha_mixWords_235 rfl ?_
        exact ih66 (i + 1) (((((vh + bg1 ve) + chs ve vf vg) + shK i) + wv i) + (bg0 va + mjs va vb vc)) va vb vc (vd + ((((vh + bg1 ve) + chs ve vf vg) + shK i) + wv i)) ve vf vg H locs ls (by omega) (by omega) (by show rd1 (shK i) (wv i) (mx wv (st 0, st 1, st 2, st 3, st 4, st 5, st 6, st 7) i) = _; rw [hinv]; rfl) hP hD hS (lv_sub hl [0, 8, 7, 6, 5, 4, 3, 2, 1, 15] rfl)
  exact hloop66 (64 + 1) 0 (st 0) (st 1) (st 2) (st 3) (st 4) (st 5) (st 6) (st 7) H locs ls (by omega) (by omega) (rfl) hP hD hS (lv_sub hl [0, 1, 2, 3, 4, 5, 6, 7, 8, 9] rfl)

theorem pv_lt {b : Nat → Int32} {n p : Nat} (h : p < n) : pv b n p = (b p &&& nI 255) := if_pos h
theorem pv_eq {b : Nat → Int32} {n p : Nat} (h : p = n) : pv b n p = nI 128 := by subst h; unfold pv; rw [if_neg (by omega), if_pos rfl]
theorem pv_gt {b : Nat → Int32} {n p : Nat} (h : n < p) : pv b n p = nI 0 := by unfold pv; rw [if_neg (by omega), if_neg (by omega)]

set_option maxHeartbeats 4000000 in
set_option maxRecDepth 100000 in
theorem c_Sha_load (l : Launch) (E : En) (h0 a1 a2 g0 Mg o n j : Nat) (wv g : Nat → Int32) (hn : o + n ≤ Mg) (hM : Mg < 2 ^ 30) (hj : j < 2 ^ 20) : CtV l y_Sha_loadWords b_Sha_loadWords 9 (rmd 0) E [.ref h0, .ref g0, .int (nI o), .int (nI n), .int (nI j)] [(h0, .inr (4, [.ref a1, .ref a2])), (a2, .inl (E.2.2.1, 64, .inl wv)), (g0, .inl (E.2.1, Mg, .inl g))] (fun w => w = [(h0, .inr (4, [.ref a1, .ref a2])), (a2, .inl (E.2.2.1, 64, .inl (ldW (fun q => g (o + q)) n j wv 64))), (g0, .inl (E.2.1, Mg, .inl g))]) := by
  refine CtV.of (by decide) (Nat.le_of_ble_eq_true rfl) ?_
  intro p e s m args below meth c A Q H locs ls C hP hD hS hl kret
  have hx := C.1
  have hb := C.2.1
  have hl : lv_has ls 9 [(0, .ref h0), (1, .ref g0), (2, .int (nI o)), (3, .int (nI n)), (4, .int (nI j))] := hl
  refine lv_iconst (v := nI 0) hx hb d_Sha_loadWords_0 (by decide) ?_
  refine lv_istore (lv' := [(5, .int (nI 0)), (0, .ref h0), (1, .ref g0), (2, .int (nI o)), (3, .int (nI n)), (4, .int (nI j))]) hx hb d_Sha_loadWords_1 hl (by decide) rfl (fun ls hl => ?_)
  have hloop3 : ∀ (dd : Nat) (i : Nat) (H : Heap) (locs : List Loc) (ls : Array Slot), 64 - i < dd → (i ≤ 64) → va_P E.1 clz [(h0, .inr (4, [.ref a1, .ref a2])), (a2, .inl (E.2.2.1, 64, .inl (ldW (fun q => g (o + q)) n j wv i))), (g0, .inl (E.2.1, Mg, .inl g))] H → va_D A [(h0, .inr (4, [.ref a1, .ref a2])), (a2, .inl (E.2.2.1, 64, .inl (ldW (fun q => g (o + q)) n j wv i))), (g0, .inl (E.2.1, Mg, .inl g))] → va_S A s.heap H locs → lv_has ls 9 [(5, .int (nI i)), (4, .int (nI j)), (3, .int (nI n)), (2, .int (nI o)), (1, .ref g0), (0, .ref h0)] → W p l e (rmd 0) s m args below meth c H locs 0 0 Q (F0 m 3 ls []) := by
    intro dd
    induction dd with
    | zero => intro i H locs ls hmz; exact absurd hmz (Nat.not_lt_zero _)
    | succ dd ih3 =>
      intro i H locs ls hmz hi hP hD hS hl
      refine lv_iload hx hb d_Sha_loadWords_3 (lv_at hl 0 rfl) ?_
      refine lv_bipush (v := nI 64) hx hb d_Sha_loadWords_5 (by decide) ?_
      refine j_ge C i 64 rfl rfl (by omega) (by omega) d_Sha_loadWords_7 rfl (fun hc1 => ?_) (fun hc1 => ?_)
      · obtain rfl : i = 64 := by omega
        exact kret [(h0, .inr (4, [.ref a1, .ref a2])), (a2, .inl (E.2.2.1, 64, .inl (ldW (fun q => g (o + q)) n j wv 64))), (g0, .inl (E.2.1, Mg, .inl g))] _ _ _ _ d_Sha_loadWords_88 (rfl) rfl hP hS
      · refine lv_iload hx hb d_Sha_loadWords_10 (lv_at hl 1 rfl) ?_
        refine lv_bipush (v := nI 64) hx hb d_Sha_loadWords_12 (by decide) ?_
        refine lv_imul hx hb d_Sha_loadWords_14 ?_
        refine tope (z := nI (j * 64)) (pk_mul _ _) ?_
        refine lv_iload hx hb d_Sha_loadWords_15 (lv_at hl 0 rfl) ?_
        refine lv_iadd hx hb d_Sha_loadWords_17 ?_
        refine tope (z := nI ((j * 64) + i)) (nI_add _ _) ?_
        refine lv_istore (lv' := [(6, .int (nI ((j * 64) + i))), (5, .int (nI i)), (4, .int (nI j)), (3, .int (nI n)), (2, .int (nI o)), (1, .ref g0), (0, .ref h0)]) hx hb d_Sha_loadWords_18 hl (by decide) rfl (fun ls hl => ?_)
        refine lv_iload hx hb d_Sha_loadWords_20 (lv_at hl 0 rfl) ?_
        refine lv_iload_n hx hb d_Sha_loadWords_22 rfl (lv_at hl 3 rfl) ?_
        refine j_ne C ((j * 64) + i) n rfl rfl (by omega) (by omega) d_Sha_loadWords_23 rfl (fun hc2 => ?_) (fun hc2 => ?_)
        · refine lv_iconst (v := nI 0) hx hb d_Sha_loadWords_32 (by decide) ?_
          refine lv_istore (lv' := [(7, .int (nI 0)), (6, .int (nI ((j * 64) + i))), (5, .int (nI i)), (4, .int (nI j)), (3, .int (nI n)), (2, .int (nI o)), (1, .ref g0), (0, .ref h0)]) hx hb d_Sha_loadWords_33 hl (by decide) rfl (fun ls hl => ?_)
          refine lv_iload hx hb d_Sha_loadWords_35 (lv_at hl 1 rfl) ?_
          refine lv_iload_n hx hb d_Sha_loadWords_37 rfl (lv_at hl 4 rfl) ?_
          refine j_ge C ((j * 64) + i) n rfl rfl (by omega) (by omega) d_Sha_loadWords_38 rfl (fun hc3 => ?_) (fun hc3 => ?_)
          · refine lv_iload hx hb d_Sha_loadWords_54 (lv_at hl 0 rfl) ?_
            refine tope (z := pv (fun q => g (o + q)) n (j * 64 + i)) (by first | exact (pv_lt (b := (fun q => g (o + q))) (n := n) (p := j * 64 + i) (by omega)).symm | exact (pv_eq (b := (fun q => g (o + q))) (n := n) (p := j * 64 + i) (by omega)).symm | exact (pv_gt (b := (fun q => g (o + q))) (n := n) (p := j * 64 + i) (by omega)).symm) ?_
            refine lv_istore (lv' := [(8, .int (pv (fun q => g (o + q)) n (j * 64 + i))), (7, .int (nI 0)), (6, .int (nI ((j * 64) + i))), (5, .int (nI i)), (4, .int (nI j)), (3, .int (nI n)), (2, .int (nI o)), (1, .ref g0), (0, .ref h0)]) hx hb d_Sha_loadWords_56 hl (by decide) rfl (fun ls hl => ?_)
            refine lv_aload_n hx hb d_Sha_loadWords_58 rfl (lv_at hl 8 rfl) ?_
            refine n_get C fg_Sha_15 hP 0 rfl rfl d_Sha_loadWords_59 ?_
            refine lv_iload hx hb d_Sha_loadWords_62 (lv_at hl 3 rfl) ?_
            refine lv_iconst (v := nI 4) hx hb d_Sha_loadWords_64 (by decide) ?_
            refine lv_idiv hx hb d_Sha_loadWords_65 (nI_ne0 (by omega) (by omega)) ?_
            refine tope (z := nI (i / 4)) (pk_div (by omega) (by omega) (by omega)) ?_
            refine lv_aload_n hx hb d_Sha_loadWords_66 rfl (lv_at hl 8 rfl) ?_
            refine n_get C fg_Sha_15 hP 0 rfl rfl d_Sha_loadWords_67 ?_
            refine lv_iload hx hb d_Sha_loadWords_70 (lv_at hl 3 rfl) ?_
            refine lv_iconst (v := nI 4) hx hb d_Sha_loadWords_72 (by decide) ?_
            refine lv_idiv hx hb d_Sha_loadWords_73 (nI_ne0 (by omega) (by omega)) ?_
            refine tope (z := nI (i / 4)) (pk_div (by omega) (by omega) (by omega)) ?_
            refine n_iald C hP 1 rfl (i / 4) rfl (by omega) (by omega) d_Sha_loadWords_74 ?_
            refine lv_bipush (v := nI 8) hx hb d_Sha_loadWords_75 (by decide) ?_
            refine lv_ishl hx hb d_Sha_loadWords_77 ?_
            refine lv_iload hx hb d_Sha_loadWords_78 (lv_at hl 0 rfl) ?_
            refine lv_ior hx hb d_Sha_loadWords_80 ?_
            refine n_iast C hP hD hS 1 rfl (i / 4) rfl (by omega) (by omega) d_Sha_loadWords_81 (fun H locs hP hD hS => ?_)
            have hP : va_P E.1 clz [(h0, .inr (4, [.ref a1, .ref a2])), (a2, .inl (E.2.2.1, 64, .inl (upd (ldW (fun q => g (o + q)) n j wv i) (i / 4) ((sl ((ldW (fun q => g (o + q)) n j wv i) (i / 4)) (nI 8)) ||| (pv (fun q => g (o + q)) n (j * 64 + i)))))), (g0, .inl (E.2.1, Mg, .inl g))] H := hP
            have hD : va_D A [(h0, .inr (4, [.ref a1, .ref a2])), (a2, .inl (E.2.2.1, 64, .inl (upd (ldW (fun q => g (o + q)) n j wv i) (i / 4) ((sl ((ldW (fun q => g (o + q)) n j wv i) (i / 4)) (nI 8)) ||| (pv (fun q => g (o + q)) n (j * 64 + i)))))), (g0, .inl (E.2.1, Mg, .inl g))] := hD
            have hP : va_P E.1 clz [(h0, .inr (4, [.ref a1, .ref a2])), (a2, .inl (E.2.2.1, 64, .inl (ldW (fun q => g (o + q)) n j wv (i + 1)))), (g0, .inl (E.2.1, Mg, .inl g))] H := hP
            have hD : va_D A [(h0, .inr (4, [.ref a1, .ref a2])), (a2, .inl (E.2.2.1, 64, .inl (ldW (fun q => g (o + q)) n j wv (i + 1)))), (g0, .inl (E.2.1, Mg, .inl g))] := hD
            refine lv_iinc (k := 3) (v := nI (i + 1)) (lv' := [(5, .int (nI (i + 1))), (8, .int (pv (fun q => g (o + q)) n (j * 64 + i))), (7, .int (nI 0)), (6, .int (nI ((j * 64) + i))), (4, .int (nI j)), (3, .int (nI n)), (2, .int (nI o)), (1, .ref g0), (0, .ref h0)]) hx hb d_Sha_loadWords_82 hl rfl (iincK i 1) (by decide) rfl (fun ls hl => ?_)
            refine lv_goto hx hb d_Sha_loadWords_85 rfl ?_
            exact ih3 (i + 1) H locs ls (by omega) (by omega) hP hD hS (lv_sub hl [0, 4, 5, 6, 7, 8] rfl)
          · refine lv_aload_n hx hb d_Sha_loadWords_41 rfl (lv_at hl 6 rfl) ?_
            refine lv_iload_n hx hb d_Sha_loadWords_42 rfl (lv_at hl 5 rfl) ?_
            refine lv_iload hx hb d_Sha_loadWords_43 (lv_at hl 1 rfl) ?_
            refine lv_iadd hx hb d_Sha_loadWords_45 ?_
            refine tope (z := nI (o + ((j * 64) + i))) (nI_add _ _) ?_
            refine n_bald C hP 2 rfl (o + ((j * 64) + i)) rfl (by omega) (by omega) d_Sha_loadWords_46 ?_
            refine lv_sipush (v := nI 255) hx hb d_Sha_loadWords_47 (by decide) ?_
            refine lv_iand hx hb d_Sha_loadWords_50 ?_
            refine lv_goto hx hb d_Sha_loadWords_51 rfl ?_
            refine tope (z := pv (fun q => g (o + q)) n (j * 64 + i)) (by first | exact (pv_lt (b := (fun q => g (o + q))) (n := n) (p := j * 64 + i) (by omega)).symm | exact (pv_eq (b := (fun q => g (o + q))) (n := n) (p := j * 64 + i) (by omega)).symm | exact (pv_gt (b := (fun q => g (o + q))) (n := n) (p := j * 64 + i) (by omega)).symm) ?_
            refine lv_istore (lv' := [(8, .int (pv (fun q => g (o + q)) n (j * 64 + i))), (7, .int (nI 0)), (6, .int (nI ((j * 64) + i))), (5, .int (nI i)), (4, .int (nI j)), (3, .int (nI n)), (2, .int (nI o)), (1, .ref g0), (0, .ref h0)]) hx hb d_Sha_loadWords_56 hl (by decide) rfl (fun ls hl => ?_)
            refine lv_aload_n hx hb d_Sha_loadWords_58 rfl (lv_at hl 8 rfl) ?_
            refine n_get C fg_Sha_15 hP 0 rfl rfl d_Sha_loadWords_59 ?_
            refine lv_iload hx hb d_Sha_loadWords_62 (lv_at hl 3 rfl) ?_
            refine lv_iconst (v := nI 4) hx hb d_Sha_loadWords_64 (by decide) ?_
            refine lv_idiv hx hb d_Sha_loadWords_65 (nI_ne0 (by omega) (by omega)) ?_
            refine tope (z := nI (i / 4)) (pk_div (by omega) (by omega) (by omega)) ?_
            refine lv_aload_n hx hb d_Sha_loadWords_66 rfl (lv_at hl 8 rfl) ?_
            refine n_get C fg_Sha_15 hP 0 rfl rfl d_Sha_loadWords_67 ?_
            refine lv_iload hx hb d_Sha_loadWords_70 (lv_at hl 3 rfl) ?_
            refine lv_iconst (v := nI 4) hx hb d_Sha_loadWords_72 (by decide) ?_
            refine lv_idiv hx hb d_Sha_loadWords_73 (nI_ne0 (by omega) (by omega)) ?_
            refine tope (z := nI (i / 4)) (pk_div (by omega) (by omega) (by omega)) ?_
            refine n_iald C hP 1 rfl (i / 4) rfl (by omega) (by omega) d_Sha_loadWords_74 ?_
            refine lv_bipush (v := nI 8) hx hb d_Sha_loadWords_75 (by decide) ?_
            refine lv_ishl hx hb d_Sha_loadWords_77 ?_
            refine lv_iload hx hb d_Sha_loadWords_78 (lv_at hl 0 rfl) ?_
            refine lv_ior hx hb d_Sha_loadWords_80 ?_
            refine n_iast C hP hD hS 1 rfl (i / 4) rfl (by omega) (by omega) d_Sha_loadWords_81 (fun H locs hP hD hS => ?_)
            have hP : va_P E.1 clz [(h0, .inr (4, [.ref a1, .ref a2])), (a2, .inl (E.2.2.1, 64, .inl (upd (ldW (fun q => g (o + q)) n j wv i) (i / 4) ((sl ((ldW (fun q => g (o + q)) n j wv i) (i / 4)) (nI 8)) ||| (pv (fun q => g (o + q)) n (j * 64 + i)))))), (g0, .inl (E.2.1, Mg, .inl g))] H := hP
            have hD : va_D A [(h0, .inr (4, [.ref a1, .ref a2])), (a2, .inl (E.2.2.1, 64, .inl (upd (ldW (fun q => g (o + q)) n j wv i) (i / 4) ((sl ((ldW (fun q => g (o + q)) n j wv i) (i / 4)) (nI 8)) ||| (pv (fun q => g (o + q)) n (j * 64 + i)))))), (g0, .inl (E.2.1, Mg, .inl g))] := hD
            have hP : va_P E.1 clz [(h0, .inr (4, [.ref a1, .ref a2])), (a2, .inl (E.2.2.1, 64, .inl (ldW (fun q => g (o + q)) n j wv (i + 1)))), (g0, .inl (E.2.1, Mg, .inl g))] H := hP
            have hD : va_D A [(h0, .inr (4, [.ref a1, .ref a2])), (a2, .inl (E.2.2.1, 64, .inl (ldW (fun q => g (o + q)) n j wv (i + 1)))), (g0, .inl (E.2.1, Mg, .inl g))] := hD
            refine lv_iinc (k := 3) (v := nI (i + 1)) (lv' := [(5, .int (nI (i + 1))), (8, .int (pv (fun q => g (o + q)) n (j * 64 + i))), (7, .int (nI 0)), (6, .int (nI ((j * 64) + i))), (4, .int (nI j)), (3, .int (nI n)), (2, .int (nI o)), (1, .ref g0), (0, .ref h0)]) hx hb d_Sha_loadWords_82 hl rfl (iincK i 1) (by decide) rfl (fun ls hl => ?_)
            refine lv_goto hx hb d_Sha_loadWords_85 rfl ?_
            exact ih3 (i + 1) H locs ls (by omega) (by omega) hP hD hS (lv_sub hl [0, 4, 5, 6, 7, 8] rfl)
        · refine lv_sipush (v := nI 128) hx hb d_Sha_loadWords_26 (by decide) ?_
          refine lv_goto hx hb d_Sha_loadWords_29 rfl ?_
          refine lv_istore (lv' := [(7, .int (nI 128)), (6, .int (nI ((j * 64) + i))), (5, .int (nI i)), (4, .int (nI j)), (3, .int (nI n)), (2, .int (nI o)), (1, .ref g0), (0, .ref h0)]) hx hb d_Sha_loadWords_33 hl (by decide) rfl (fun ls hl => ?_)
          refine lv_iload hx hb d_Sha_loadWords_35 (lv_at hl 1 rfl) ?_
          refine lv_iload_n hx hb d_Sha_loadWords_37 rfl (lv_at hl 4 rfl) ?_
          refine j_ge C ((j * 64) + i) n rfl rfl (by omega) (by omega) d_Sha_loadWords_38 rfl (fun hc4 => ?_) (fun hc4 => absurd hc4 (by omega))
          refine lv_iload hx hb d_Sha_loadWords_54 (lv_at hl 0 rfl) ?_
          refine tope (z := pv (fun q => g (o + q)) n (j * 64 + i)) (by first | exact (pv_lt (b := (fun q => g (o + q))) (n := n) (p := j * 64 + i) (by omega)).symm | exact (pv_eq (b := (fun q => g (o + q))) (n := n) (p := j * 64 + i) (by omega)).symm | exact (pv_gt (b := (fun q => g (o + q))) (n := n) (p := j * 64 + i) (by omega)).symm) ?_
          refine lv_istore (lv' := [(8, .int (pv (fun q => g (o + q)) n (j * 64 + i))), (7, .int (nI 128)), (6, .int (nI ((j * 64) + i))), (5, .int (nI i)), (4, .int (nI j)), (3, .int (nI n)), (2, .int (nI o)), (1, .ref g0), (0, .ref h0)]) hx hb d_Sha_loadWords_56 hl (by decide) rfl (fun ls hl => ?_)
          refine lv_aload_n hx hb d_Sha_loadWords_58 rfl (lv_at hl 8 rfl) ?_
          refine n_get C fg_Sha_15 hP 0 rfl rfl d_Sha_loadWords_59 ?_
          refine lv_iload hx hb d_Sha_loadWords_62 (lv_at hl 3 rfl) ?_
          refine lv_iconst (v := nI 4) hx hb d_Sha_loadWords_64 (by decide) ?_
          refine lv_idiv hx hb d_Sha_loadWords_65 (nI_ne0 (by omega) (by omega)) ?_
          refine tope (z := nI (i / 4)) (pk_div (by omega) (by omega) (by omega)) ?_
          refine lv_aload_n hx hb d_Sha_loadWords_66 rfl (lv_at hl 8 rfl) ?_
          refine n_get C fg_Sha_15 hP 0 rfl rfl d_Sha_loadWords_67 ?_
          refine lv_iload hx hb d_Sha_loadWords_70 (lv_at hl 3 rfl) ?_
          refine lv_iconst (v := nI 4) hx hb d_Sha_loadWords_72 (by decide) ?_
          refine lv_idiv hx hb d_Sha_loadWords_73 (nI_ne0 (by omega) (by omega)) ?_
          refine tope (z := nI (i / 4)) (pk_div (by omega) (by omega) (by omega)) ?_
          refine n_iald C hP 1 rfl (i / 4) rfl (by omega) (by omega) d_Sha_loadWords_74 ?_
          refine lv_bipush (v := nI 8) hx hb d_Sha_loadWords_75 (by decide) ?_
          refine lv_ishl hx hb d_Sha_loadWords_77 ?_
          refine lv_iload hx hb d_Sha_loadWords_78 (lv_at hl 0 rfl) ?_
          refine lv_ior hx hb d_Sha_loadWords_80 ?_
          refine n_iast C hP hD hS 1 rfl (i / 4) rfl (by omega) (by omega) d_Sha_loadWords_81 (fun H locs hP hD hS => ?_)
          have hP : va_P E.1 clz [(h0, .inr (4, [.ref a1, .ref a2])), (a2, .inl (E.2.2.1, 64, .inl (upd (ldW (fun q => g (o + q)) n j wv i) (i / 4) ((sl ((ldW (fun q => g (o + q)) n j wv i) (i / 4)) (nI 8)) ||| (pv (fun q => g (o + q)) n (j * 64 + i)))))), (g0, .inl (E.2.1, Mg, .inl g))] H := hP
          have hD : va_D A [(h0, .inr (4, [.ref a1, .ref a2])), (a2, .inl (E.2.2.1, 64, .inl (upd (ldW (fun q => g (o + q)) n j wv i) (i / 4) ((sl ((ldW (fun q => g (o + q)) n j wv i) (i / 4)) (nI 8)) ||| (pv (fun q => g (o + q)) n (j * 64 + i)))))), (g0, .inl (E.2.1, Mg, .inl g))] := hD
          have hP : va_P E.1 clz [(h0, .inr (4, [.ref a1, .ref a2])), (a2, .inl (E.2.2.1, 64, .inl (ldW (fun q => g (o + q)) n j wv (i + 1)))), (g0, .inl (E.2.1, Mg, .inl g))] H := hP
          have hD : va_D A [(h0, .inr (4, [.ref a1, .ref a2])), (a2, .inl (E.2.2.1, 64, .inl (ldW (fun q => g (o + q)) n j wv (i + 1)))), (g0, .inl (E.2.1, Mg, .inl g))] := hD
          refine lv_iinc (k := 3) (v := nI (i + 1)) (lv' := [(5, .int (nI (i + 1))), (8, .int (pv (fun q => g (o + q)) n (j * 64 + i))), (7, .int (nI 128)), (6, .int (nI ((j * 64) + i))), (4, .int (nI j)), (3, .int (nI n)), (2, .int (nI o)), (1, .ref g0), (0, .ref h0)]) hx hb d_Sha_loadWords_82 hl rfl (iincK i 1) (by decide) rfl (fun ls hl => ?_)
          refine lv_goto hx hb d_Sha_loadWords_85 rfl ?_
          exact ih3 (i + 1) H locs ls (by omega) (by omega) hP hD hS (lv_sub hl [0, 4, 5, 6, 7, 8] rfl)
  exact hloop3 (64 + 1) 0 H locs ls (by omega) (by omega) hP hD hS (lv_sub hl [0, 5, 4, 3, 2, 1] rfl)
