theorem wb_tb (n : Nat) : (lN n).toBitVec = BitVec.ofNat 64 n := rfl
theorem wb_inj {a b : Int64} (h : a.toBitVec = b.toBitVec) : a = b := Int64.toBitVec_inj.mp h
theorem wb_tn {n : Nat} (h : n < 2 ^ 64) : (lN n).toBitVec.toNat = n := by rw [wb_tb, BitVec.toNat_ofNat, Nat.mod_eq_of_lt h]
theorem wb_of (x : Int64) : ∃ n, n < 2 ^ 64 ∧ x = lN n := ⟨x.toBitVec.toNat, x.toBitVec.isLt, wb_inj (by rw [wb_tb]; simp)⟩
theorem wb_of32 (x : Int32) : ∃ n, n < 2 ^ 32 ∧ x = nI n := ⟨x.toBitVec.toNat, x.toBitVec.isLt, Int32.toBitVec_inj.mp (by show _ = BitVec.ofNat 32 _; simp)⟩
theorem wb_c : ∀ k, k < 64 → ((nI k).toInt64 &&& 63) = lN k := by decide +kernel
theorem wb_cu : ∀ k, k < 64 → ((nI k).toInt64.toUInt64 &&& Int64.toUInt64 63) = UInt64.ofNat k := by decide +kernel
theorem wb_sm : ∀ k, k < 64 → (BitVec.ofNat 64 k).smod 64 = BitVec.ofNat 64 k := by decide +kernel
theorem wb_pw {a b : Nat} (h : a ≤ b) : 2 ^ b = 2 ^ a * 2 ^ (b - a) := by rw [← Nat.pow_add]; congr 1; omega
theorem wb_lt2 {a b : Nat} (h : a < b) : 2 ^ a < 2 ^ b := Nat.pow_lt_pow_right (by decide) h
theorem wb_mod (n : Nat) : lN n = lN (n % 2 ^ 64) := wb_inj (by rw [wb_tb, wb_tb]; apply BitVec.eq_of_toNat_eq; rw [BitVec.toNat_ofNat, BitVec.toNat_ofNat, Nat.mod_mod])
theorem wb_shr {n k : Nat} (hn : n < 2 ^ 64) (hk : k < 64) : ((lN n).toUInt64 >>> ((nI k).toInt64.toUInt64 &&& Int64.toUInt64 63)).toInt64 = lN (n / 2 ^ k) := by
  rw [wb_cu k hk]
  apply wb_inj
  apply BitVec.eq_of_toNat_eq
  show ((lN n).toUInt64 >>> UInt64.ofNat k).toNat = (BitVec.ofNat 64 _).toNat
  have h1 : (UInt64.ofNat k).toNat = k := by
    show (BitVec.ofNat 64 k).toNat = k
    rw [BitVec.toNat_ofNat, Nat.mod_eq_of_lt (by omega)]
  have h2 : (lN n).toUInt64.toNat = n := wb_tn hn
  rw [UInt64.toNat_shiftRight, h1, h2, Nat.mod_eq_of_lt hk, Nat.shiftRight_eq_div_pow, BitVec.toNat_ofNat, Nat.mod_eq_of_lt (Nat.lt_of_le_of_lt (Nat.div_le_self _ _) hn)]

section XL
variable {p : Program} {l : Launch} {e : Env} {R : Room} {s : State} {m : MethodId} {args : Array Value} {below : List Frame} {meth : Method} {c : Code} {H : Heap} {locs : List Loc} {Q : State → Prop} {pc : Nat} {ls : Array Slot} {rest : List Value}
theorem topl {x z : Int64} (h : x = z) (k : W p l e R s m args below meth c H locs 0 0 Q (F0 m pc ls (.long z :: rest))) : W p l e R s m args below meth c H locs 0 0 Q (F0 m pc ls (.long x :: rest)) := h ▸ k
end XL
theorem cpy_step0 {S t : Nat → Int32} {i : Nat} : upd (va_cpy S t 0 0 i) i (S i) = va_cpy S t 0 0 (i + 1) := by
  have := cpy_step (S := S) (t := t) (d := 0) (i := i) rfl
  rw [Nat.zero_add] at this
  exact this
def mAL (n : Nat) : Nat := (n + 72) / 64 * 64
def lnb (n p : Nat) : Int32 := nI (n * 8 / 2 ^ (8 * (mAL n - 1 - p)) % 256)
def mvb (b : Nat → Int32) (n p : Nat) : Int32 := if p < mAL n - 8 then pv b n p else lnb n p
def mw (b : Nat → Int32) (n o : Nat) : Nat → Int32
  | 0 => nI 0
  | i + 1 => cm1 (mw b n o i) (mvb b n (o + i))
theorem mvb_lt {b : Nat → Int32} {n p : Nat} (h : p < mAL n - 8) : mvb b n p = pv b n p := if_pos h
theorem mvb_ge {b : Nat → Int32} {n p : Nat} (h : ¬ p < mAL n - 8) : mvb b n p = lnb n p := if_neg h
theorem mw_wds {b : Nat → Int32} {n j k : Nat} (hn : n < 2 ^ 20) (hj : j < (n + 72) / 64) (hk : k < 16) : mw b n (j * 64 + 4 * k) 4 = wds b n j k := by
  have hA : mAL n = (n + 72) / 64 * 64 := rfl
  have hl : (n + 72) / 64 = (n + 8) / 64 + 1 := by omega
  show cm1 (cm1 (cm1 (cm1 (nI 0) (mvb b n (j * 64 + 4 * k + 0))) (mvb b n (j * 64 + 4 * k + 1))) (mvb b n (j * 64 + 4 * k + 2))) (mvb b n (j * 64 + 4 * k + 3)) = _
  rw [Nat.add_zero]
  unfold wds
  by_cases c1 : j = lstB n ∧ k = 15
  · rw [if_pos c1]
    obtain ⟨c1, rfl⟩ := c1
    unfold lstB at c1
    rw [mvb_ge (by omega), mvb_ge (by omega), mvb_ge (by omega), mvb_ge (by omega)]
    unfold lnb
    rw [show mAL n - 1 - (j * 64 + 4 * 15) = 3 by omega, show mAL n - 1 - (j * 64 + 4 * 15 + 1) = 2 by omega, show mAL n - 1 - (j * 64 + 4 * 15 + 2) = 1 by omega, show mAL n - 1 - (j * 64 + 4 * 15 + 3) = 0 by omega]
    have := cm1_word (x := n * 8)
    simpa using this
  · rw [if_neg c1]
    unfold wd
    by_cases c2 : j = lstB n ∧ k = 14
    · obtain ⟨c2, rfl⟩ := c2
      unfold lstB at c2
      have hz : ∀ i, i < 4 → mvb b n (j * 64 + 4 * 14 + i) = pv b n (j * 64 + 4 * 14 + i) := by
        intro i hi
        rw [mvb_ge (by omega), pv_gt (by omega)]
        unfold lnb
        have h1 : n * 8 / 2 ^ (8 * (mAL n - 1 - (j * 64 + 4 * 14 + i))) = 0 := by
          apply Nat.div_eq_of_lt
          have h2 : 32 ≤ 8 * (mAL n - 1 - (j * 64 + 4 * 14 + i)) := by omega
          have h3 := Nat.pow_le_pow_right (n := 2) (by omega) h2
          have h4 : (2 : Nat) ^ 32 = 4294967296 := by decide
          omega
        rw [h1]
      have z0 := hz 0 (by omega)
      rw [Nat.add_zero] at z0
      rw [z0, hz 1 (by omega), hz 2 (by omega), hz 3 (by omega)]
    · have hc : j < (n + 8) / 64 ∨ k < 14 := by
        by_cases c3 : j = (n + 8) / 64
        · right
          rcases (by omega : k < 14 ∨ k = 14 ∨ k = 15) with h | h | h
          · exact h
          · exact absurd ⟨c3, h⟩ c2
          · exact absurd ⟨c3, h⟩ c1
        · left; omega
      rw [mvb_lt (by omega), mvb_lt (by omega), mvb_lt (by omega), mvb_lt (by omega)]
theorem hash_once (S o : Nat → Int32) : shaF (fun q => va_cpy S o 0 0 32 (0 + q)) 32 = shaF S 32 := by
  apply shaF_congr
  intro j hj
  rw [Nat.zero_add, pk_cpy_in (by omega) (by omega), Nat.sub_zero, Nat.zero_add]
theorem and255_nI {a : Nat} (h : a < 2 ^ 32) : nI a &&& nI 255 = nI (a % 256) := pk_andN h 8 (by decide)

theorem cl_Mod_57 : Cond.constantLong RMod 57 8 ∈ ALLW := al2 230 rfl rfl

set_option maxHeartbeats 4000000 in
set_option maxRecDepth 100000 in
theorem c_Mod_round (l : Launch) (E : En) (y0 ya yo ym yl yg yw yh yc yd yb yk yz yr nt no nd : Nat) (fl : Bool) (k6 k7 : Nat → Int32) : CtV l y_Mod_round b_Mod_round 12 (rmd 0) E [.ref y0] [(y0, .inr (7, [.ref ya, .int (nI nt), .ref yo, .int (nI no), .ref ym, .ref yl, .ref yg, .ref yw, .ref yh, .ref yc, .ref yd, .ref yb, .ref yk, .ref yz, .int (nI nd), .int (b2 fl), .ref yr])), (yw, .inl (E.2.2.1, 64, .inl k6)), (yh, .inl (E.2.2.1, 8, .inl k7))] (fun w => w = [(y0, .inr (7, [.ref ya, .int (nI nt), .ref yo, .int (nI no), .ref ym, .ref yl, .ref yg, .ref yw, .ref yh, .ref yc, .ref yd, .ref yb, .ref yk, .ref yz, .int (nI nd), .int (b2 fl), .ref yr])), (yw, .inl (E.2.2.1, 64, .inl (exW k6 48))), (yh, .inl (E.2.2.1, 8, .inl (blkF (exW k6 48) k7)))]) := by
  refine CtV.of (by decide) (Nat.le_of_ble_eq_true rfl) ?_
  intro p e s m args below meth c A Q H locs ls C hP hD hS hl kret
  have hx := C.1
  have hb := C.2.1
  have hl : lv_has ls 12 [(0, .ref y0)] := hl
  refine lv_bipush (v := nI 16) hx hb d_Mod_round_0 (by decide) ?_
  refine lv_istore_n (lv' := [(1, .int (nI 16)), (0, .ref y0)]) hx hb d_Mod_round_2 rfl hl (by decide) rfl (fun ls hl => ?_)
  have hloop3 : ∀ (dd : Nat) (i : Nat) (H : Heap) (locs : List Loc) (ls : Array Slot), 48 - i < dd → (i ≤ 48) → va_P E.1 clz [(y0, .inr (7, [.ref ya, .int (nI nt), .ref yo, .int (nI no), .ref ym, .ref yl, .ref yg, .ref yw, .ref yh, .ref yc, .ref yd, .ref yb, .ref yk, .ref yz, .int (nI nd), .int (b2 fl), .ref yr])), (yw, .inl (E.2.2.1, 64, .inl (exW k6 i))), (yh, .inl (E.2.2.1, 8, .inl k7))] H → va_D A [(y0, .inr (7, [.ref ya, .int (nI nt), .ref yo, .int (nI no), .ref ym, .ref yl, .ref yg, .ref yw, .ref yh, .ref yc, .ref yd, .ref yb, .ref yk, .ref yz, .int (nI nd), .int (b2 fl), .ref yr])), (yw, .inl (E.2.2.1, 64, .inl (exW k6 i))), (yh, .inl (E.2.2.1, 8, .inl k7))] → va_S A s.heap H locs → lv_has ls 12 [(1, .int (nI (16 + i))), (0, .ref y0)] → W p l e (rmd 0) s m args below meth c H locs 0 0 Q (F0 m 3 ls []) := by
    intro dd
    induction dd with
    | zero => intro i H locs ls hmz; exact absurd hmz (Nat.not_lt_zero _)
    | succ dd ih3 =>
      intro i H locs ls hmz hi hP hD hS hl
      refine lv_iload_n hx hb d_Mod_round_3 rfl (lv_at hl 0 rfl) ?_
      refine lv_bipush (v := nI 64) hx hb d_Mod_round_4 (by decide) ?_
      refine j_ge C (16 + i) 64 rfl rfl (by omega) (by omega) d_Mod_round_6 rfl (fun hc1 => ?_) (fun hc1 => ?_)
      · obtain rfl : i = 48 := by omega
        refine lv_aload_n hx hb d_Mod_round_116 rfl (lv_at hl 1 rfl) ?_
        refine n_get C fg_Mod_29 hP 0 rfl rfl d_Mod_round_117 ?_
        refine lv_iconst (v := nI 0) hx hb d_Mod_round_120 (by decide) ?_
        refine n_iald C hP 2 rfl 0 rfl (by omega) (by omega) d_Mod_round_121 ?_
        refine lv_istore_n (lv' := [(1, .int (k7 0)), (0, .ref y0)]) hx hb d_Mod_round_122 rfl hl (by decide) rfl (fun ls hl => ?_)
        refine lv_aload_n hx hb d_Mod_round_123 rfl (lv_at hl 1 rfl) ?_
        refine n_get C fg_Mod_29 hP 0 rfl rfl d_Mod_round_124 ?_
        refine lv_iconst (v := nI 1) hx hb d_Mod_round_127 (by decide) ?_
        refine n_iald C hP 2 rfl 1 rfl (by omega) (by omega) d_Mod_round_128 ?_
        refine lv_istore_n (lv' := [(2, .int (k7 1)), (1, .int (k7 0)), (0, .ref y0)]) hx hb d_Mod_round_129 rfl hl (by decide) rfl (fun ls hl => ?_)
        refine lv_aload_n hx hb d_Mod_round_130 rfl (lv_at hl 2 rfl) ?_
        refine n_get C fg_Mod_29 hP 0 rfl rfl d_Mod_round_131 ?_
        refine lv_iconst (v := nI 2) hx hb d_Mod_round_134 (by decide) ?_
        refine n_iald C hP 2 rfl 2 rfl (by omega) (by omega) d_Mod_round_135 ?_
        refine lv_istore_n (lv' := [(3, .int (k7 2)), (2, .int (k7 1)), (1, .int (k7 0)), (0, .ref y0)]) hx hb d_Mod_round_136 rfl hl (by decide) rfl (fun ls hl => ?_)
        refine lv_aload_n hx hb d_Mod_round_137 rfl (lv_at hl 3 rfl) ?_
        refine n_get C fg_Mod_29 hP 0 rfl rfl d_Mod_round_138 ?_
        refine lv_iconst (v := nI 3) hx hb d_Mod_round_141 (by decide) ?_
        refine n_iald C hP 2 rfl 3 rfl (by omega) (by omega) d_Mod_round_142 ?_
        refine lv_istore (lv' := [(4, .int (k7 3)), (3, .int (k7 2)), (2, .int (k7 1)), (1, .int (k7 0)), (0, .ref y0)]) hx hb d_Mod_round_143 hl (by decide) rfl (fun ls hl => ?_)
        refine lv_aload_n hx hb d_Mod_round_145 rfl (lv_at hl 4 rfl) ?_
        refine n_get C fg_Mod_29 hP 0 rfl rfl d_Mod_round_146 ?_
        refine lv_iconst (v := nI 4) hx hb d_Mod_round_149 (by decide) ?_
        refine n_iald C hP 2 rfl 4 rfl (by omega) (by omega) d_Mod_round_150 ?_
        refine lv_istore (lv' := [(5, .int (k7 4)), (4, .int (k7 3)), (3, .int (k7 2)), (2, .int (k7 1)), (1, .int (k7 0)), (0, .ref y0)]) hx hb d_Mod_round_151 hl (by decide) rfl (fun ls hl => ?_)
        refine lv_aload_n hx hb d_Mod_round_153 rfl (lv_at hl 5 rfl) ?_
        refine n_get C fg_Mod_29 hP 0 rfl rfl d_Mod_round_154 ?_
        refine lv_iconst (v := nI 5) hx hb d_Mod_round_157 (by decide) ?_
        refine n_iald C hP 2 rfl 5 rfl (by omega) (by omega) d_Mod_round_158 ?_
        refine lv_istore (lv' := [(6, .int (k7 5)), (5, .int (k7 4)), (4, .int (k7 3)), (3, .int (k7 2)), (2, .int (k7 1)), (1, .int (k7 0)), (0, .ref y0)]) hx hb d_Mod_round_159 hl (by decide) rfl (fun ls hl => ?_)
        refine lv_aload_n hx hb d_Mod_round_161 rfl (lv_at hl 6 rfl) ?_
        refine n_get C fg_Mod_29 hP 0 rfl rfl d_Mod_round_162 ?_
        refine lv_bipush (v := nI 6) hx hb d_Mod_round_165 (by decide) ?_
        refine n_iald C hP 2 rfl 6 rfl (by omega) (by omega) d_Mod_round_167 ?_
        refine lv_istore (lv' := [(7, .int (k7 6)), (6, .int (k7 5)), (5, .int (k7 4)), (4, .int (k7 3)), (3, .int (k7 2)), (2, .int (k7 1)), (1, .int (k7 0)), (0, .ref y0)]) hx hb d_Mod_round_168 hl (by decide) rfl (fun ls hl => ?_)
        refine lv_aload_n hx hb d_Mod_round_170 rfl (lv_at hl 7 rfl) ?_
        refine n_get C fg_Mod_29 hP 0 rfl rfl d_Mod_round_171 ?_
        refine lv_bipush (v := nI 7) hx hb d_Mod_round_174 (by decide) ?_
        refine n_iald C hP 2 rfl 7 rfl (by omega) (by omega) d_Mod_round_176 ?_
        refine lv_istore (lv' := [(8, .int (k7 7)), (7, .int (k7 6)), (6, .int (k7 5)), (5, .int (k7 4)), (4, .int (k7 3)), (3, .int (k7 2)), (2, .int (k7 1)), (1, .int (k7 0)), (0, .ref y0)]) hx hb d_Mod_round_177 hl (by decide) rfl (fun ls hl => ?_)
        refine lv_iconst (v := nI 0) hx hb d_Mod_round_179 (by decide) ?_
        refine lv_istore (lv' := [(9, .int (nI 0)), (8, .int (k7 7)), (7, .int (k7 6)), (6, .int (k7 5)), (5, .int (k7 4)), (4, .int (k7 3)), (3, .int (k7 2)), (2, .int (k7 1)), (1, .int (k7 0)), (0, .ref y0)]) hx hb d_Mod_round_180 hl (by decide) rfl (fun ls hl => ?_)
        have hloop182 : ∀ (dd : Nat) (i : Nat) (va : Int32) (vb : Int32) (vc : Int32) (vd : Int32) (ve : Int32) (vf : Int32) (vg : Int32) (vh : Int32) (H : Heap) (locs : List Loc) (ls : Array Slot), 64 - i < dd → (i ≤ 64) → (mx (exW k6 48) (k7 0, k7 1, k7 2, k7 3, k7 4, k7 5, k7 6, k7 7) i = (va, vb, vc, vd, ve, vf, vg, vh)) → va_P E.1 clz [(y0, .inr (7, [.ref ya, .int (nI nt), .ref yo, .int (nI no), .ref ym, .ref yl, .ref yg, .ref yw, .ref yh, .ref yc, .ref yd, .ref yb, .ref yk, .ref yz, .int (nI nd), .int (b2 fl), .ref yr])), (yw, .inl (E.2.2.1, 64, .inl (exW k6 48))), (yh, .inl (E.2.2.1, 8, .inl k7))] H → va_D A [(y0, .inr (7, [.ref ya, .int (nI nt), .ref yo, .int (nI no), .ref ym, .ref yl, .ref yg, .ref yw, .ref yh, .ref yc, .ref yd, .ref yb, .ref yk, .ref yz, .int (nI nd), .int (b2 fl), .ref yr])), (yw, .inl (E.2.2.1, 64, .inl (exW k6 48))), (yh, .inl (E.2.2.1, 8, .inl k7))] → va_S A s.heap H locs → lv_has ls 12 [(9, .int (nI i)), (8, .int vh), (7, .int vg), (6, .int vf), (5, .int ve), (4, .int vd), (3, .int vc), (2, .int vb), (1, .int va), (0, .ref y0)] → W p l e (rmd 0) s m args below meth c H locs 0 0 Q (F0 m 182 ls []) := by
          intro dd
          induction dd with
          | zero => intro i va vb vc vd ve vf vg vh H locs ls hmz; exact absurd hmz (Nat.not_lt_zero _)
          | succ dd ih182 =>
            intro i va vb vc vd ve vf vg vh H locs ls hmz hi hinv hP hD hS hl
            refine lv_iload hx hb d_Mod_round_182 (lv_at hl 0 rfl) ?_
            refine lv_bipush (v := nI 64) hx hb d_Mod_round_184 (by decide) ?_
            refine j_ge C i 64 rfl rfl (by omega) (by omega) d_Mod_round_186 rfl (fun hc2 => ?_) (fun hc2 => ?_)
            · obtain rfl : i = 64 := by omega
              refine lv_aload_n hx hb d_Mod_round_338 rfl (lv_at hl 9 rfl) ?_
              refine n_get C fg_Mod_29 hP 0 rfl rfl d_Mod_round_339 ?_
              refine lv_iconst (v := nI 0) hx hb d_Mod_round_342 (by decide) ?_
              refine lv_dup2_11 hx hb d_Mod_round_343 rfl rfl ?_
              refine n_iald C hP 2 rfl 0 rfl (by omega) (by omega) d_Mod_round_344 ?_
              refine tope (z := k7 0) (rfl) ?_
              refine lv_iload_n hx hb d_Mod_round_345 rfl (lv_at hl 8 rfl) ?_
              refine lv_iadd hx hb d_Mod_round_346 ?_
              refine n_iast C hP hD hS 2 rfl 0 rfl (by omega) (by omega) d_Mod_round_347 (fun H locs hP hD hS => ?_)
              have hP : va_P E.1 clz [(y0, .inr (7, [.ref ya, .int (nI nt), .ref yo, .int (nI no), .ref ym, .ref yl, .ref yg, .ref yw, .ref yh, .ref yc, .ref yd, .ref yb, .ref yk, .ref yz, .int (nI nd), .int (b2 fl), .ref yr])), (yw, .inl (E.2.2.1, 64, .inl (exW k6 48))), (yh, .inl (E.2.2.1, 8, .inl (upd k7 0 ((k7 0) + va))))] H := hP
              have hD : va_D A [(y0, .inr (7, [.ref ya, .int (nI nt), .ref yo, .int (nI no), .ref ym, .ref yl, .ref yg, .ref yw, .ref yh, .ref yc, .ref yd, .ref yb, .ref yk, .ref yz, .int (nI nd), .int (b2 fl), .ref yr])), (yw, .inl (E.2.2.1, 64, .inl (exW k6 48))), (yh, .inl (E.2.2.1, 8, .inl (upd k7 0 ((k7 0) + va))))] := hD
              refine lv_aload_n hx hb d_Mod_round_348 rfl (lv_at hl 9 rfl) ?_
              refine n_get C fg_Mod_29 hP 0 rfl rfl d_Mod_round_349 ?_
              refine lv_iconst (v := nI 1) hx hb d_Mod_round_352 (by decide) ?_
              refine lv_dup2_11 hx hb d_Mod_round_353 rfl rfl ?_
              refine n_iald C hP 2 rfl 1 rfl (by omega) (by omega) d_Mod_round_354 ?_
              refine tope (z := k7 1) (rfl) ?_
              refine lv_iload_n hx hb d_Mod_round_355 rfl (lv_at hl 7 rfl) ?_
              refine lv_iadd hx hb d_Mod_round_356 ?_
              refine n_iast C hP hD hS 2 rfl 1 rfl (by omega) (by omega) d_Mod_round_357 (fun H locs hP hD hS => ?_)
              have hP : va_P E.1 clz [(y0, .inr (7, [.ref ya, .int (nI nt), .ref yo, .int (nI no), .ref ym, .ref yl, .ref yg, .ref yw, .ref yh, .ref yc, .ref yd, .ref yb, .ref yk, .ref yz, .int (nI nd), .int (b2 fl), .ref yr])), (yw, .inl (E.2.2.1, 64, .inl (exW k6 48))), (yh, .inl (E.2.2.1, 8, .inl (upd (upd k7 0 ((k7 0) + va)) 1 ((k7 1) + vb))))] H := hP
              have hD : va_D A [(y0, .inr (7, [.ref ya, .int (nI nt), .ref yo, .int (nI no), .ref ym, .ref yl, .ref yg, .ref yw, .ref yh, .ref yc, .ref yd, .ref yb, .ref yk, .ref yz, .int (nI nd), .int (b2 fl), .ref yr])), (yw, .inl (E.2.2.1, 64, .inl (exW k6 48))), (yh, .inl (E.2.2.1, 8, .inl (upd (upd k7 0 ((k7 0) + va)) 1 ((k7 1) + vb))))] := hD
              refine lv_aload_n hx hb d_Mod_round_358 rfl (lv_at hl 9 rfl) ?_
              refine n_get C fg_Mod_29 hP 0 rfl rfl d_Mod_round_359 ?_
              refine lv_iconst (v := nI 2) hx hb d_Mod_round_362 (by decide) ?_
              refine lv_dup2_11 hx hb d_Mod_round_363 rfl rfl ?_
              refine n_iald C hP 2 rfl 2 rfl (by omega) (by omega) d_Mod_round_364 ?_
              refine tope (z := k7 2) (rfl) ?_
              refine lv_iload_n hx hb d_Mod_round_365 rfl (lv_at hl 6 rfl) ?_
              refine lv_iadd hx hb d_Mod_round_366 ?_
              refine n_iast C hP hD hS 2 rfl 2 rfl (by omega) (by omega) d_Mod_round_367 (fun H locs hP hD hS => ?_)
              have hP : va_P E.1 clz [(y0, .inr (7, [.ref ya, .int (nI nt), .ref yo, .int (nI no), .ref ym, .ref yl, .ref yg, .ref yw, .ref yh, .ref yc, .ref yd, .ref yb, .ref yk, .ref yz, .int (nI nd), .int (b2 fl), .ref yr])), (yw, .inl (E.2.2.1, 64, .inl (exW k6 48))), (yh, .inl (E.2.2.1, 8, .inl (upd (upd (upd k7 0 ((k7 0) + va)) 1 ((k7 1) + vb)) 2 ((k7 2) + vc))))] H := hP
              have hD : va_D A [(y0, .inr (7, [.ref ya, .int (nI nt), .ref yo, .int (nI no), .ref ym, .ref yl, .ref yg, .ref yw, .ref yh, .ref yc, .ref yd, .ref yb, .ref yk, .ref yz, .int (nI nd), .int (b2 fl), .ref yr])), (yw, .inl (E.2.2.1, 64, .inl (exW k6 48))), (yh, .inl (E.2.2.1, 8, .inl (upd (upd (upd k7 0 ((k7 0) + va)) 1 ((k7 1) + vb)) 2 ((k7 2) + vc))))] := hD
              refine lv_aload_n hx hb d_Mod_round_368 rfl (lv_at hl 9 rfl) ?_
              refine n_get C fg_Mod_29 hP 0 rfl rfl d_Mod_round_369 ?_
              refine lv_iconst (v := nI 3) hx hb d_Mod_round_372 (by decide) ?_
              refine lv_dup2_11 hx hb d_Mod_round_373 rfl rfl ?_
              refine n_iald C hP 2 rfl 3 rfl (by omega) (by omega) d_Mod_round_374 ?_
              refine tope (z := k7 3) (rfl) ?_
              refine lv_iload hx hb d_Mod_round_375 (lv_at hl 5 rfl) ?_
              refine lv_iadd hx hb d_Mod_round_377 ?_
              refine n_iast C hP hD hS 2 rfl 3 rfl (by omega) (by omega) d_Mod_round_378 (fun H locs hP hD hS => ?_)
              have hP : va_P E.1 clz [(y0, .inr (7, [.ref ya, .int (nI nt), .ref yo, .int (nI no), .ref ym, .ref yl, .ref yg, .ref yw, .ref yh, .ref yc, .ref yd, .ref yb, .ref yk, .ref yz, .int (nI nd), .int (b2 fl), .ref yr])), (yw, .inl (E.2.2.1, 64, .inl (exW k6 48))), (yh, .inl (E.2.2.1, 8, .inl (upd (upd (upd (upd k7 0 ((k7 0) + va)) 1 ((k7 1) + vb)) 2 ((k7 2) + vc)) 3 ((k7 3) + vd))))] H := hP
              have hD : va_D A [(y0, .inr (7, [.ref ya, .int (nI nt), .ref yo, .int (nI no), .ref ym, .ref yl, .ref yg, .ref yw, .ref yh, .ref yc, .ref yd, .ref yb, .ref yk, .ref yz, .int (nI nd), .int (b2 fl), .ref yr])), (yw, .inl (E.2.2.1, 64, .inl (exW k6 48))), (yh, .inl (E.2.2.1, 8, .inl (upd (upd (upd (upd k7 0 ((k7 0) + va)) 1 ((k7 1) + vb)) 2 ((k7 2) + vc)) 3 ((k7 3) + vd))))] := hD
              refine lv_aload_n hx hb d_Mod_round_379 rfl (lv_at hl 9 rfl) ?_
              refine n_get C fg_Mod_29 hP 0 rfl rfl d_Mod_round_380 ?_
              refine lv_iconst (v := nI 4) hx hb d_Mod_round_383 (by decide) ?_
              refine lv_dup2_11 hx hb d_Mod_round_384 rfl rfl ?_
              refine n_iald C hP 2 rfl 4 rfl (by omega) (by omega) d_Mod_round_385 ?_
              refine tope (z := k7 4) (rfl) ?_
              refine lv_iload hx hb d_Mod_round_386 (lv_at hl 4 rfl) ?_
              refine lv_iadd hx hb d_Mod_round_388 ?_
              refine n_iast C hP hD hS 2 rfl 4 rfl (by omega) (by omega) d_Mod_round_389 (fun H locs hP hD hS => ?_)
              have hP : va_P E.1 clz [(y0, .inr (7, [.ref ya, .int (nI nt), .ref yo, .int (nI no), .ref ym, .ref yl, .ref yg, .ref yw, .ref yh, .ref yc, .ref yd, .ref yb, .ref yk, .ref yz, .int (nI nd), .int (b2 fl), .ref yr])), (yw, .inl (E.2.2.1, 64, .inl (exW k6 48))), (yh, .inl (E.2.2.1, 8, .inl (upd (upd (upd (upd (upd k7 0 ((k7 0) + va)) 1 ((k7 1) + vb)) 2 ((k7 2) + vc)) 3 ((k7 3) + vd)) 4 ((k7 4) + ve))))] H := hP
              have hD : va_D A [(y0, .inr (7, [.ref ya, .int (nI nt), .ref yo, .int (nI no), .ref ym, .ref yl, .ref yg, .ref yw, .ref yh, .ref yc, .ref yd, .ref yb, .ref yk, .ref yz, .int (nI nd), .int (b2 fl), .ref yr])), (yw, .inl (E.2.2.1, 64, .inl (exW k6 48))), (yh, .inl (E.2.2.1, 8, .inl (upd (upd (upd (upd (upd k7 0 ((k7 0) + va)) 1 ((k7 1) + vb)) 2 ((k7 2) + vc)) 3 ((k7 3) + vd)) 4 ((k7 4) + ve))))] := hD
              refine lv_aload_n hx hb d_Mod_round_390 rfl (lv_at hl 9 rfl) ?_
              refine n_get C fg_Mod_29 hP 0 rfl rfl d_Mod_round_391 ?_
              refine lv_iconst (v := nI 5) hx hb d_Mod_round_394 (by decide) ?_
              refine lv_dup2_11 hx hb d_Mod_round_395 rfl rfl ?_
              refine n_iald C hP 2 rfl 5 rfl (by omega) (by omega) d_Mod_round_396 ?_
              refine tope (z := k7 5) (rfl) ?_
              refine lv_iload hx hb d_Mod_round_397 (lv_at hl 3 rfl) ?_
              refine lv_iadd hx hb d_Mod_round_399 ?_
              refine n_iast C hP hD hS 2 rfl 5 rfl (by omega) (by omega) d_Mod_round_400 (fun H locs hP hD hS => ?_)
              have hP : va_P E.1 clz [(y0, .inr (7, [.ref ya, .int (nI nt), .ref yo, .int (nI no), .ref ym, .ref yl, .ref yg, .ref yw, .ref yh, .ref yc, .ref yd, .ref yb, .ref yk, .ref yz, .int (nI nd), .int (b2 fl), .ref yr])), (yw, .inl (E.2.2.1, 64, .inl (exW k6 48))), (yh, .inl (E.2.2.1, 8, .inl (upd (upd (upd (upd (upd (upd k7 0 ((k7 0) + va)) 1 ((k7 1) + vb)) 2 ((k7 2) + vc)) 3 ((k7 3) + vd)) 4 ((k7 4) + ve)) 5 ((k7 5) + vf))))] H := hP
              have hD : va_D A [(y0, .inr (7, [.ref ya, .int (nI nt), .ref yo, .int (nI no), .ref ym, .ref yl, .ref yg, .ref yw, .ref yh, .ref yc, .ref yd, .ref yb, .ref yk, .ref yz, .int (nI nd), .int (b2 fl), .ref yr])), (yw, .inl (E.2.2.1, 64, .inl (exW k6 48))), (yh, .inl (E.2.2.1, 8, .inl (upd (upd (upd (upd (upd (upd k7 0 ((k7 0) + va)) 1 ((k7 1) + vb)) 2 ((k7 2) + vc)) 3 ((k7 3) + vd)) 4 ((k7 4) + ve)) 5 ((k7 5) + vf))))] := hD
              refine lv_aload_n hx hb d_Mod_round_401 rfl (lv_at hl 9 rfl) ?_
              refine n_get C fg_Mod_29 hP 0 rfl rfl d_Mod_round_402 ?_
              refine lv_bipush (v := nI 6) hx hb d_Mod_round_405 (by decide) ?_
              refine lv_dup2_11 hx hb d_Mod_round_407 rfl rfl ?_
              refine n_iald C hP 2 rfl 6 rfl (by omega) (by omega) d_Mod_round_408 ?_
              refine tope (z := k7 6) (rfl) ?_
              refine lv_iload hx hb d_Mod_round_409 (lv_at hl 2 rfl) ?_
              refine lv_iadd hx hb d_Mod_round_411 ?_
              refine n_iast C hP hD hS 2 rfl 6 rfl (by omega) (by omega) d_Mod_round_412 (fun H locs hP hD hS => ?_)
              have hP : va_P E.1 clz [(y0, .inr (7, [.ref ya, .int (nI nt), .ref yo, .int (nI no), .ref ym, .ref yl, .ref yg, .ref yw, .ref yh, .ref yc, .ref yd, .ref yb, .ref yk, .ref yz, .int (nI nd), .int (b2 fl), .ref yr])), (yw, .inl (E.2.2.1, 64, .inl (exW k6 48))), (yh, .inl (E.2.2.1, 8, .inl (upd (upd (upd (upd (upd (upd (upd k7 0 ((k7 0) + va)) 1 ((k7 1) + vb)) 2 ((k7 2) + vc)) 3 ((k7 3) + vd)) 4 ((k7 4) + ve)) 5 ((k7 5) + vf)) 6 ((k7 6) + vg))))] H := hP
              have hD : va_D A [(y0, .inr (7, [.ref ya, .int (nI nt), .ref yo, .int (nI no), .ref ym, .ref yl, .ref yg, .ref yw, .ref yh, .ref yc, .ref yd, .ref yb, .ref yk, .ref yz, .int (nI nd), .int (b2 fl), .ref yr])), (yw, .inl (E.2.2.1, 64, .inl (exW k6 48))), (yh, .inl (E.2.2.1, 8, .inl (upd (upd (upd (upd (upd (upd (upd k7 0 ((k7 0) + va)) 1 ((k7 1) + vb)) 2 ((k7 2) + vc)) 3 ((k7 3) + vd)) 4 ((k7 4) + ve)) 5 ((k7 5) + vf)) 6 ((k7 6) + vg))))] := hD
              refine lv_aload_n hx hb d_Mod_round_413 rfl (lv_at hl 9 rfl) ?_
              refine n_get C fg_Mod_29 hP 0 rfl rfl d_Mod_round_414 ?_
              refine lv_bipush (v := nI 7) hx hb d_Mod_round_417 (by decide) ?_
              refine lv_dup2_11 hx hb d_Mod_round_419 rfl rfl ?_
              refine n_iald C hP 2 rfl 7 rfl (by omega) (by omega) d_Mod_round_420 ?_
              refine tope (z := k7 7) (rfl) ?_
              refine lv_iload hx hb d_Mod_round_421 (lv_at hl 1 rfl) ?_
              refine lv_iadd hx hb d_Mod_round_423 ?_
              refine n_iast C hP hD hS 2 rfl 7 rfl (by omega) (by omega) d_Mod_round_424 (fun H locs hP hD hS => ?_)
              have hP : va_P E.1 clz [(y0, .inr (7, [.ref ya, .int (nI nt), .ref yo, .int (nI no), .ref ym, .ref yl, .ref yg, .ref yw, .ref yh, .ref yc, .ref yd, .ref yb, .ref yk, .ref yz, .int (nI nd), .int (b2 fl), .ref yr])), (yw, .inl (E.2.2.1, 64, .inl (exW k6 48))), (yh, .inl (E.2.2.1, 8, .inl (upd (upd (upd (upd (upd (upd (upd (upd k7 0 ((k7 0) + va)) 1 ((k7 1) + vb)) 2 ((k7 2) + vc)) 3 ((k7 3) + vd)) 4 ((k7 4) + ve)) 5 ((k7 5) + vf)) 6 ((k7 6) + vg)) 7 ((k7 7) + vh))))] H := hP
              have hD : va_D A [(y0, .inr (7, [.ref ya, .int (nI nt), .ref yo, .int (nI no), .ref ym, .ref yl, .ref yg, .ref yw, .ref yh, .ref yc, .ref yd, .ref yb, .ref yk, .ref yz, .int (nI nd), .int (b2 fl), .ref yr])), (yw, .inl (E.2.2.1, 64, .inl (exW k6 48))), (yh, .inl (E.2.2.1, 8, .inl (upd (upd (upd (upd (upd (upd (upd (upd k7 0 ((k7 0) + va)) 1 ((k7 1) + vb)) 2 ((k7 2) + vc)) 3 ((k7 3) + vd)) 4 ((k7 4) + ve)) 5 ((k7 5) + vf)) 6 ((k7 6) + vg)) 7 ((k7 7) + vh))))] := hD
              exact kret [(y0, .inr (7, [.ref ya, .int (nI nt), .ref yo, .int (nI no), .ref ym, .ref yl, .ref yg, .ref yw, .ref yh, .ref yc, .ref yd, .ref yb, .ref yk, .ref yz, .int (nI nd), .int (b2 fl), .ref yr])), (yw, .inl (E.2.2.1, 64, .inl (exW k6 48))), (yh, .inl (E.2.2.1, 8, .inl (upd (upd (upd (upd (upd (upd (upd (upd k7 0 ((k7 0) + va)) 1 ((k7 1) + vb)) 2 ((k7 2) + vc)) 3 ((k7 3) + vd)) 4 ((k7 4) + ve)) 5 ((k7 5) + vf)) 6 ((k7 6) + vg)) 7 ((k7 7) + vh))))] _ _ _ _ d_Mod_round_425 (by unfold blkF; rw [hinv]; rfl) rfl hP hS
            · refine lv_iload hx hb d_Mod_round_189 (lv_at hl 1 rfl) ?_
              refine lv_iload hx hb d_Mod_round_191 (lv_at hl 4 rfl) ?_
              refine lv_bipush (v := nI 6) hx hb d_Mod_round_193 (by decide) ?_
              refine lv_iushr (v := us ve (nI 6)) hx hb d_Mod_round_195 rfl ?_
              refine lv_iload hx hb d_Mod_round_196 (lv_at hl 4 rfl) ?_
              refine lv_bipush (v := nI 26) hx hb d_Mod_round_198 (by decide) ?_
              refine lv_ishl hx hb d_Mod_round_200 ?_
              refine lv_ior hx hb d_Mod_round_201 ?_
              refine lv_iload hx hb d_Mod_round_202 (lv_at hl 4 rfl) ?_
              refine lv_bipush (v := nI 11) hx hb d_Mod_round_204 (by decide) ?_
              refine lv_iushr (v := us ve (nI 11)) hx hb d_Mod_round_206 rfl ?_
              refine lv_iload hx hb d_Mod_round_207 (lv_at hl 4 rfl) ?_
              refine lv_bipush (v := nI 21) hx hb d_Mod_round_209 (by decide) ?_
              refine lv_ishl hx hb d_Mod_round_211 ?_
              refine lv_ior hx hb d_Mod_round_212 ?_
              refine lv_ixor hx hb d_Mod_round_213 ?_
              refine lv_iload hx hb d_Mod_round_214 (lv_at hl 4 rfl) ?_
              refine lv_bipush (v := nI 25) hx hb d_Mod_round_216 (by decide) ?_
              refine lv_iushr (v := us ve (nI 25)) hx hb d_Mod_round_218 rfl ?_
              refine lv_iload hx hb d_Mod_round_219 (lv_at hl 4 rfl) ?_
              refine lv_bipush (v := nI 7) hx hb d_Mod_round_221 (by decide) ?_
              refine lv_ishl hx hb d_Mod_round_223 ?_
              refine lv_ior hx hb d_Mod_round_224 ?_
              refine lv_ixor hx hb d_Mod_round_225 ?_
              refine tope (z := bg1 ve) (rfl) ?_
              refine lv_iadd hx hb d_Mod_round_226 ?_
              refine lv_iload hx hb d_Mod_round_227 (lv_at hl 4 rfl) ?_
              refine lv_iload hx hb d_Mod_round_229 (lv_at hl 3 rfl) ?_
              refine lv_iand hx hb d_Mod_round_231 ?_
              refine lv_iload hx hb d_Mod_round_232 (lv_at hl 4 rfl) ?_
              refine lv_iconst (v := (-1)) hx hb d_Mod_round_234 (by decide) ?_
              refine lv_ixor hx hb d_Mod_round_235 ?_
              refine lv_iload hx hb d_Mod_round_236 (lv_at hl 2 rfl) ?_
              refine lv_iand hx hb d_Mod_round_238 ?_
              refine lv_ixor hx hb d_Mod_round_239 ?_
              refine tope (z := chs ve vf vg) (rfl) ?_
              refine lv_iadd hx hb d_Mod_round_240 ?_
              refine n_gets C fl_Mod_51 C.2.2.2.2.2.2.1.2.2.1.1 hS d_Mod_round_241 ?_
              refine lv_iload hx hb d_Mod_round_244 (lv_at hl 0 rfl) ?_
              refine n_tab (t := E.2.2.2.2.2.2.1) C (C.2.2.2.2.2.2.1.2.2.1.2) i rfl (by omega) (by omega) hS d_Mod_round_246 ?_
              refine lv_iadd hx hb d_Mod_round_247 ?_
              refine lv_aload_n hx hb d_Mod_round_248 rfl (lv_at hl 9 rfl) ?_
              refine n_get C fg_Mod_26 hP 0 rfl rfl d_Mod_round_249 ?_
              refine lv_iload hx hb d_Mod_round_252 (lv_at hl 0 rfl) ?_
              refine n_iald C hP 1 rfl i rfl (by omega) (by omega) d_Mod_round_254 ?_
              refine lv_iadd hx hb d_Mod_round_255 ?_
              refine lv_istore (lv' := [(10, .int ((((vh + (bg1 ve)) + (chs ve vf vg)) + (shK i)) + ((exW k6 48) i))), (9, .int (nI i)), (8, .int vh), (7, .int vg), (6, .int vf), (5, .int ve), (4, .int vd), (3, .int vc), (2, .int vb), (1, .int va), (0, .ref y0)]) hx hb d_Mod_round_256 hl (by decide) rfl (fun ls hl => ?_)
              refine lv_iload_n hx hb d_Mod_round_258 rfl (lv_at hl 9 rfl) ?_
              refine lv_iconst (v := nI 2) hx hb d_Mod_round_259 (by decide) ?_
              refine lv_iushr (v := us va (nI 2)) hx hb d_Mod_round_260 rfl ?_
              refine lv_iload_n hx hb d_Mod_round_261 rfl (lv_at hl 9 rfl) ?_
              refine lv_bipush (v := nI 30) hx hb d_Mod_round_262 (by decide) ?_
              refine lv_ishl hx hb d_Mod_round_264 ?_
              refine lv_ior hx hb d_Mod_round_265 ?_
              refine lv_iload_n hx hb d_Mod_round_266 rfl (lv_at hl 9 rfl) ?_
              refine lv_bipush (v := nI 13) hx hb d_Mod_round_267 (by decide) ?_
              refine lv_iushr (v := us va (nI 13)) hx hb d_Mod_round_269 rfl ?_
              refine lv_iload_n hx hb d_Mod_round_270 rfl (lv_at hl 9 rfl) ?_
              refine lv_bipush (v := nI 19) hx hb d_Mod_round_271 (by decide) ?_
              refine lv_ishl hx hb d_Mod_round_273 ?_
              refine lv_ior hx hb d_Mod_round_274 ?_
              refine lv_ixor hx hb d_Mod_round_275 ?_
              refine lv_iload_n hx hb d_Mod_round_276 rfl (lv_at hl 9 rfl) ?_
              refine lv_bipush (v := nI 22) hx hb d_Mod_round_277 (by decide) ?_
              refine lv_iushr (v := us va (nI 22)) hx hb d_Mod_round_279 rfl ?_
              refine lv_iload_n hx hb d_Mod_round_280 rfl (lv_at hl 9 rfl) ?_
              refine lv_bipush (v := nI 10) hx hb d_Mod_round_281 (by decide) ?_
              refine lv_ishl hx hb d_Mod_round_283 ?_
              refine lv_ior hx hb d_Mod_round_284 ?_
              refine lv_ixor hx hb d_Mod_round_285 ?_
              refine tope (z := bg0 va) (rfl) ?_
              refine lv_iload_n hx hb d_Mod_round_286 rfl (lv_at hl 9 rfl) ?_
              refine lv_iload_n hx hb d_Mod_round_287 rfl (lv_at hl 8 rfl) ?_
              refine lv_iand hx hb d_Mod_round_288 ?_
              refine lv_iload_n hx hb d_Mod_round_289 rfl (lv_at hl 9 rfl) ?_
              refine lv_iload_n hx hb d_Mod_round_290 rfl (lv_at hl 7 rfl) ?_
              refine lv_iand hx hb d_Mod_round_291 ?_
              refine lv_ixor hx hb d_Mod_round_292 ?_
              refine lv_iload_n hx hb d_Mod_round_293 rfl (lv_at hl 8 rfl) ?_
              refine lv_iload_n hx hb d_Mod_round_294 rfl (lv_at hl 7 rfl) ?_
              refine lv_iand hx hb d_Mod_round_295 ?_
              refine lv_ixor hx hb d_Mod_round_296 ?_
              refine tope (z := mjs va vb vc) (rfl) ?_
              refine lv_iadd hx hb d_Mod_round_297 ?_
              refine lv_istore (lv' := [(11, .int ((bg0 va) + (mjs va vb vc))), (10, .int ((((vh + (bg1 ve)) + (chs ve vf vg)) + (shK i)) + ((exW k6 48) i))), (9, .int (nI i)), (8, .int vh), (7, .int vg), (6, .int vf), (5, .int ve), (4, .int vd), (3, .int vc), (2, .int vb), (1, .int va), (0, .ref y0)]) hx hb d_Mod_round_298 hl (by decide) rfl (fun ls hl => ?_)
              refine lv_iload hx hb d_Mod_round_300 (lv_at hl 4 rfl) ?_
              refine lv_istore (lv' := [(8, .int vg), (11, .int ((bg0 va) + (mjs va vb vc))), (10, .int ((((vh + (bg1 ve)) + (chs ve vf vg)) + (shK i)) + ((exW k6 48) i))), (9, .int (nI i)), (7, .int vg), (6, .int vf), (5, .int ve), (4, .int vd), (3, .int vc), (2, .int vb), (1, .int va), (0, .ref y0)]) hx hb d_Mod_round_302 hl (by decide) rfl (fun ls hl => ?_)
              refine lv_iload hx hb d_Mod_round_304 (lv_at hl 5 rfl) ?_
              refine lv_istore (lv' := [(7, .int vf), (8, .int vg), (11, .int ((bg0 va) + (mjs va vb vc))), (10, .int ((((vh + (bg1 ve)) + (chs ve vf vg)) + (shK i)) + ((exW k6 48) i))), (9, .int (nI i)), (6, .int vf), (5, .int ve), (4, .int vd), (3, .int vc), (2, .int vb), (1, .int va), (0, .ref y0)]) hx hb d_Mod_round_306 hl (by decide) rfl (fun ls hl => ?_)
              refine lv_iload hx hb d_Mod_round_308 (lv_at hl 6 rfl) ?_
              refine lv_istore (lv' := [(6, .int ve), (7, .int vf), (8, .int vg), (11, .int ((bg0 va) + (mjs va vb vc))), (10, .int ((((vh + (bg1 ve)) + (chs ve vf vg)) + (shK i)) + ((exW k6 48) i))), (9, .int (nI i)), (5, .int ve), (4, .int vd), (3, .int vc), (2, .int vb), (1, .int va), (0, .ref y0)]) hx hb d_Mod_round_310 hl (by decide) rfl (fun ls hl => ?_)
              refine lv_iload hx hb d_Mod_round_312 (lv_at hl 7 rfl) ?_
              refine lv_iload hx hb d_Mod_round_314 (lv_at hl 4 rfl) ?_
              refine lv_iadd hx hb d_Mod_round_316 ?_
              refine lv_istore (lv' := [(5, .int (vd + ((((vh + (bg1 ve)) + (chs ve vf vg)) + (shK i)) + ((exW k6 48) i)))), (6, .int ve), (7, .int vf), (8, .int vg), (11, .int ((bg0 va) + (mjs va vb vc))), (10, .int ((((vh + (bg1 ve)) + (chs ve vf vg)) + (shK i)) + ((exW k6 48) i))), (9, .int (nI i)), (4, .int vd), (3, .int vc), (2, .int vb), (1, .int va), (0, .ref y0)]) hx hb d_Mod_round_317 hl (by decide) rfl (fun ls hl => ?_)
              refine lv_iload_n hx hb d_Mod_round_319 rfl (lv_at hl 8 rfl) ?_
              refine lv_istore (lv' := [(4, .int vc), (5, .int (vd + ((((vh + (bg1 ve)) + (chs ve vf vg)) + (shK i)) + ((exW k6 48) i)))), (6, .int ve), (7, .int vf), (8, .int vg), (11, .int ((bg0 va) + (mjs va vb vc))), (10, .int ((((vh + (bg1 ve)) + (chs ve vf vg)) + (shK i)) + ((exW k6 48) i))), (9, .int (nI i)), (3, .int vc), (2, .int vb), (1, .int va), (0, .ref y0)]) hx hb d_Mod_round_320 hl (by decide) rfl (fun ls hl => ?_)
              refine lv_iload_n hx hb d_Mod_round_322 rfl (lv_at hl 9 rfl) ?_
              refine lv_istore_n (lv' := [(3, .int vb), (4, .int vc), (5, .int (vd + ((((vh + (bg1 ve)) + (chs ve vf vg)) + (shK i)) + ((exW k6 48) i)))), (6, .int ve), (7, .int vf), (8, .int vg), (11, .int ((bg0 va) + (mjs va vb vc))), (10, .int ((((vh + (bg1 ve)) + (chs ve vf vg)) + (shK i)) + ((exW k6 48) i))), (9, .int (nI i)), (2, .int vb), (1, .int va), (0, .ref y0)]) hx hb d_Mod_round_323 rfl hl (by decide) rfl (fun ls hl => ?_)
              refine lv_iload_n hx hb d_Mod_round_324 rfl (lv_at hl 10 rfl) ?_
              refine lv_istore_n (lv' := [(2, .int va), (3, .int vb), (4, .int vc), (5, .int (vd + ((((vh + (bg1 ve)) + (chs ve vf vg)) + (shK i)) + ((exW k6 48) i)))), (6, .int ve), (7, .int vf), (8, .int vg), (11, .int ((bg0 va) + (mjs va vb vc))), (10, .int ((((vh + (bg1 ve)) + (chs ve vf vg)) + (shK i)) + ((exW k6 48) i))), (9, .int (nI i)), (1, .int va), (0, .ref y0)]) hx hb d_Mod_round_325 rfl hl (by decide) rfl (fun ls hl => ?_)
              refine lv_iload hx hb d_Mod_round_326 (lv_at hl 8 rfl) ?_
              refine lv_iload hx hb d_Mod_round_328 (lv_at hl 7 rfl) ?_
              refine lv_iadd hx hb d_Mod_round_330 ?_
              refine lv_istore_n (lv' := [(1, .int (((((vh + (bg1 ve)) + (chs ve vf vg)) + (shK i)) + ((exW k6 48) i)) + ((bg0 va) + (mjs va vb vc)))), (2, .int va), (3, .int vb), (4, .int vc), (5, .int (vd + ((((vh + (bg1 ve)) + (chs ve vf vg)) + (shK i)) + ((exW k6 48) i)))), (6, .int ve), (7, .int vf), (8, .int vg), (11, .int ((bg0 va) + (mjs va vb vc))), (10, .int ((((vh + (bg1 ve)) + (chs ve vf vg)) + (shK i)) + ((exW k6 48) i))), (9, .int (nI i)), (0, .ref y0)]) hx hb d_Mod_round_331 rfl hl (by decide) rfl (fun ls hl => ?_)
              refine lv_iinc (k := 10) (v := nI (i + 1)) (lv' := [(9, .int (nI (i + 1))), (1, .int (((((vh + (bg1 ve)) + (chs ve vf vg)) + (shK i)) + ((exW k6 48) i)) + ((bg0 va) + (mjs va vb vc)))), (2, .int va), (3, .int vb), (4, .int vc), (5, .int (vd + ((((vh + (bg1 ve)) + (chs ve vf vg)) + (shK i)) + ((exW k6 48) i)))), (6, .int ve), (7, .int vf), (8, .int vg), (11, .int ((bg0 va) + (mjs va vb vc))), (10, .int ((((vh + (bg1 ve)) + (chs ve vf vg)) + (shK i)) + ((exW k6 48) i))), (0, .ref y0)]) hx hb d_Mod_round_332 hl rfl (iincK i 1) (by decide) rfl (fun ls hl => ?_)
              refine lv_goto hx hb d_Mod_round_335 rfl ?_
              exact ih182 (i + 1) (((((vh + bg1 ve) + chs ve vf vg) + shK i) + (exW k6 48) i) + (bg0 va + mjs va vb vc)) va vb vc (vd + ((((vh + bg1 ve) + chs ve vf vg) + shK i) + (exW k6 48) i)) ve vf vg H locs ls (by omega) (by omega) (by show rd1 (shK i) ((exW k6 48) i) (mx (exW k6 48) (k7 0, k7 1, k7 2, k7 3, k7 4, k7 5, k7 6, k7 7) i) = _; rw [hinv]; rfl) hP hD hS (lv_sub hl [0, 8, 7, 6, 5, 4, 3, 2, 1, 11] rfl)
        exact hloop182 (64 + 1) 0 (k7 0) (k7 1) (k7 2) (k7 3) (k7 4) (k7 5) (k7 6) (k7 7) H locs ls (by omega) (by omega) (rfl) hP hD hS (lv_sub hl [0, 1, 2, 3, 4, 5, 6, 7, 8, 9] rfl)
      · refine lv_aload_n hx hb d_Mod_round_9 rfl (lv_at hl 1 rfl) ?_
        refine n_get C fg_Mod_26 hP 0 rfl rfl d_Mod_round_10 ?_
        refine lv_iload_n hx hb d_Mod_round_13 rfl (lv_at hl 0 rfl) ?_
        refine lv_bipush (v := nI 15) hx hb d_Mod_round_14 (by decide) ?_
        refine lv_isub hx hb d_Mod_round_16 ?_
        refine tope (z := nI ((16 + i) - 15)) (pk_sub (by omega)) ?_
        refine tope (z := nI (i + 1)) (congrArg nI (by omega)) ?_
        refine n_iald C hP 1 rfl (i + 1) rfl (by omega) (by omega) d_Mod_round_17 ?_
        refine lv_istore_n (lv' := [(2, .int ((exW k6 i) (i + 1))), (1, .int (nI (16 + i))), (0, .ref y0)]) hx hb d_Mod_round_18 rfl hl (by decide) rfl (fun ls hl => ?_)
        refine lv_aload_n hx hb d_Mod_round_19 rfl (lv_at hl 2 rfl) ?_
        refine n_get C fg_Mod_26 hP 0 rfl rfl d_Mod_round_20 ?_
        refine lv_iload_n hx hb d_Mod_round_23 rfl (lv_at hl 1 rfl) ?_
        refine lv_iconst (v := nI 2) hx hb d_Mod_round_24 (by decide) ?_
        refine lv_isub hx hb d_Mod_round_25 ?_
        refine tope (z := nI ((16 + i) - 2)) (pk_sub (by omega)) ?_
        refine tope (z := nI (i + 14)) (congrArg nI (by omega)) ?_
        refine n_iald C hP 1 rfl (i + 14) rfl (by omega) (by omega) d_Mod_round_26 ?_
        refine lv_istore_n (lv' := [(3, .int ((exW k6 i) (i + 14))), (2, .int ((exW k6 i) (i + 1))), (1, .int (nI (16 + i))), (0, .ref y0)]) hx hb d_Mod_round_27 rfl hl (by decide) rfl (fun ls hl => ?_)
        refine lv_iload_n hx hb d_Mod_round_28 rfl (lv_at hl 1 rfl) ?_
        refine lv_bipush (v := nI 7) hx hb d_Mod_round_29 (by decide) ?_
        refine lv_iushr (v := us ((exW k6 i) (i + 1)) (nI 7)) hx hb d_Mod_round_31 rfl ?_
        refine lv_iload_n hx hb d_Mod_round_32 rfl (lv_at hl 1 rfl) ?_
        refine lv_bipush (v := nI 25) hx hb d_Mod_round_33 (by decide) ?_
        refine lv_ishl hx hb d_Mod_round_35 ?_
        refine lv_ior hx hb d_Mod_round_36 ?_
        refine lv_iload_n hx hb d_Mod_round_37 rfl (lv_at hl 1 rfl) ?_
        refine lv_bipush (v := nI 18) hx hb d_Mod_round_38 (by decide) ?_
        refine lv_iushr (v := us ((exW k6 i) (i + 1)) (nI 18)) hx hb d_Mod_round_40 rfl ?_
        refine lv_iload_n hx hb d_Mod_round_41 rfl (lv_at hl 1 rfl) ?_
        refine lv_bipush (v := nI 14) hx hb d_Mod_round_42 (by decide) ?_
        refine lv_ishl hx hb d_Mod_round_44 ?_
        refine lv_ior hx hb d_Mod_round_45 ?_
        refine lv_ixor hx hb d_Mod_round_46 ?_
        refine lv_iload_n hx hb d_Mod_round_47 rfl (lv_at hl 1 rfl) ?_
        refine lv_iconst (v := nI 3) hx hb d_Mod_round_48 (by decide) ?_
        refine lv_iushr (v := us ((exW k6 i) (i + 1)) (nI 3)) hx hb d_Mod_round_49 rfl ?_
        refine lv_ixor hx hb d_Mod_round_50 ?_
        refine tope (z := sg0 (exW k6 i (i + 1))) (rfl) ?_
        refine lv_istore (lv' := [(4, .int (sg0 (exW k6 i (i + 1)))), (3, .int ((exW k6 i) (i + 14))), (2, .int ((exW k6 i) (i + 1))), (1, .int (nI (16 + i))), (0, .ref y0)]) hx hb d_Mod_round_51 hl (by decide) rfl (fun ls hl => ?_)
        refine lv_iload_n hx hb d_Mod_round_53 rfl (lv_at hl 1 rfl) ?_
        refine lv_bipush (v := nI 17) hx hb d_Mod_round_54 (by decide) ?_
        refine lv_iushr (v := us ((exW k6 i) (i + 14)) (nI 17)) hx hb d_Mod_round_56 rfl ?_
        refine lv_iload_n hx hb d_Mod_round_57 rfl (lv_at hl 1 rfl) ?_
        refine lv_bipush (v := nI 15) hx hb d_Mod_round_58 (by decide) ?_
        refine lv_ishl hx hb d_Mod_round_60 ?_
        refine lv_ior hx hb d_Mod_round_61 ?_
        refine lv_iload_n hx hb d_Mod_round_62 rfl (lv_at hl 1 rfl) ?_
        refine lv_bipush (v := nI 19) hx hb d_Mod_round_63 (by decide) ?_
        refine lv_iushr (v := us ((exW k6 i) (i + 14)) (nI 19)) hx hb d_Mod_round_65 rfl ?_
        refine lv_iload_n hx hb d_Mod_round_66 rfl (lv_at hl 1 rfl) ?_
        refine lv_bipush (v := nI 13) hx hb d_Mod_round_67 (by decide) ?_
        refine lv_ishl hx hb d_Mod_round_69 ?_
        refine lv_ior hx hb d_Mod_round_70 ?_
        refine lv_ixor hx hb d_Mod_round_71 ?_
        refine lv_iload_n hx hb d_Mod_round_72 rfl (lv_at hl 1 rfl) ?_
        refine lv_bipush (v := nI 10) hx hb d_Mod_round_73 (by decide) ?_
        refine lv_iushr (v := us ((exW k6 i) (i + 14)) (nI 10)) hx hb d_Mod_round_75 rfl ?_
        refine lv_ixor hx hb d_Mod_round_76 ?_
        refine tope (z := sg1 (exW k6 i (i + 14))) (rfl) ?_
        refine lv_istore (lv' := [(5, .int (sg1 (exW k6 i (i + 14)))), (4, .int (sg0 (exW k6 i (i + 1)))), (3, .int ((exW k6 i) (i + 14))), (2, .int ((exW k6 i) (i + 1))), (1, .int (nI (16 + i))), (0, .ref y0)]) hx hb d_Mod_round_77 hl (by decide) rfl (fun ls hl => ?_)
        refine lv_aload_n hx hb d_Mod_round_79 rfl (lv_at hl 5 rfl) ?_
        refine n_get C fg_Mod_26 hP 0 rfl rfl d_Mod_round_80 ?_
        refine lv_iload_n hx hb d_Mod_round_83 rfl (lv_at hl 4 rfl) ?_
        refine lv_aload_n hx hb d_Mod_round_84 rfl (lv_at hl 5 rfl) ?_
        refine n_get C fg_Mod_26 hP 0 rfl rfl d_Mod_round_85 ?_
        refine lv_iload_n hx hb d_Mod_round_88 rfl (lv_at hl 4 rfl) ?_
        refine lv_bipush (v := nI 16) hx hb d_Mod_round_89 (by decide) ?_
        refine lv_isub hx hb d_Mod_round_91 ?_
        refine tope (z := nI ((16 + i) - 16)) (pk_sub (by omega)) ?_
        refine tope (z := nI i) (congrArg nI (by omega)) ?_
        refine n_iald C hP 1 rfl i rfl (by omega) (by omega) d_Mod_round_92 ?_
        refine lv_iload hx hb d_Mod_round_93 (lv_at hl 1 rfl) ?_
        refine lv_iadd hx hb d_Mod_round_95 ?_
        refine lv_aload_n hx hb d_Mod_round_96 rfl (lv_at hl 5 rfl) ?_
        refine n_get C fg_Mod_26 hP 0 rfl rfl d_Mod_round_97 ?_
        refine lv_iload_n hx hb d_Mod_round_100 rfl (lv_at hl 4 rfl) ?_
        refine lv_bipush (v := nI 7) hx hb d_Mod_round_101 (by decide) ?_
        refine lv_isub hx hb d_Mod_round_103 ?_
        refine tope (z := nI ((16 + i) - 7)) (pk_sub (by omega)) ?_
        refine tope (z := nI (i + 9)) (congrArg nI (by omega)) ?_
        refine n_iald C hP 1 rfl (i + 9) rfl (by omega) (by omega) d_Mod_round_104 ?_
        refine lv_iadd hx hb d_Mod_round_105 ?_
        refine lv_iload hx hb d_Mod_round_106 (lv_at hl 0 rfl) ?_
        refine lv_iadd hx hb d_Mod_round_108 ?_
        refine n_iast C hP hD hS 1 rfl (16 + i) rfl (by omega) (by omega) d_Mod_round_109 (fun H locs hP hD hS => ?_)
        have hP : va_P E.1 clz [(y0, .inr (7, [.ref ya, .int (nI nt), .ref yo, .int (nI no), .ref ym, .ref yl, .ref yg, .ref yw, .ref yh, .ref yc, .ref yd, .ref yb, .ref yk, .ref yz, .int (nI nd), .int (b2 fl), .ref yr])), (yw, .inl (E.2.2.1, 64, .inl (upd (exW k6 i) (16 + i) (((((exW k6 i) i) + (sg0 (exW k6 i (i + 1)))) + ((exW k6 i) (i + 9))) + (sg1 (exW k6 i (i + 14))))))), (yh, .inl (E.2.2.1, 8, .inl k7))] H := hP
        have hD : va_D A [(y0, .inr (7, [.ref ya, .int (nI nt), .ref yo, .int (nI no), .ref ym, .ref yl, .ref yg, .ref yw, .ref yh, .ref yc, .ref yd, .ref yb, .ref yk, .ref yz, .int (nI nd), .int (b2 fl), .ref yr])), (yw, .inl (E.2.2.1, 64, .inl (upd (exW k6 i) (16 + i) (((((exW k6 i) i) + (sg0 (exW k6 i (i + 1)))) + ((exW k6 i) (i + 9))) + (sg1 (exW k6 i (i + 14))))))), (yh, .inl (E.2.2.1, 8, .inl k7))] := hD
        have hP : va_P E.1 clz [(y0, .inr (7, [.ref ya, .int (nI nt), .ref yo, .int (nI no), .ref ym, .ref yl, .ref yg, .ref yw, .ref yh, .ref yc, .ref yd, .ref yb, .ref yk, .ref yz, .int (nI nd), .int (b2 fl), .ref yr])), (yw, .inl (E.2.2.1, 64, .inl (exW k6 (i + 1)))), (yh, .inl (E.2.2.1, 8, .inl k7))] H := hP
        have hD : va_D A [(y0, .inr (7, [.ref ya, .int (nI nt), .ref yo, .int (nI no), .ref ym, .ref yl, .ref yg, .ref yw, .ref yh, .ref yc, .ref yd, .ref yb, .ref yk, .ref yz, .int (nI nd), .int (b2 fl), .ref yr])), (yw, .inl (E.2.2.1, 64, .inl (exW k6 (i + 1)))), (yh, .inl (E.2.2.1, 8, .inl k7))] := hD
        refine lv_iinc (k := 4) (v := nI (16 + i + 1)) (lv' := [(1, .int (nI (16 + i + 1))), (5, .int (sg1 (exW k6 i (i + 14)))), (4, .int (sg0 (exW k6 i (i + 1)))), (3, .int ((exW k6 i) (i + 14))), (2, .int ((exW k6 i) (i + 1))), (0, .ref y0)]) hx hb d_Mod_round_110 hl rfl (iincK (16 + i) 1) (by decide) rfl (fun ls hl => ?_)
        refine lv_goto hx hb d_Mod_round_113 rfl ?_
        exact ih3 (i + 1) H locs ls (by omega) (by omega) hP hD hS (lv_sub hl [0, 5] rfl)
  exact hloop3 (48 + 1) 0 H locs ls (by omega) (by omega) hP hD hS (lv_sub hl [0, 1] rfl)

set_option maxHeartbeats 4000000 in
set_option maxRecDepth 100000 in
theorem c_Mod_sha (l : Launch) (E : En) (y0 ya yo ym yl yg yw yh yc yd yb yk yz yr nt no nd : Nat) (fl : Bool) (g0 Mg o n ta t0 Mt : Nat) (k6 k7 g t : Nat → Int32) (hn : o + n ≤ Mg) (hM : Mg < 2 ^ 20) (hta : ta + 32 ≤ Mt) (hMt : Mt < 2 ^ 20) : CtV l y_Mod_sha5 b_Mod_sha5 13 (rmd 1) E [.ref y0, .ref g0, .int (nI o), .int (nI n), .ref t0, .int (nI ta)] [(y0, .inr (7, [.ref ya, .int (nI nt), .ref yo, .int (nI no), .ref ym, .ref yl, .ref yg, .ref yw, .ref yh, .ref yc, .ref yd, .ref yb, .ref yk, .ref yz, .int (nI nd), .int (b2 fl), .ref yr])), (yw, .inl (E.2.2.1, 64, .inl k6)), (yh, .inl (E.2.2.1, 8, .inl k7)), (g0, .inl (E.2.1, Mg, .inl g)), (t0, .inl (E.2.1, Mt, .inl t))] (fun w => ∃ (w1 h1 : Nat → Int32), w = [(y0, .inr (7, [.ref ya, .int (nI nt), .ref yo, .int (nI no), .ref ym, .ref yl, .ref yg, .ref yw, .ref yh, .ref yc, .ref yd, .ref yb, .ref yk, .ref yz, .int (nI nd), .int (b2 fl), .ref yr])), (yw, .inl (E.2.2.1, 64, .inl w1)), (yh, .inl (E.2.2.1, 8, .inl h1)), (g0, .inl (E.2.1, Mg, .inl g)), (t0, .inl (E.2.1, Mt, .inl (va_cpy (shaF (fun q => g (o + q)) n) t 0 ta 32)))]) := by
  refine CtV.of (by decide) (Nat.le_of_ble_eq_true rfl) ?_
  intro p e s m args below meth c A Q H locs ls C hP hD hS hl kret
  have hx := C.1
  have hb := C.2.1
  have hl : lv_has ls 13 [(0, .ref y0), (1, .ref g0), (2, .int (nI o)), (3, .int (nI n)), (4, .ref t0), (5, .int (nI ta))] := hl
  refine lv_iconst (v := nI 0) hx hb d_Mod_sha5_0 (by decide) ?_
  refine lv_istore (lv' := [(6, .int (nI 0)), (0, .ref y0), (1, .ref g0), (2, .int (nI o)), (3, .int (nI n)), (4, .ref t0), (5, .int (nI ta))]) hx hb d_Mod_sha5_1 hl (by decide) rfl (fun ls hl => ?_)
  rw [← cpy_zero shS k7 0 0] at hP hD
  have hloop3 : ∀ (dd : Nat) (i : Nat) (H : Heap) (locs : List Loc) (ls : Array Slot), 8 - i < dd → (i ≤ 8) → va_P E.1 clz [(y0, .inr (7, [.ref ya, .int (nI nt), .ref yo, .int (nI no), .ref ym, .ref yl, .ref yg, .ref yw, .ref yh, .ref yc, .ref yd, .ref yb, .ref yk, .ref yz, .int (nI nd), .int (b2 fl), .ref yr])), (yw, .inl (E.2.2.1, 64, .inl k6)), (yh, .inl (E.2.2.1, 8, .inl (va_cpy shS k7 0 0 i))), (g0, .inl (E.2.1, Mg, .inl g)), (t0, .inl (E.2.1, Mt, .inl t))] H → va_D A [(y0, .inr (7, [.ref ya, .int (nI nt), .ref yo, .int (nI no), .ref ym, .ref yl, .ref yg, .ref yw, .ref yh, .ref yc, .ref yd, .ref yb, .ref yk, .ref yz, .int (nI nd), .int (b2 fl), .ref yr])), (yw, .inl (E.2.2.1, 64, .inl k6)), (yh, .inl (E.2.2.1, 8, .inl (va_cpy shS k7 0 0 i))), (g0, .inl (E.2.1, Mg, .inl g)), (t0, .inl (E.2.1, Mt, .inl t))] → va_S A s.heap H locs → lv_has ls 13 [(6, .int (nI i)), (5, .int (nI ta)), (4, .ref t0), (3, .int (nI n)), (2, .int (nI o)), (1, .ref g0), (0, .ref y0)] → W p l e (rmd 1) s m args below meth c H locs 0 0 Q (F0 m 3 ls []) := by
    intro dd
    induction dd with
    | zero => intro i H locs ls hmz; exact absurd hmz (Nat.not_lt_zero _)
    | succ dd ih3 =>
      intro i H locs ls hmz hi hP hD hS hl
      refine lv_iload hx hb d_Mod_sha5_3 (lv_at hl 0 rfl) ?_
      refine lv_bipush (v := nI 8) hx hb d_Mod_sha5_5 (by decide) ?_
      refine j_ge C i 8 rfl rfl (by omega) (by omega) d_Mod_sha5_7 rfl (fun hc1 => ?_) (fun hc1 => ?_)
      · obtain rfl : i = 8 := by omega
        refine lv_iload_n hx hb d_Mod_sha5_29 rfl (lv_at hl 3 rfl) ?_
        refine lv_bipush (v := nI 9) hx hb d_Mod_sha5_30 (by decide) ?_
        refine lv_iadd hx hb d_Mod_sha5_32 ?_
        refine tope (z := nI (n + 9)) (nI_add _ _) ?_
        refine lv_bipush (v := nI 63) hx hb d_Mod_sha5_33 (by decide) ?_
        refine lv_iadd hx hb d_Mod_sha5_35 ?_
        refine tope (z := nI (n + 72)) ((nI_add _ _).trans (congrArg nI (by omega))) ?_
        refine lv_bipush (v := nI 64) hx hb d_Mod_sha5_36 (by decide) ?_
        refine lv_idiv hx hb d_Mod_sha5_38 (nI_ne0 (by omega) (by omega)) ?_
        refine tope (z := nI ((n + 72) / 64)) (pk_div (by omega) (by omega) (by omega)) ?_
        refine lv_bipush (v := nI 64) hx hb d_Mod_sha5_39 (by decide) ?_
        refine lv_imul hx hb d_Mod_sha5_41 ?_
        refine tope (z := nI (((n + 72) / 64) * 64)) (pk_mul _ _) ?_
        refine lv_istore (lv' := [(6, .int (nI (((n + 72) / 64) * 64))), (5, .int (nI ta)), (4, .ref t0), (3, .int (nI n)), (2, .int (nI o)), (1, .ref g0), (0, .ref y0)]) hx hb d_Mod_sha5_42 hl (by decide) rfl (fun ls hl => ?_)
        refine lv_iconst (v := nI 0) hx hb d_Mod_sha5_44 (by decide) ?_
        refine lv_istore (lv' := [(7, .int (nI 0)), (6, .int (nI (((n + 72) / 64) * 64))), (5, .int (nI ta)), (4, .ref t0), (3, .int (nI n)), (2, .int (nI o)), (1, .ref g0), (0, .ref y0)]) hx hb d_Mod_sha5_45 hl (by decide) rfl (fun ls hl => ?_)
        have hloop47 : ∀ (dd : Nat) (j : Nat) (sv : Nat → Int32) (wy : Nat → Int32) (H : Heap) (locs : List Loc) (ls : Array Slot), (n + 72) / 64 - j < dd → (j ≤ (n + 72) / 64) → (∀ k, k < 8 → sv k = stN (fun q => g (o + q)) n j k) → va_P E.1 clz [(y0, .inr (7, [.ref ya, .int (nI nt), .ref yo, .int (nI no), .ref ym, .ref yl, .ref yg, .ref yw, .ref yh, .ref yc, .ref yd, .ref yb, .ref yk, .ref yz, .int (nI nd), .int (b2 fl), .ref yr])), (yw, .inl (E.2.2.1, 64, .inl wy)), (yh, .inl (E.2.2.1, 8, .inl sv)), (g0, .inl (E.2.1, Mg, .inl g)), (t0, .inl (E.2.1, Mt, .inl t))] H → va_D A [(y0, .inr (7, [.ref ya, .int (nI nt), .ref yo, .int (nI no), .ref ym, .ref yl, .ref yg, .ref yw, .ref yh, .ref yc, .ref yd, .ref yb, .ref yk, .ref yz, .int (nI nd), .int (b2 fl), .ref yr])), (yw, .inl (E.2.2.1, 64, .inl wy)), (yh, .inl (E.2.2.1, 8, .inl sv)), (g0, .inl (E.2.1, Mg, .inl g)), (t0, .inl (E.2.1, Mt, .inl t))] → va_S A s.heap H locs → lv_has ls 13 [(7, .int (nI (j * 64))), (6, .int (nI (((n + 72) / 64) * 64))), (5, .int (nI ta)), (4, .ref t0), (3, .int (nI n)), (2, .int (nI o)), (1, .ref g0), (0, .ref y0)] → W p l e (rmd 1) s m args below meth c H locs 0 0 Q (F0 m 47 ls []) := by
          intro dd
          induction dd with
          | zero => intro j sv wy H locs ls hmz; exact absurd hmz (Nat.not_lt_zero _)
          | succ dd ih47 =>
            intro j sv wy H locs ls hmz hj hst hP hD hS hl
            refine lv_iload hx hb d_Mod_sha5_47 (lv_at hl 0 rfl) ?_
            refine lv_iload hx hb d_Mod_sha5_49 (lv_at hl 1 rfl) ?_
            refine j_ge C (j * 64) (((n + 72) / 64) * 64) rfl rfl (by omega) (by omega) d_Mod_sha5_51 rfl (fun hc2 => ?_) (fun hc2 => ?_)
            · refine lv_iconst (v := nI 0) hx hb d_Mod_sha5_197 (by decide) ?_
              refine lv_istore (lv' := [(7, .int (nI 0)), (6, .int (nI (((n + 72) / 64) * 64))), (5, .int (nI ta)), (4, .ref t0), (3, .int (nI n)), (2, .int (nI o)), (1, .ref g0), (0, .ref y0)]) hx hb d_Mod_sha5_198 hl (by decide) rfl (fun ls hl => ?_)
              have hst : ∀ k, k < 8 → sv k = stN (fun q => g (o + q)) n (lstB n + 1) k := by rw [show lstB n + 1 = j by unfold lstB; omega]; exact hst
              rw [← cpy_zero (shaF (fun q => g (o + q)) n) t 0 ta] at hP hD
              have hloop200 : ∀ (dd : Nat) (i : Nat) (H : Heap) (locs : List Loc) (ls : Array Slot), 32 - i < dd → (i ≤ 32) → va_P E.1 clz [(y0, .inr (7, [.ref ya, .int (nI nt), .ref yo, .int (nI no), .ref ym, .ref yl, .ref yg, .ref yw, .ref yh, .ref yc, .ref yd, .ref yb, .ref yk, .ref yz, .int (nI nd), .int (b2 fl), .ref yr])), (yw, .inl (E.2.2.1, 64, .inl wy)), (yh, .inl (E.2.2.1, 8, .inl sv)), (g0, .inl (E.2.1, Mg, .inl g)), (t0, .inl (E.2.1, Mt, .inl (va_cpy (shaF (fun q => g (o + q)) n) t 0 ta i)))] H → va_D A [(y0, .inr (7, [.ref ya, .int (nI nt), .ref yo, .int (nI no), .ref ym, .ref yl, .ref yg, .ref yw, .ref yh, .ref yc, .ref yd, .ref yb, .ref yk, .ref yz, .int (nI nd), .int (b2 fl), .ref yr])), (yw, .inl (E.2.2.1, 64, .inl wy)), (yh, .inl (E.2.2.1, 8, .inl sv)), (g0, .inl (E.2.1, Mg, .inl g)), (t0, .inl (E.2.1, Mt, .inl (va_cpy (shaF (fun q => g (o + q)) n) t 0 ta i)))] → va_S A s.heap H locs → lv_has ls 13 [(7, .int (nI i)), (5, .int (nI ta)), (4, .ref t0), (3, .int (nI n)), (2, .int (nI o)), (1, .ref g0), (0, .ref y0)] → W p l e (rmd 1) s m args below meth c H locs 0 0 Q (F0 m 200 ls []) := by
                intro dd
                induction dd with
                | zero => intro i H locs ls hmz; exact absurd hmz (Nat.not_lt_zero _)
                | succ dd ih200 =>
                  intro i H locs ls hmz hi hP hD hS hl
                  refine lv_iload hx hb d_Mod_sha5_200 (lv_at hl 0 rfl) ?_
                  refine lv_bipush (v := nI 32) hx hb d_Mod_sha5_202 (by decide) ?_
                  refine j_ge C i 32 rfl rfl (by omega) (by omega) d_Mod_sha5_204 rfl (fun hc3 => ?_) (fun hc3 => ?_)
                  · obtain rfl : i = 32 := by omega
                    exact kret [(y0, .inr (7, [.ref ya, .int (nI nt), .ref yo, .int (nI no), .ref ym, .ref yl, .ref yg, .ref yw, .ref yh, .ref yc, .ref yd, .ref yb, .ref yk, .ref yz, .int (nI nd), .int (b2 fl), .ref yr])), (yw, .inl (E.2.2.1, 64, .inl wy)), (yh, .inl (E.2.2.1, 8, .inl sv)), (g0, .inl (E.2.1, Mg, .inl g)), (t0, .inl (E.2.1, Mt, .inl (va_cpy (shaF (fun q => g (o + q)) n) t 0 ta 32)))] _ _ _ _ d_Mod_sha5_242 (⟨_, _, rfl⟩) rfl hP hS
                  · refine lv_aload hx hb d_Mod_sha5_207 (lv_at hl 2 rfl) ?_
                    refine lv_iload hx hb d_Mod_sha5_209 (lv_at hl 1 rfl) ?_
                    refine lv_iload hx hb d_Mod_sha5_211 (lv_at hl 0 rfl) ?_
                    refine lv_iadd hx hb d_Mod_sha5_213 ?_
                    refine tope (z := nI (ta + i)) (nI_add _ _) ?_
                    refine lv_aload_n hx hb d_Mod_sha5_214 rfl (lv_at hl 6 rfl) ?_
                    refine n_get C fg_Mod_29 hP 0 rfl rfl d_Mod_sha5_215 ?_
                    refine lv_iload hx hb d_Mod_sha5_218 (lv_at hl 0 rfl) ?_
                    refine lv_iconst (v := nI 4) hx hb d_Mod_sha5_220 (by decide) ?_
                    refine lv_idiv hx hb d_Mod_sha5_221 (nI_ne0 (by omega) (by omega)) ?_
                    refine tope (z := nI (i / 4)) (pk_div (by omega) (by omega) (by omega)) ?_
                    refine n_iald C hP 2 rfl (i / 4) rfl (by omega) (by omega) d_Mod_sha5_222 ?_
                    refine lv_bipush (v := nI 24) hx hb d_Mod_sha5_223 (by decide) ?_
                    refine lv_bipush (v := nI 8) hx hb d_Mod_sha5_225 (by decide) ?_
                    refine lv_iload hx hb d_Mod_sha5_227 (lv_at hl 0 rfl) ?_
                    refine lv_iconst (v := nI 4) hx hb d_Mod_sha5_229 (by decide) ?_
                    refine lv_irem hx hb d_Mod_sha5_230 (nI_ne0 (by omega) (by omega)) ?_
                    refine tope (z := nI (i % 4)) (pk_rem (by omega) (by omega) (by omega)) ?_
                    refine lv_imul hx hb d_Mod_sha5_231 ?_
                    refine tope (z := nI (8 * (i % 4))) (pk_mul _ _) ?_
                    refine lv_isub hx hb d_Mod_sha5_232 ?_
                    refine tope (z := nI (24 - (8 * (i % 4)))) (pk_sub (by omega)) ?_
                    refine lv_iushr (v := us (sv (i / 4)) (nI (24 - (8 * (i % 4))))) hx hb d_Mod_sha5_233 rfl ?_
                    refine lv_i2b (v := nb (us (sv (i / 4)) (nI (24 - (8 * (i % 4)))))) hx hb d_Mod_sha5_234 rfl ?_
                    refine n_bast (z := nb (us (sv (i / 4)) (nI (24 - (8 * (i % 4)))))) C hP hD hS 4 rfl (ta + i) rfl (nb_nb _) (by omega) (by omega) d_Mod_sha5_235 (fun H locs hP hD hS => ?_)
                    have hP : va_P E.1 clz [(y0, .inr (7, [.ref ya, .int (nI nt), .ref yo, .int (nI no), .ref ym, .ref yl, .ref yg, .ref yw, .ref yh, .ref yc, .ref yd, .ref yb, .ref yk, .ref yz, .int (nI nd), .int (b2 fl), .ref yr])), (yw, .inl (E.2.2.1, 64, .inl wy)), (yh, .inl (E.2.2.1, 8, .inl sv)), (g0, .inl (E.2.1, Mg, .inl g)), (t0, .inl (E.2.1, Mt, .inl (upd (va_cpy (shaF (fun q => g (o + q)) n) t 0 ta i) (ta + i) (nb (us (sv (i / 4)) (nI (24 - (8 * (i % 4)))))))))] H := hP
                    have hD : va_D A [(y0, .inr (7, [.ref ya, .int (nI nt), .ref yo, .int (nI no), .ref ym, .ref yl, .ref yg, .ref yw, .ref yh, .ref yc, .ref yd, .ref yb, .ref yk, .ref yz, .int (nI nd), .int (b2 fl), .ref yr])), (yw, .inl (E.2.2.1, 64, .inl wy)), (yh, .inl (E.2.2.1, 8, .inl sv)), (g0, .inl (E.2.1, Mg, .inl g)), (t0, .inl (E.2.1, Mt, .inl (upd (va_cpy (shaF (fun q => g (o + q)) n) t 0 ta i) (ta + i) (nb (us (sv (i / 4)) (nI (24 - (8 * (i % 4)))))))))] := hD
                    rw [cpy_step (S := shaF (fun q => g (o + q)) n) (t := t) (d := ta) (i := i) (by show nb _ = nb _; rw [← hst (i / 4) (by omega), Nat.mul_comm 8])] at hP hD
                    have hP : va_P E.1 clz [(y0, .inr (7, [.ref ya, .int (nI nt), .ref yo, .int (nI no), .ref ym, .ref yl, .ref yg, .ref yw, .ref yh, .ref yc, .ref yd, .ref yb, .ref yk, .ref yz, .int (nI nd), .int (b2 fl), .ref yr])), (yw, .inl (E.2.2.1, 64, .inl wy)), (yh, .inl (E.2.2.1, 8, .inl sv)), (g0, .inl (E.2.1, Mg, .inl g)), (t0, .inl (E.2.1, Mt, .inl (va_cpy (shaF (fun q => g (o + q)) n) t 0 ta (i + 1))))] H := hP
                    have hD : va_D A [(y0, .inr (7, [.ref ya, .int (nI nt), .ref yo, .int (nI no), .ref ym, .ref yl, .ref yg, .ref yw, .ref yh, .ref yc, .ref yd, .ref yb, .ref yk, .ref yz, .int (nI nd), .int (b2 fl), .ref yr])), (yw, .inl (E.2.2.1, 64, .inl wy)), (yh, .inl (E.2.2.1, 8, .inl sv)), (g0, .inl (E.2.1, Mg, .inl g)), (t0, .inl (E.2.1, Mt, .inl (va_cpy (shaF (fun q => g (o + q)) n) t 0 ta (i + 1))))] := hD
                    refine lv_iinc (k := 0) (v := nI (i + 1)) (lv' := [(7, .int (nI (i + 1))), (5, .int (nI ta)), (4, .ref t0), (3, .int (nI n)), (2, .int (nI o)), (1, .ref g0), (0, .ref y0)]) hx hb d_Mod_sha5_236 hl rfl (iincK i 1) (by decide) rfl (fun ls hl => ?_)
                    refine lv_goto hx hb d_Mod_sha5_239 rfl ?_
                    exact ih200 (i + 1) H locs ls (by omega) (by omega) hP hD hS (lv_sub hl [0, 1, 2, 3, 4, 5, 6] rfl)
              exact hloop200 (32 + 1) 0 H locs ls (by omega) (by omega) hP hD hS (lv_sub hl [0, 2, 3, 4, 5, 6, 7] rfl)
            · refine lv_iconst (v := nI 0) hx hb d_Mod_sha5_54 (by decide) ?_
              refine lv_istore (lv' := [(8, .int (nI 0)), (7, .int (nI (j * 64))), (6, .int (nI (((n + 72) / 64) * 64))), (5, .int (nI ta)), (4, .ref t0), (3, .int (nI n)), (2, .int (nI o)), (1, .ref g0), (0, .ref y0)]) hx hb d_Mod_sha5_55 hl (by decide) rfl (fun ls hl => ?_)
              have hloop57 : ∀ (dd : Nat) (kk : Nat) (w9 : Nat → Int32) (H : Heap) (locs : List Loc) (ls : Array Slot), 16 - kk < dd → (kk ≤ 16) → (∀ k, k < kk → w9 k = wds (fun q => g (o + q)) n j k) → va_P E.1 clz [(y0, .inr (7, [.ref ya, .int (nI nt), .ref yo, .int (nI no), .ref ym, .ref yl, .ref yg, .ref yw, .ref yh, .ref yc, .ref yd, .ref yb, .ref yk, .ref yz, .int (nI nd), .int (b2 fl), .ref yr])), (yw, .inl (E.2.2.1, 64, .inl w9)), (yh, .inl (E.2.2.1, 8, .inl sv)), (g0, .inl (E.2.1, Mg, .inl g)), (t0, .inl (E.2.1, Mt, .inl t))] H → va_D A [(y0, .inr (7, [.ref ya, .int (nI nt), .ref yo, .int (nI no), .ref ym, .ref yl, .ref yg, .ref yw, .ref yh, .ref yc, .ref yd, .ref yb, .ref yk, .ref yz, .int (nI nd), .int (b2 fl), .ref yr])), (yw, .inl (E.2.2.1, 64, .inl w9)), (yh, .inl (E.2.2.1, 8, .inl sv)), (g0, .inl (E.2.1, Mg, .inl g)), (t0, .inl (E.2.1, Mt, .inl t))] → va_S A s.heap H locs → lv_has ls 13 [(8, .int (nI kk)), (7, .int (nI (j * 64))), (6, .int (nI (((n + 72) / 64) * 64))), (5, .int (nI ta)), (4, .ref t0), (3, .int (nI n)), (2, .int (nI o)), (1, .ref g0), (0, .ref y0)] → W p l e (rmd 1) s m args below meth c H locs 0 0 Q (F0 m 57 ls []) := by
                intro dd
                induction dd with
                | zero => intro kk w9 H locs ls hmz; exact absurd hmz (Nat.not_lt_zero _)
                | succ dd ih57 =>
                  intro kk w9 H locs ls hmz hkk hw9 hP hD hS hl
                  refine lv_iload hx hb d_Mod_sha5_57 (lv_at hl 0 rfl) ?_
                  refine lv_bipush (v := nI 16) hx hb d_Mod_sha5_59 (by decide) ?_
                  refine j_ge C kk 16 rfl rfl (by omega) (by omega) d_Mod_sha5_61 rfl (fun hc4 => ?_) (fun hc4 => ?_)
                  · refine lv_aload_n hx hb d_Mod_sha5_187 rfl (lv_at hl 8 rfl) ?_
                    refine cal_V (As := []) (rest := []) C lk_Mod_59 (c_Mod_round l E y0 ya yo ym yl yg yw yh yc yd yb yk yz yr nt no nd fl w9 sv) (by decide) hP hD hS 0 7 rfl rfl [0, 1, 2] rfl (by decide) hl.1 rfl (Nat.le_of_ble_eq_true rfl) d_Mod_sha5_188 (fun w1 H locs hp6 hP hD hS => ?_)
                    obtain rfl := hp6
                    have hP : va_P E.1 clz [(y0, .inr (7, [.ref ya, .int (nI nt), .ref yo, .int (nI no), .ref ym, .ref yl, .ref yg, .ref yw, .ref yh, .ref yc, .ref yd, .ref yb, .ref yk, .ref yz, .int (nI nd), .int (b2 fl), .ref yr])), (yw, .inl (E.2.2.1, 64, .inl (exW w9 48))), (yh, .inl (E.2.2.1, 8, .inl (blkF (exW w9 48) sv))), (g0, .inl (E.2.1, Mg, .inl g)), (t0, .inl (E.2.1, Mt, .inl t))] H := hP
                    have hD : va_D A [(y0, .inr (7, [.ref ya, .int (nI nt), .ref yo, .int (nI no), .ref ym, .ref yl, .ref yg, .ref yw, .ref yh, .ref yc, .ref yd, .ref yb, .ref yk, .ref yz, .int (nI nd), .int (b2 fl), .ref yr])), (yw, .inl (E.2.2.1, 64, .inl (exW w9 48))), (yh, .inl (E.2.2.1, 8, .inl (blkF (exW w9 48) sv))), (g0, .inl (E.2.1, Mg, .inl g)), (t0, .inl (E.2.1, Mt, .inl t))] := hD
                    refine lv_iinc (k := 1) (v := nI (j * 64 + 64)) (lv' := [(7, .int (nI (j * 64 + 64))), (8, .int (nI kk)), (6, .int (nI (((n + 72) / 64) * 64))), (5, .int (nI ta)), (4, .ref t0), (3, .int (nI n)), (2, .int (nI o)), (1, .ref g0), (0, .ref y0)]) hx hb d_Mod_sha5_191 hl rfl (iincK (j * 64) 64) (by decide) rfl (fun ls hl => ?_)
                    rw [show j * 64 + 64 = (j + 1) * 64 by omega] at hl
                    refine lv_goto hx hb d_Mod_sha5_194 rfl ?_
                    exact ih47 (j + 1) (blkF (exW w9 48) sv) (exW w9 48) H locs ls (by omega) (by omega) (st_step (fun k hk => hw9 k (by omega)) hst) hP hD hS (lv_sub hl [0, 2, 3, 4, 5, 6, 7, 8] rfl)
                  · refine lv_iconst (v := nI 0) hx hb d_Mod_sha5_64 (by decide) ?_
                    refine lv_istore (lv' := [(9, .int (nI 0)), (8, .int (nI kk)), (7, .int (nI (j * 64))), (6, .int (nI (((n + 72) / 64) * 64))), (5, .int (nI ta)), (4, .ref t0), (3, .int (nI n)), (2, .int (nI o)), (1, .ref g0), (0, .ref y0)]) hx hb d_Mod_sha5_65 hl (by decide) rfl (fun ls hl => ?_)
                    refine lv_iconst (v := nI 0) hx hb d_Mod_sha5_67 (by decide) ?_
                    refine lv_istore (lv' := [(10, .int (nI 0)), (9, .int (nI 0)), (8, .int (nI kk)), (7, .int (nI (j * 64))), (6, .int (nI (((n + 72) / 64) * 64))), (5, .int (nI ta)), (4, .ref t0), (3, .int (nI n)), (2, .int (nI o)), (1, .ref g0), (0, .ref y0)]) hx hb d_Mod_sha5_68 hl (by decide) rfl (fun ls hl => ?_)
                    have hloop70 : ∀ (dd : Nat) (i : Nat) (H : Heap) (locs : List Loc) (ls : Array Slot), 4 - i < dd → (i ≤ 4) → va_P E.1 clz [(y0, .inr (7, [.ref ya, .int (nI nt), .ref yo, .int (nI no), .ref ym, .ref yl, .ref yg, .ref yw, .ref yh, .ref yc, .ref yd, .ref yb, .ref yk, .ref yz, .int (nI nd), .int (b2 fl), .ref yr])), (yw, .inl (E.2.2.1, 64, .inl w9)), (yh, .inl (E.2.2.1, 8, .inl sv)), (g0, .inl (E.2.1, Mg, .inl g)), (t0, .inl (E.2.1, Mt, .inl t))] H → va_D A [(y0, .inr (7, [.ref ya, .int (nI nt), .ref yo, .int (nI no), .ref ym, .ref yl, .ref yg, .ref yw, .ref yh, .ref yc, .ref yd, .ref yb, .ref yk, .ref yz, .int (nI nd), .int (b2 fl), .ref yr])), (yw, .inl (E.2.2.1, 64, .inl w9)), (yh, .inl (E.2.2.1, 8, .inl sv)), (g0, .inl (E.2.1, Mg, .inl g)), (t0, .inl (E.2.1, Mt, .inl t))] → va_S A s.heap H locs → lv_has ls 13 [(10, .int (nI i)), (9, .int (mw (fun q => g (o + q)) n (j * 64 + 4 * kk) i)), (8, .int (nI kk)), (7, .int (nI (j * 64))), (6, .int (nI (((n + 72) / 64) * 64))), (5, .int (nI ta)), (4, .ref t0), (3, .int (nI n)), (2, .int (nI o)), (1, .ref g0), (0, .ref y0)] → W p l e (rmd 1) s m args below meth c H locs 0 0 Q (F0 m 70 ls []) := by
                      intro dd
                      induction dd with
                      | zero => intro i H locs ls hmz; exact absurd hmz (Nat.not_lt_zero _)
                      | succ dd ih70 =>
                        intro i H locs ls hmz hi hP hD hS hl
                        refine lv_iload hx hb d_Mod_sha5_70 (lv_at hl 0 rfl) ?_
                        refine lv_iconst (v := nI 4) hx hb d_Mod_sha5_72 (by decide) ?_
                        refine j_ge C i 4 rfl rfl (by omega) (by omega) d_Mod_sha5_73 rfl (fun hc7 => ?_) (fun hc7 => ?_)
                        · obtain rfl : i = 4 := by omega
                          refine lv_aload_n hx hb d_Mod_sha5_172 rfl (lv_at hl 10 rfl) ?_
                          refine n_get C fg_Mod_26 hP 0 rfl rfl d_Mod_sha5_173 ?_
                          refine lv_iload hx hb d_Mod_sha5_176 (lv_at hl 2 rfl) ?_
                          refine lv_iload hx hb d_Mod_sha5_178 (lv_at hl 1 rfl) ?_
                          refine tope (z := wds (fun q => g (o + q)) n j kk) (mw_wds (by omega) (by omega) (by omega)) ?_
                          refine n_iast C hP hD hS 1 rfl kk rfl (by omega) (by omega) d_Mod_sha5_180 (fun H locs hP hD hS => ?_)
                          have hP : va_P E.1 clz [(y0, .inr (7, [.ref ya, .int (nI nt), .ref yo, .int (nI no), .ref ym, .ref yl, .ref yg, .ref yw, .ref yh, .ref yc, .ref yd, .ref yb, .ref yk, .ref yz, .int (nI nd), .int (b2 fl), .ref yr])), (yw, .inl (E.2.2.1, 64, .inl (upd w9 kk (wds (fun q => g (o + q)) n j kk)))), (yh, .inl (E.2.2.1, 8, .inl sv)), (g0, .inl (E.2.1, Mg, .inl g)), (t0, .inl (E.2.1, Mt, .inl t))] H := hP
                          have hD : va_D A [(y0, .inr (7, [.ref ya, .int (nI nt), .ref yo, .int (nI no), .ref ym, .ref yl, .ref yg, .ref yw, .ref yh, .ref yc, .ref yd, .ref yb, .ref yk, .ref yz, .int (nI nd), .int (b2 fl), .ref yr])), (yw, .inl (E.2.2.1, 64, .inl (upd w9 kk (wds (fun q => g (o + q)) n j kk)))), (yh, .inl (E.2.2.1, 8, .inl sv)), (g0, .inl (E.2.1, Mg, .inl g)), (t0, .inl (E.2.1, Mt, .inl t))] := hD
                          refine lv_iinc (k := 2) (v := nI (kk + 1)) (lv' := [(8, .int (nI (kk + 1))), (10, .int (nI 4)), (9, .int (mw (fun q => g (o + q)) n (j * 64 + 4 * kk) 4)), (7, .int (nI (j * 64))), (6, .int (nI (((n + 72) / 64) * 64))), (5, .int (nI ta)), (4, .ref t0), (3, .int (nI n)), (2, .int (nI o)), (1, .ref g0), (0, .ref y0)]) hx hb d_Mod_sha5_181 hl rfl (iincK kk 1) (by decide) rfl (fun ls hl => ?_)
                          refine lv_goto hx hb d_Mod_sha5_184 rfl ?_
                          exact ih57 (kk + 1) (upd w9 kk (wds (fun q => g (o + q)) n j kk)) H locs ls (by omega) (by omega) (fun k hk => by unfold upd; split; (rename_i e9; rw [e9]); exact hw9 k (by omega)) hP hD hS (lv_sub hl [0, 3, 4, 5, 6, 7, 8, 9, 10] rfl)
                        · refine lv_iload hx hb d_Mod_sha5_76 (lv_at hl 3 rfl) ?_
                          refine lv_iconst (v := nI 4) hx hb d_Mod_sha5_78 (by decide) ?_
                          refine lv_iload hx hb d_Mod_sha5_79 (lv_at hl 2 rfl) ?_
                          refine lv_imul hx hb d_Mod_sha5_81 ?_
                          refine tope (z := nI (4 * kk)) (pk_mul _ _) ?_
                          refine lv_iadd hx hb d_Mod_sha5_82 ?_
                          refine tope (z := nI ((j * 64) + (4 * kk))) (nI_add _ _) ?_
                          refine lv_iload hx hb d_Mod_sha5_83 (lv_at hl 0 rfl) ?_
                          refine lv_iadd hx hb d_Mod_sha5_85 ?_
                          refine tope (z := nI (((j * 64) + (4 * kk)) + i)) (nI_add _ _) ?_
                          refine tope (z := nI (j * 64 + 4 * kk + i)) (congrArg nI (by omega)) ?_
                          refine lv_istore (lv' := [(11, .int (nI (j * 64 + 4 * kk + i))), (10, .int (nI i)), (9, .int (mw (fun q => g (o + q)) n (j * 64 + 4 * kk) i)), (8, .int (nI kk)), (7, .int (nI (j * 64))), (6, .int (nI (((n + 72) / 64) * 64))), (5, .int (nI ta)), (4, .ref t0), (3, .int (nI n)), (2, .int (nI o)), (1, .ref g0), (0, .ref y0)]) hx hb d_Mod_sha5_86 hl (by decide) rfl (fun ls hl => ?_)
                          refine lv_iload hx hb d_Mod_sha5_88 (lv_at hl 0 rfl) ?_
                          refine lv_iload_n hx hb d_Mod_sha5_90 rfl (lv_at hl 8 rfl) ?_
                          refine j_ge C (j * 64 + 4 * kk + i) n rfl rfl (by omega) (by omega) d_Mod_sha5_91 rfl (fun hc8 => ?_) (fun hc8 => ?_)
                          · refine lv_iload hx hb d_Mod_sha5_107 (lv_at hl 0 rfl) ?_
                            refine lv_iload_n hx hb d_Mod_sha5_109 rfl (lv_at hl 8 rfl) ?_
                            refine j_ne C (j * 64 + 4 * kk + i) n rfl rfl (by omega) (by omega) d_Mod_sha5_110 rfl (fun hc9 => ?_) (fun hc9 => ?_)
                            · refine lv_iconst (v := nI 0) hx hb d_Mod_sha5_119 (by decide) ?_
                              refine tope (z := pv (fun q => g (o + q)) n (j * 64 + 4 * kk + i)) (by first | exact (pv_lt (b := (fun q => g (o + q))) (n := n) (p := j * 64 + 4 * kk + i) (by omega)).symm | exact (pv_eq (b := (fun q => g (o + q))) (n := n) (p := j * 64 + 4 * kk + i) (by omega)).symm | exact (pv_gt (b := (fun q => g (o + q))) (n := n) (p := j * 64 + 4 * kk + i) (by omega)).symm) ?_
                              refine lv_istore (lv' := [(12, .int (pv (fun q => g (o + q)) n (j * 64 + 4 * kk + i))), (11, .int (nI (j * 64 + 4 * kk + i))), (10, .int (nI i)), (9, .int (mw (fun q => g (o + q)) n (j * 64 + 4 * kk) i)), (8, .int (nI kk)), (7, .int (nI (j * 64))), (6, .int (nI (((n + 72) / 64) * 64))), (5, .int (nI ta)), (4, .ref t0), (3, .int (nI n)), (2, .int (nI o)), (1, .ref g0), (0, .ref y0)]) hx hb d_Mod_sha5_120 hl (by decide) rfl (fun ls hl => ?_)
                              refine lv_iload hx hb d_Mod_sha5_122 (lv_at hl 1 rfl) ?_
                              refine lv_iload hx hb d_Mod_sha5_124 (lv_at hl 6 rfl) ?_
                              refine lv_bipush (v := nI 8) hx hb d_Mod_sha5_126 (by decide) ?_
                              refine lv_isub hx hb d_Mod_sha5_128 ?_
                              refine tope (z := nI ((((n + 72) / 64) * 64) - 8)) (pk_sub (by omega)) ?_
                              refine j_lt C (j * 64 + 4 * kk + i) ((((n + 72) / 64) * 64) - 8) rfl rfl (by omega) (by omega) d_Mod_sha5_129 rfl (fun hc10 => ?_) (fun hc10 => ?_)
                              · refine lv_iload hx hb d_Mod_sha5_156 (lv_at hl 3 rfl) ?_
                                refine lv_bipush (v := nI 8) hx hb d_Mod_sha5_158 (by decide) ?_
                                refine lv_ishl hx hb d_Mod_sha5_160 ?_
                                refine lv_iload hx hb d_Mod_sha5_161 (lv_at hl 0 rfl) ?_
                                refine lv_ior hx hb d_Mod_sha5_163 ?_
                                refine tope (z := mw (fun q => g (o + q)) n (j * 64 + 4 * kk) (i + 1)) (by show cm1 _ _ = cm1 _ (mvb (fun q => g (o + q)) n (j * 64 + 4 * kk + i)); rw [mvb_lt (by show _; unfold mAL; omega)]) ?_
                                refine lv_istore (lv' := [(9, .int (mw (fun q => g (o + q)) n (j * 64 + 4 * kk) (i + 1))), (12, .int (pv (fun q => g (o + q)) n (j * 64 + 4 * kk + i))), (11, .int (nI (j * 64 + 4 * kk + i))), (10, .int (nI i)), (8, .int (nI kk)), (7, .int (nI (j * 64))), (6, .int (nI (((n + 72) / 64) * 64))), (5, .int (nI ta)), (4, .ref t0), (3, .int (nI n)), (2, .int (nI o)), (1, .ref g0), (0, .ref y0)]) hx hb d_Mod_sha5_164 hl (by decide) rfl (fun ls hl => ?_)
                                refine lv_iinc (k := 3) (v := nI (i + 1)) (lv' := [(10, .int (nI (i + 1))), (9, .int (mw (fun q => g (o + q)) n (j * 64 + 4 * kk) (i + 1))), (12, .int (pv (fun q => g (o + q)) n (j * 64 + 4 * kk + i))), (11, .int (nI (j * 64 + 4 * kk + i))), (8, .int (nI kk)), (7, .int (nI (j * 64))), (6, .int (nI (((n + 72) / 64) * 64))), (5, .int (nI ta)), (4, .ref t0), (3, .int (nI n)), (2, .int (nI o)), (1, .ref g0), (0, .ref y0)]) hx hb d_Mod_sha5_166 hl rfl (iincK i 1) (by decide) rfl (fun ls hl => ?_)
                                refine lv_goto hx hb d_Mod_sha5_169 rfl ?_
                                exact ih70 (i + 1) H locs ls (by omega) (by omega) hP hD hS (lv_sub hl [0, 1, 4, 5, 6, 7, 8, 9, 10, 11, 12] rfl)
                              · refine lv_iload_n hx hb d_Mod_sha5_132 rfl (lv_at hl 9 rfl) ?_
                                refine lv_i2l (v := lN n) hx hb d_Mod_sha5_133 (nI_l (by omega)) ?_
                                refine lv_ldc2 (v := 8) hx hb C.2.2.2.1 (C.2.2.2.2.1 _ cl_Mod_57) d_Mod_sha5_134 ?_
                                refine lv_lmul hx hb d_Mod_sha5_137 ?_
                                refine topl (z := lN (n * 8)) (lN_mul _ _) ?_
                                refine lv_bipush (v := nI 8) hx hb d_Mod_sha5_138 (by decide) ?_
                                refine lv_iload hx hb d_Mod_sha5_140 (lv_at hl 6 rfl) ?_
                                refine lv_iconst (v := nI 1) hx hb d_Mod_sha5_142 (by decide) ?_
                                refine lv_isub hx hb d_Mod_sha5_143 ?_
                                refine tope (z := nI ((((n + 72) / 64) * 64) - 1)) (pk_sub (by omega)) ?_
                                refine lv_iload hx hb d_Mod_sha5_144 (lv_at hl 1 rfl) ?_
                                refine lv_isub hx hb d_Mod_sha5_146 ?_
                                refine tope (z := nI (((((n + 72) / 64) * 64) - 1) - (j * 64 + 4 * kk + i))) (pk_sub (by omega)) ?_
                                refine lv_imul hx hb d_Mod_sha5_147 ?_
                                refine tope (z := nI (8 * (((((n + 72) / 64) * 64) - 1) - (j * 64 + 4 * kk + i)))) (pk_mul _ _) ?_
                                refine lv_lushr (v := lN ((n * 8) / 2 ^ (8 * (((((n + 72) / 64) * 64) - 1) - (j * 64 + 4 * kk + i))))) hx hb d_Mod_sha5_148 (wb_shr (by omega) (by omega)) ?_
                                refine lv_l2i (v := nI ((n * 8) / 2 ^ (8 * (((((n + 72) / 64) * 64) - 1) - (j * 64 + 4 * kk + i))))) hx hb d_Mod_sha5_149 (lN_i _) ?_
                                refine lv_sipush (v := nI 255) hx hb d_Mod_sha5_150 (by decide) ?_
                                refine lv_iand hx hb d_Mod_sha5_153 ?_
                                refine tope (z := lnb n (j * 64 + 4 * kk + i)) (by rw [and255_nI (Nat.lt_of_le_of_lt (Nat.div_le_self _ _) (by omega))]; rfl) ?_
                                refine lv_istore (lv' := [(12, .int (lnb n (j * 64 + 4 * kk + i))), (11, .int (nI (j * 64 + 4 * kk + i))), (10, .int (nI i)), (9, .int (mw (fun q => g (o + q)) n (j * 64 + 4 * kk) i)), (8, .int (nI kk)), (7, .int (nI (j * 64))), (6, .int (nI (((n + 72) / 64) * 64))), (5, .int (nI ta)), (4, .ref t0), (3, .int (nI n)), (2, .int (nI o)), (1, .ref g0), (0, .ref y0)]) hx hb d_Mod_sha5_154 hl (by decide) rfl (fun ls hl => ?_)
                                refine lv_iload hx hb d_Mod_sha5_156 (lv_at hl 3 rfl) ?_
                                refine lv_bipush (v := nI 8) hx hb d_Mod_sha5_158 (by decide) ?_
                                refine lv_ishl hx hb d_Mod_sha5_160 ?_
                                refine lv_iload hx hb d_Mod_sha5_161 (lv_at hl 0 rfl) ?_
                                refine lv_ior hx hb d_Mod_sha5_163 ?_
                                refine tope (z := mw (fun q => g (o + q)) n (j * 64 + 4 * kk) (i + 1)) (by show cm1 _ _ = cm1 _ (mvb (fun q => g (o + q)) n (j * 64 + 4 * kk + i)); rw [mvb_ge (by show _; unfold mAL; omega)]) ?_
                                refine lv_istore (lv' := [(9, .int (mw (fun q => g (o + q)) n (j * 64 + 4 * kk) (i + 1))), (12, .int (lnb n (j * 64 + 4 * kk + i))), (11, .int (nI (j * 64 + 4 * kk + i))), (10, .int (nI i)), (8, .int (nI kk)), (7, .int (nI (j * 64))), (6, .int (nI (((n + 72) / 64) * 64))), (5, .int (nI ta)), (4, .ref t0), (3, .int (nI n)), (2, .int (nI o)), (1, .ref g0), (0, .ref y0)]) hx hb d_Mod_sha5_164 hl (by decide) rfl (fun ls hl => ?_)
                                refine lv_iinc (k := 3) (v := nI (i + 1)) (lv' := [(10, .int (nI (i + 1))), (9, .int (mw (fun q => g (o + q)) n (j * 64 + 4 * kk) (i + 1))), (12, .int (lnb n (j * 64 + 4 * kk + i))), (11, .int (nI (j * 64 + 4 * kk + i))), (8, .int (nI kk)), (7, .int (nI (j * 64))), (6, .int (nI (((n + 72) / 64) * 64))), (5, .int (nI ta)), (4, .ref t0), (3, .int (nI n)), (2, .int (nI o)), (1, .ref g0), (0, .ref y0)]) hx hb d_Mod_sha5_166 hl rfl (iincK i 1) (by decide) rfl (fun ls hl => ?_)
                                refine lv_goto hx hb d_Mod_sha5_169 rfl ?_
                                exact ih70 (i + 1) H locs ls (by omega) (by omega) hP hD hS (lv_sub hl [0, 1, 4, 5, 6, 7, 8, 9, 10, 11, 12] rfl)
                            · refine lv_sipush (v := nI 128) hx hb d_Mod_sha5_113 (by decide) ?_
                              refine lv_goto hx hb d_Mod_sha5_116 rfl ?_
                              refine tope (z := pv (fun q => g (o + q)) n (j * 64 + 4 * kk + i)) (by first | exact (pv_lt (b := (fun q => g (o + q))) (n := n) (p := j * 64 + 4 * kk + i) (by omega)).symm | exact (pv_eq (b := (fun q => g (o + q))) (n := n) (p := j * 64 + 4 * kk + i) (by omega)).symm | exact (pv_gt (b := (fun q => g (o + q))) (n := n) (p := j * 64 + 4 * kk + i) (by omega)).symm) ?_
                              refine lv_istore (lv' := [(12, .int (pv (fun q => g (o + q)) n (j * 64 + 4 * kk + i))), (11, .int (nI (j * 64 + 4 * kk + i))), (10, .int (nI i)), (9, .int (mw (fun q => g (o + q)) n (j * 64 + 4 * kk) i)), (8, .int (nI kk)), (7, .int (nI (j * 64))), (6, .int (nI (((n + 72) / 64) * 64))), (5, .int (nI ta)), (4, .ref t0), (3, .int (nI n)), (2, .int (nI o)), (1, .ref g0), (0, .ref y0)]) hx hb d_Mod_sha5_120 hl (by decide) rfl (fun ls hl => ?_)
                              refine lv_iload hx hb d_Mod_sha5_122 (lv_at hl 1 rfl) ?_
                              refine lv_iload hx hb d_Mod_sha5_124 (lv_at hl 6 rfl) ?_
                              refine lv_bipush (v := nI 8) hx hb d_Mod_sha5_126 (by decide) ?_
                              refine lv_isub hx hb d_Mod_sha5_128 ?_
                              refine tope (z := nI ((((n + 72) / 64) * 64) - 8)) (pk_sub (by omega)) ?_
                              refine j_lt C (j * 64 + 4 * kk + i) ((((n + 72) / 64) * 64) - 8) rfl rfl (by omega) (by omega) d_Mod_sha5_129 rfl (fun hc11 => ?_) (fun hc11 => ?_)
                              · refine lv_iload hx hb d_Mod_sha5_156 (lv_at hl 3 rfl) ?_
                                refine lv_bipush (v := nI 8) hx hb d_Mod_sha5_158 (by decide) ?_
                                refine lv_ishl hx hb d_Mod_sha5_160 ?_
                                refine lv_iload hx hb d_Mod_sha5_161 (lv_at hl 0 rfl) ?_
                                refine lv_ior hx hb d_Mod_sha5_163 ?_
                                refine tope (z := mw (fun q => g (o + q)) n (j * 64 + 4 * kk) (i + 1)) (by show cm1 _ _ = cm1 _ (mvb (fun q => g (o + q)) n (j * 64 + 4 * kk + i)); rw [mvb_lt (by show _; unfold mAL; omega)]) ?_
                                refine lv_istore (lv' := [(9, .int (mw (fun q => g (o + q)) n (j * 64 + 4 * kk) (i + 1))), (12, .int (pv (fun q => g (o + q)) n (j * 64 + 4 * kk + i))), (11, .int (nI (j * 64 + 4 * kk + i))), (10, .int (nI i)), (8, .int (nI kk)), (7, .int (nI (j * 64))), (6, .int (nI (((n + 72) / 64) * 64))), (5, .int (nI ta)), (4, .ref t0), (3, .int (nI n)), (2, .int (nI o)), (1, .ref g0), (0, .ref y0)]) hx hb d_Mod_sha5_164 hl (by decide) rfl (fun ls hl => ?_)
                                refine lv_iinc (k := 3) (v := nI (i + 1)) (lv' := [(10, .int (nI (i + 1))), (9, .int (mw (fun q => g (o + q)) n (j * 64 + 4 * kk) (i + 1))), (12, .int (pv (fun q => g (o + q)) n (j * 64 + 4 * kk + i))), (11, .int (nI (j * 64 + 4 * kk + i))), (8, .int (nI kk)), (7, .int (nI (j * 64))), (6, .int (nI (((n + 72) / 64) * 64))), (5, .int (nI ta)), (4, .ref t0), (3, .int (nI n)), (2, .int (nI o)), (1, .ref g0), (0, .ref y0)]) hx hb d_Mod_sha5_166 hl rfl (iincK i 1) (by decide) rfl (fun ls hl => ?_)
                                refine lv_goto hx hb d_Mod_sha5_169 rfl ?_
                                exact ih70 (i + 1) H locs ls (by omega) (by omega) hP hD hS (lv_sub hl [0, 1, 4, 5, 6, 7, 8, 9, 10, 11, 12] rfl)
                              · refine lv_iload_n hx hb d_Mod_sha5_132 rfl (lv_at hl 9 rfl) ?_
                                refine lv_i2l (v := lN n) hx hb d_Mod_sha5_133 (nI_l (by omega)) ?_
                                refine lv_ldc2 (v := 8) hx hb C.2.2.2.1 (C.2.2.2.2.1 _ cl_Mod_57) d_Mod_sha5_134 ?_
                                refine lv_lmul hx hb d_Mod_sha5_137 ?_
                                refine topl (z := lN (n * 8)) (lN_mul _ _) ?_
                                refine lv_bipush (v := nI 8) hx hb d_Mod_sha5_138 (by decide) ?_
                                refine lv_iload hx hb d_Mod_sha5_140 (lv_at hl 6 rfl) ?_
                                refine lv_iconst (v := nI 1) hx hb d_Mod_sha5_142 (by decide) ?_
                                refine lv_isub hx hb d_Mod_sha5_143 ?_
                                refine tope (z := nI ((((n + 72) / 64) * 64) - 1)) (pk_sub (by omega)) ?_
                                refine lv_iload hx hb d_Mod_sha5_144 (lv_at hl 1 rfl) ?_
                                refine lv_isub hx hb d_Mod_sha5_146 ?_
                                refine tope (z := nI (((((n + 72) / 64) * 64) - 1) - (j * 64 + 4 * kk + i))) (pk_sub (by omega)) ?_
                                refine lv_imul hx hb d_Mod_sha5_147 ?_
                                refine tope (z := nI (8 * (((((n + 72) / 64) * 64) - 1) - (j * 64 + 4 * kk + i)))) (pk_mul _ _) ?_
                                refine lv_lushr (v := lN ((n * 8) / 2 ^ (8 * (((((n + 72) / 64) * 64) - 1) - (j * 64 + 4 * kk + i))))) hx hb d_Mod_sha5_148 (wb_shr (by omega) (by omega)) ?_
                                refine lv_l2i (v := nI ((n * 8) / 2 ^ (8 * (((((n + 72) / 64) * 64) - 1) - (j * 64 + 4 * kk + i))))) hx hb d_Mod_sha5_149 (lN_i _) ?_
                                refine lv_sipush (v := nI 255) hx hb d_Mod_sha5_150 (by decide) ?_
                                refine lv_iand hx hb d_Mod_sha5_153 ?_
                                refine tope (z := lnb n (j * 64 + 4 * kk + i)) (by rw [and255_nI (Nat.lt_of_le_of_lt (Nat.div_le_self _ _) (by omega))]; rfl) ?_
                                refine lv_istore (lv' := [(12, .int (lnb n (j * 64 + 4 * kk + i))), (11, .int (nI (j * 64 + 4 * kk + i))), (10, .int (nI i)), (9, .int (mw (fun q => g (o + q)) n (j * 64 + 4 * kk) i)), (8, .int (nI kk)), (7, .int (nI (j * 64))), (6, .int (nI (((n + 72) / 64) * 64))), (5, .int (nI ta)), (4, .ref t0), (3, .int (nI n)), (2, .int (nI o)), (1, .ref g0), (0, .ref y0)]) hx hb d_Mod_sha5_154 hl (by decide) rfl (fun ls hl => ?_)
                                refine lv_iload hx hb d_Mod_sha5_156 (lv_at hl 3 rfl) ?_
                                refine lv_bipush (v := nI 8) hx hb d_Mod_sha5_158 (by decide) ?_
                                refine lv_ishl hx hb d_Mod_sha5_160 ?_
                                refine lv_iload hx hb d_Mod_sha5_161 (lv_at hl 0 rfl) ?_
                                refine lv_ior hx hb d_Mod_sha5_163 ?_
                                refine tope (z := mw (fun q => g (o + q)) n (j * 64 + 4 * kk) (i + 1)) (by show cm1 _ _ = cm1 _ (mvb (fun q => g (o + q)) n (j * 64 + 4 * kk + i)); rw [mvb_ge (by show _; unfold mAL; omega)]) ?_
                                refine lv_istore (lv' := [(9, .int (mw (fun q => g (o + q)) n (j * 64 + 4 * kk) (i + 1))), (12, .int (lnb n (j * 64 + 4 * kk + i))), (11, .int (nI (j * 64 + 4 * kk + i))), (10, .int (nI i)), (8, .int (nI kk)), (7, .int (nI (j * 64))), (6, .int (nI (((n + 72) / 64) * 64))), (5, .int (nI ta)), (4, .ref t0), (3, .int (nI n)), (2, .int (nI o)), (1, .ref g0), (0, .ref y0)]) hx hb d_Mod_sha5_164 hl (by decide) rfl (fun ls hl => ?_)
                                refine lv_iinc (k := 3) (v := nI (i + 1)) (lv' := [(10, .int (nI (i + 1))), (9, .int (mw (fun q => g (o + q)) n (j * 64 + 4 * kk) (i + 1))), (12, .int (lnb n (j * 64 + 4 * kk + i))), (11, .int (nI (j * 64 + 4 * kk + i))), (8, .int (nI kk)), (7, .int (nI (j * 64))), (6, .int (nI (((n + 72) / 64) * 64))), (5, .int (nI ta)), (4, .ref t0), (3, .int (nI n)), (2, .int (nI o)), (1, .ref g0), (0, .ref y0)]) hx hb d_Mod_sha5_166 hl rfl (iincK i 1) (by decide) rfl (fun ls hl => ?_)
                                refine lv_goto hx hb d_Mod_sha5_169 rfl ?_
                                exact ih70 (i + 1) H locs ls (by omega) (by omega) hP hD hS (lv_sub hl [0, 1, 4, 5, 6, 7, 8, 9, 10, 11, 12] rfl)
                          · refine lv_aload_n hx hb d_Mod_sha5_94 rfl (lv_at hl 10 rfl) ?_
                            refine lv_iload_n hx hb d_Mod_sha5_95 rfl (lv_at hl 9 rfl) ?_
                            refine lv_iload hx hb d_Mod_sha5_96 (lv_at hl 0 rfl) ?_
                            refine lv_iadd hx hb d_Mod_sha5_98 ?_
                            refine tope (z := nI (o + (j * 64 + 4 * kk + i))) (nI_add _ _) ?_
                            refine n_bald C hP 3 rfl (o + (j * 64 + 4 * kk + i)) rfl (by omega) (by omega) d_Mod_sha5_99 ?_
                            refine lv_sipush (v := nI 255) hx hb d_Mod_sha5_100 (by decide) ?_
                            refine lv_iand hx hb d_Mod_sha5_103 ?_
                            refine lv_goto hx hb d_Mod_sha5_104 rfl ?_
                            refine tope (z := pv (fun q => g (o + q)) n (j * 64 + 4 * kk + i)) (by first | exact (pv_lt (b := (fun q => g (o + q))) (n := n) (p := j * 64 + 4 * kk + i) (by omega)).symm | exact (pv_eq (b := (fun q => g (o + q))) (n := n) (p := j * 64 + 4 * kk + i) (by omega)).symm | exact (pv_gt (b := (fun q => g (o + q))) (n := n) (p := j * 64 + 4 * kk + i) (by omega)).symm) ?_
                            refine lv_istore (lv' := [(12, .int (pv (fun q => g (o + q)) n (j * 64 + 4 * kk + i))), (11, .int (nI (j * 64 + 4 * kk + i))), (10, .int (nI i)), (9, .int (mw (fun q => g (o + q)) n (j * 64 + 4 * kk) i)), (8, .int (nI kk)), (7, .int (nI (j * 64))), (6, .int (nI (((n + 72) / 64) * 64))), (5, .int (nI ta)), (4, .ref t0), (3, .int (nI n)), (2, .int (nI o)), (1, .ref g0), (0, .ref y0)]) hx hb d_Mod_sha5_120 hl (by decide) rfl (fun ls hl => ?_)
                            refine lv_iload hx hb d_Mod_sha5_122 (lv_at hl 1 rfl) ?_
                            refine lv_iload hx hb d_Mod_sha5_124 (lv_at hl 6 rfl) ?_
                            refine lv_bipush (v := nI 8) hx hb d_Mod_sha5_126 (by decide) ?_
                            refine lv_isub hx hb d_Mod_sha5_128 ?_
                            refine tope (z := nI ((((n + 72) / 64) * 64) - 8)) (pk_sub (by omega)) ?_
                            refine j_lt C (j * 64 + 4 * kk + i) ((((n + 72) / 64) * 64) - 8) rfl rfl (by omega) (by omega) d_Mod_sha5_129 rfl (fun hc12 => ?_) (fun hc12 => ?_)
                            · refine lv_iload hx hb d_Mod_sha5_156 (lv_at hl 3 rfl) ?_
                              refine lv_bipush (v := nI 8) hx hb d_Mod_sha5_158 (by decide) ?_
                              refine lv_ishl hx hb d_Mod_sha5_160 ?_
                              refine lv_iload hx hb d_Mod_sha5_161 (lv_at hl 0 rfl) ?_
                              refine lv_ior hx hb d_Mod_sha5_163 ?_
                              refine tope (z := mw (fun q => g (o + q)) n (j * 64 + 4 * kk) (i + 1)) (by show cm1 _ _ = cm1 _ (mvb (fun q => g (o + q)) n (j * 64 + 4 * kk + i)); rw [mvb_lt (by show _; unfold mAL; omega)]) ?_
                              refine lv_istore (lv' := [(9, .int (mw (fun q => g (o + q)) n (j * 64 + 4 * kk) (i + 1))), (12, .int (pv (fun q => g (o + q)) n (j * 64 + 4 * kk + i))), (11, .int (nI (j * 64 + 4 * kk + i))), (10, .int (nI i)), (8, .int (nI kk)), (7, .int (nI (j * 64))), (6, .int (nI (((n + 72) / 64) * 64))), (5, .int (nI ta)), (4, .ref t0), (3, .int (nI n)), (2, .int (nI o)), (1, .ref g0), (0, .ref y0)]) hx hb d_Mod_sha5_164 hl (by decide) rfl (fun ls hl => ?_)
                              refine lv_iinc (k := 3) (v := nI (i + 1)) (lv' := [(10, .int (nI (i + 1))), (9, .int (mw (fun q => g (o + q)) n (j * 64 + 4 * kk) (i + 1))), (12, .int (pv (fun q => g (o + q)) n (j * 64 + 4 * kk + i))), (11, .int (nI (j * 64 + 4 * kk + i))), (8, .int (nI kk)), (7, .int (nI (j * 64))), (6, .int (nI (((n + 72) / 64) * 64))), (5, .int (nI ta)), (4, .ref t0), (3, .int (nI n)), (2, .int (nI o)), (1, .ref g0), (0, .ref y0)]) hx hb d_Mod_sha5_166 hl rfl (iincK i 1) (by decide) rfl (fun ls hl => ?_)
                              refine lv_goto hx hb d_Mod_sha5_169 rfl ?_
                              exact ih70 (i + 1) H locs ls (by omega) (by omega) hP hD hS (lv_sub hl [0, 1, 4, 5, 6, 7, 8, 9, 10, 11, 12] rfl)
                            · refine lv_iload_n hx hb d_Mod_sha5_132 rfl (lv_at hl 9 rfl) ?_
                              refine lv_i2l (v := lN n) hx hb d_Mod_sha5_133 (nI_l (by omega)) ?_
                              refine lv_ldc2 (v := 8) hx hb C.2.2.2.1 (C.2.2.2.2.1 _ cl_Mod_57) d_Mod_sha5_134 ?_
                              refine lv_lmul hx hb d_Mod_sha5_137 ?_
                              refine topl (z := lN (n * 8)) (lN_mul _ _) ?_
                              refine lv_bipush (v := nI 8) hx hb d_Mod_sha5_138 (by decide) ?_
                              refine lv_iload hx hb d_Mod_sha5_140 (lv_at hl 6 rfl) ?_
                              refine lv_iconst (v := nI 1) hx hb d_Mod_sha5_142 (by decide) ?_
                              refine lv_isub hx hb d_Mod_sha5_143 ?_
                              refine tope (z := nI ((((n + 72) / 64) * 64) - 1)) (pk_sub (by omega)) ?_
                              refine lv_iload hx hb d_Mod_sha5_144 (lv_at hl 1 rfl) ?_
                              refine lv_isub hx hb d_Mod_sha5_146 ?_
                              refine tope (z := nI (((((n + 72) / 64) * 64) - 1) - (j * 64 + 4 * kk + i))) (pk_sub (by omega)) ?_
                              refine lv_imul hx hb d_Mod_sha5_147 ?_
                              refine tope (z := nI (8 * (((((n + 72) / 64) * 64) - 1) - (j * 64 + 4 * kk + i)))) (pk_mul _ _) ?_
                              refine lv_lushr (v := lN ((n * 8) / 2 ^ (8 * (((((n + 72) / 64) * 64) - 1) - (j * 64 + 4 * kk + i))))) hx hb d_Mod_sha5_148 (wb_shr (by omega) (by omega)) ?_
                              refine lv_l2i (v := nI ((n * 8) / 2 ^ (8 * (((((n + 72) / 64) * 64) - 1) - (j * 64 + 4 * kk + i))))) hx hb d_Mod_sha5_149 (lN_i _) ?_
                              refine lv_sipush (v := nI 255) hx hb d_Mod_sha5_150 (by decide) ?_
                              refine lv_iand hx hb d_Mod_sha5_153 ?_
                              refine tope (z := lnb n (j * 64 + 4 * kk + i)) (by rw [and255_nI (Nat.lt_of_le_of_lt (Nat.div_le_self _ _) (by omega))]; rfl) ?_
                              refine lv_istore (lv' := [(12, .int (lnb n (j * 64 + 4 * kk + i))), (11, .int (nI (j * 64 + 4 * kk + i))), (10, .int (nI i)), (9, .int (mw (fun q => g (o + q)) n (j * 64 + 4 * kk) i)), (8, .int (nI kk)), (7, .int (nI (j * 64))), (6, .int (nI (((n + 72) / 64) * 64))), (5, .int (nI ta)), (4, .ref t0), (3, .int (nI n)), (2, .int (nI o)), (1, .ref g0), (0, .ref y0)]) hx hb d_Mod_sha5_154 hl (by decide) rfl (fun ls hl => ?_)
                              refine lv_iload hx hb d_Mod_sha5_156 (lv_at hl 3 rfl) ?_
                              refine lv_bipush (v := nI 8) hx hb d_Mod_sha5_158 (by decide) ?_
                              refine lv_ishl hx hb d_Mod_sha5_160 ?_
                              refine lv_iload hx hb d_Mod_sha5_161 (lv_at hl 0 rfl) ?_
                              refine lv_ior hx hb d_Mod_sha5_163 ?_
                              refine tope (z := mw (fun q => g (o + q)) n (j * 64 + 4 * kk) (i + 1)) (by show cm1 _ _ = cm1 _ (mvb (fun q => g (o + q)) n (j * 64 + 4 * kk + i)); rw [mvb_ge (by show _; unfold mAL; omega)]) ?_
                              refine lv_istore (lv' := [(9, .int (mw (fun q => g (o + q)) n (j * 64 + 4 * kk) (i + 1))), (12, .int (lnb n (j * 64 + 4 * kk + i))), (11, .int (nI (j * 64 + 4 * kk + i))), (10, .int (nI i)), (8, .int (nI kk)), (7, .int (nI (j * 64))), (6, .int (nI (((n + 72) / 64) * 64))), (5, .int (nI ta)), (4, .ref t0), (3, .int (nI n)), (2, .int (nI o)), (1, .ref g0), (0, .ref y0)]) hx hb d_Mod_sha5_164 hl (by decide) rfl (fun ls hl => ?_)
                              refine lv_iinc (k := 3) (v := nI (i + 1)) (lv' := [(10, .int (nI (i + 1))), (9, .int (mw (fun q => g (o + q)) n (j * 64 + 4 * kk) (i + 1))), (12, .int (lnb n (j * 64 + 4 * kk + i))), (11, .int (nI (j * 64 + 4 * kk + i))), (8, .int (nI kk)), (7, .int (nI (j * 64))), (6, .int (nI (((n + 72) / 64) * 64))), (5, .int (nI ta)), (4, .ref t0), (3, .int (nI n)), (2, .int (nI o)), (1, .ref g0), (0, .ref y0)]) hx hb d_Mod_sha5_166 hl rfl (iincK i 1) (by decide) rfl (fun ls hl => ?_)
                              refine lv_goto hx hb d_Mod_sha5_169 rfl ?_
                              exact ih70 (i + 1) H locs ls (by omega) (by omega) hP hD hS (lv_sub hl [0, 1, 4, 5, 6, 7, 8, 9, 10, 11, 12] rfl)
                    exact hloop70 (4 + 1) 0 H locs ls (by omega) (by omega) hP hD hS (lv_sub hl [0, 1, 2, 3, 4, 5, 6, 7, 8, 9, 10] rfl)
              exact hloop57 (16 + 1) 0 wy H locs ls (by omega) (by omega) (fun k hk => absurd hk (Nat.not_lt_zero k)) hP hD hS (lv_sub hl [0, 1, 2, 3, 4, 5, 6, 7, 8] rfl)
        exact hloop47 ((n + 72) / 64 + 1) 0 (va_cpy shS k7 0 0 8) k6 H locs ls (by omega) (by omega) (st_0) hP hD hS (lv_sub hl [0, 1, 2, 3, 4, 5, 6, 7] rfl)
      · refine lv_aload_n hx hb d_Mod_sha5_10 rfl (lv_at hl 6 rfl) ?_
        refine n_get C fg_Mod_29 hP 0 rfl rfl d_Mod_sha5_11 ?_
        refine lv_iload hx hb d_Mod_sha5_14 (lv_at hl 0 rfl) ?_
        refine n_gets C fl_Mod_54 C.2.2.2.2.2.2.1.2.2.2.1 hS d_Mod_sha5_16 ?_
        refine lv_iload hx hb d_Mod_sha5_19 (lv_at hl 0 rfl) ?_
        refine n_tab (t := E.2.2.2.2.2.2.2) C (C.2.2.2.2.2.2.1.2.2.2.2) i rfl (by omega) (by omega) hS d_Mod_sha5_21 ?_
        refine n_iast C hP hD hS 2 rfl i rfl (by omega) (by omega) d_Mod_sha5_22 (fun H locs hP hD hS => ?_)
        have hP : va_P E.1 clz [(y0, .inr (7, [.ref ya, .int (nI nt), .ref yo, .int (nI no), .ref ym, .ref yl, .ref yg, .ref yw, .ref yh, .ref yc, .ref yd, .ref yb, .ref yk, .ref yz, .int (nI nd), .int (b2 fl), .ref yr])), (yw, .inl (E.2.2.1, 64, .inl k6)), (yh, .inl (E.2.2.1, 8, .inl (upd (va_cpy shS k7 0 0 i) i (shS i)))), (g0, .inl (E.2.1, Mg, .inl g)), (t0, .inl (E.2.1, Mt, .inl t))] H := hP
        have hD : va_D A [(y0, .inr (7, [.ref ya, .int (nI nt), .ref yo, .int (nI no), .ref ym, .ref yl, .ref yg, .ref yw, .ref yh, .ref yc, .ref yd, .ref yb, .ref yk, .ref yz, .int (nI nd), .int (b2 fl), .ref yr])), (yw, .inl (E.2.2.1, 64, .inl k6)), (yh, .inl (E.2.2.1, 8, .inl (upd (va_cpy shS k7 0 0 i) i (shS i)))), (g0, .inl (E.2.1, Mg, .inl g)), (t0, .inl (E.2.1, Mt, .inl t))] := hD
        rw [cpy_step0 (S := shS) (t := k7) (i := i)] at hP hD
        have hP : va_P E.1 clz [(y0, .inr (7, [.ref ya, .int (nI nt), .ref yo, .int (nI no), .ref ym, .ref yl, .ref yg, .ref yw, .ref yh, .ref yc, .ref yd, .ref yb, .ref yk, .ref yz, .int (nI nd), .int (b2 fl), .ref yr])), (yw, .inl (E.2.2.1, 64, .inl k6)), (yh, .inl (E.2.2.1, 8, .inl (va_cpy shS k7 0 0 (i + 1)))), (g0, .inl (E.2.1, Mg, .inl g)), (t0, .inl (E.2.1, Mt, .inl t))] H := hP
        have hD : va_D A [(y0, .inr (7, [.ref ya, .int (nI nt), .ref yo, .int (nI no), .ref ym, .ref yl, .ref yg, .ref yw, .ref yh, .ref yc, .ref yd, .ref yb, .ref yk, .ref yz, .int (nI nd), .int (b2 fl), .ref yr])), (yw, .inl (E.2.2.1, 64, .inl k6)), (yh, .inl (E.2.2.1, 8, .inl (va_cpy shS k7 0 0 (i + 1)))), (g0, .inl (E.2.1, Mg, .inl g)), (t0, .inl (E.2.1, Mt, .inl t))] := hD
        refine lv_iinc (k := 0) (v := nI (i + 1)) (lv' := [(6, .int (nI (i + 1))), (5, .int (nI ta)), (4, .ref t0), (3, .int (nI n)), (2, .int (nI o)), (1, .ref g0), (0, .ref y0)]) hx hb d_Mod_sha5_23 hl rfl (iincK i 1) (by decide) rfl (fun ls hl => ?_)
        refine lv_goto hx hb d_Mod_sha5_26 rfl ?_
        exact ih3 (i + 1) H locs ls (by omega) (by omega) hP hD hS (lv_sub hl [0, 1, 2, 3, 4, 5, 6] rfl)
  exact hloop3 (8 + 1) 0 H locs ls (by omega) (by omega) hP hD hS (lv_sub hl [0, 6, 5, 4, 3, 2, 1] rfl)

set_option maxHeartbeats 4000000 in
set_option maxRecDepth 100000 in
theorem c_Mod_hash (l : Launch) (E : En) (y0 ya yo ym yl yg yw yh yc yd yb yk yz yr nt no nd : Nat) (fl : Bool) (g0 Mg o n ta t0 Mt : Nat) (k6 k7 k8 g t : Nat → Int32) (hn : o + n ≤ Mg) (hM : Mg < 2 ^ 20) (hta : ta + 32 ≤ Mt) (hMt : Mt < 2 ^ 20) : CtV l y_Mod_hash b_Mod_hash 6 (rmd 2) E [.ref y0, .ref g0, .int (nI o), .int (nI n), .ref t0, .int (nI ta)] [(y0, .inr (7, [.ref ya, .int (nI nt), .ref yo, .int (nI no), .ref ym, .ref yl, .ref yg, .ref yw, .ref yh, .ref yc, .ref yd, .ref yb, .ref yk, .ref yz, .int (nI nd), .int (b2 fl), .ref yr])), (yw, .inl (E.2.2.1, 64, .inl k6)), (yh, .inl (E.2.2.1, 8, .inl k7)), (yc, .inl (E.2.1, 32, .inl k8)), (g0, .inl (E.2.1, Mg, .inl g)), (t0, .inl (E.2.1, Mt, .inl t))] (fun w => ∃ (w1 h1 : Nat → Int32), w = [(y0, .inr (7, [.ref ya, .int (nI nt), .ref yo, .int (nI no), .ref ym, .ref yl, .ref yg, .ref yw, .ref yh, .ref yc, .ref yd, .ref yb, .ref yk, .ref yz, .int (nI nd), .int (b2 fl), .ref yr])), (yw, .inl (E.2.2.1, 64, .inl w1)), (yh, .inl (E.2.2.1, 8, .inl h1)), (yc, .inl (E.2.1, 32, .inl (va_cpy (shaF (fun q => g (o + q)) n) k8 0 0 32))), (g0, .inl (E.2.1, Mg, .inl g)), (t0, .inl (E.2.1, Mt, .inl (va_cpy (hashF (fun q => g (o + q)) n) t 0 ta 32)))]) := by
  refine CtV.of (by decide) (Nat.le_of_ble_eq_true rfl) ?_
  intro p e s m args below meth c A Q H locs ls C hP hD hS hl kret
  have hx := C.1
  have hb := C.2.1
  have hl : lv_has ls 6 [(0, .ref y0), (1, .ref g0), (2, .int (nI o)), (3, .int (nI n)), (4, .ref t0), (5, .int (nI ta))] := hl
  refine lv_aload_n hx hb d_Mod_hash_0 rfl (lv_at hl 0 rfl) ?_
  refine lv_aload_n hx hb d_Mod_hash_1 rfl (lv_at hl 1 rfl) ?_
  refine lv_iload_n hx hb d_Mod_hash_2 rfl (lv_at hl 2 rfl) ?_
  refine lv_iload_n hx hb d_Mod_hash_3 rfl (lv_at hl 3 rfl) ?_
  refine lv_aload_n hx hb d_Mod_hash_4 rfl (lv_at hl 0 rfl) ?_
  refine n_get C fg_Mod_32 hP 0 rfl rfl d_Mod_hash_5 ?_
  refine lv_iconst (v := nI 0) hx hb d_Mod_hash_8 (by decide) ?_
  refine cal_V (As := [.ref g0, .int (nI o), .int (nI n), .ref yc, .int (nI 0)]) (rest := []) C lk_Mod_62 (c_Mod_sha l E y0 ya yo ym yl yg yw yh yc yd yb yk yz yr nt no nd fl g0 Mg o n 0 yc 32 k6 k7 g k8 (by omega) (by omega) (by omega) (by omega)) (by decide) hP hD hS 0 7 rfl rfl [0, 1, 2, 4, 3] rfl (by decide) hl.1 rfl (Nat.le_of_ble_eq_true rfl) d_Mod_hash_9 (fun w1 H locs hp4 hP hD hS => ?_)
  obtain ⟨wz1, hz2, rfl⟩ := hp4
  have hP : va_P E.1 clz [(y0, .inr (7, [.ref ya, .int (nI nt), .ref yo, .int (nI no), .ref ym, .ref yl, .ref yg, .ref yw, .ref yh, .ref yc, .ref yd, .ref yb, .ref yk, .ref yz, .int (nI nd), .int (b2 fl), .ref yr])), (yw, .inl (E.2.2.1, 64, .inl wz1)), (yh, .inl (E.2.2.1, 8, .inl hz2)), (yc, .inl (E.2.1, 32, .inl (va_cpy (shaF (fun q => g (o + q)) n) k8 0 0 32))), (g0, .inl (E.2.1, Mg, .inl g)), (t0, .inl (E.2.1, Mt, .inl t))] H := hP
  have hD : va_D A [(y0, .inr (7, [.ref ya, .int (nI nt), .ref yo, .int (nI no), .ref ym, .ref yl, .ref yg, .ref yw, .ref yh, .ref yc, .ref yd, .ref yb, .ref yk, .ref yz, .int (nI nd), .int (b2 fl), .ref yr])), (yw, .inl (E.2.2.1, 64, .inl wz1)), (yh, .inl (E.2.2.1, 8, .inl hz2)), (yc, .inl (E.2.1, 32, .inl (va_cpy (shaF (fun q => g (o + q)) n) k8 0 0 32))), (g0, .inl (E.2.1, Mg, .inl g)), (t0, .inl (E.2.1, Mt, .inl t))] := hD
  refine lv_aload_n hx hb d_Mod_hash_12 rfl (lv_at hl 0 rfl) ?_
  refine lv_aload_n hx hb d_Mod_hash_13 rfl (lv_at hl 0 rfl) ?_
  refine n_get C fg_Mod_32 hP 0 rfl rfl d_Mod_hash_14 ?_
  refine lv_iconst (v := nI 0) hx hb d_Mod_hash_17 (by decide) ?_
  refine lv_bipush (v := nI 32) hx hb d_Mod_hash_18 (by decide) ?_
  refine lv_aload hx hb d_Mod_hash_20 (lv_at hl 4 rfl) ?_
  refine lv_iload hx hb d_Mod_hash_22 (lv_at hl 5 rfl) ?_
  refine cal_V (As := [.ref yc, .int (nI 0), .int (nI 32), .ref t0, .int (nI ta)]) (rest := []) C lk_Mod_62 (c_Mod_sha l E y0 ya yo ym yl yg yw yh yc yd yb yk yz yr nt no nd fl yc 32 0 32 ta t0 Mt wz1 hz2 (va_cpy (shaF (fun q => g (o + q)) n) k8 0 0 32) t (by omega) (by omega) (by omega) (by omega)) (by decide) hP hD hS 0 7 rfl rfl [0, 1, 2, 3, 5] rfl (by decide) hl.1 rfl (Nat.le_of_ble_eq_true rfl) d_Mod_hash_24 (fun w1 H locs hp8 hP hD hS => ?_)
  obtain ⟨wz5, hz6, rfl⟩ := hp8
  have hP : va_P E.1 clz [(y0, .inr (7, [.ref ya, .int (nI nt), .ref yo, .int (nI no), .ref ym, .ref yl, .ref yg, .ref yw, .ref yh, .ref yc, .ref yd, .ref yb, .ref yk, .ref yz, .int (nI nd), .int (b2 fl), .ref yr])), (yw, .inl (E.2.2.1, 64, .inl wz5)), (yh, .inl (E.2.2.1, 8, .inl hz6)), (yc, .inl (E.2.1, 32, .inl (va_cpy (shaF (fun q => g (o + q)) n) k8 0 0 32))), (g0, .inl (E.2.1, Mg, .inl g)), (t0, .inl (E.2.1, Mt, .inl (va_cpy (shaF (fun q => (va_cpy (shaF (fun q => g (o + q)) n) k8 0 0 32) (0 + q)) 32) t 0 ta 32)))] H := hP
  have hD : va_D A [(y0, .inr (7, [.ref ya, .int (nI nt), .ref yo, .int (nI no), .ref ym, .ref yl, .ref yg, .ref yw, .ref yh, .ref yc, .ref yd, .ref yb, .ref yk, .ref yz, .int (nI nd), .int (b2 fl), .ref yr])), (yw, .inl (E.2.2.1, 64, .inl wz5)), (yh, .inl (E.2.2.1, 8, .inl hz6)), (yc, .inl (E.2.1, 32, .inl (va_cpy (shaF (fun q => g (o + q)) n) k8 0 0 32))), (g0, .inl (E.2.1, Mg, .inl g)), (t0, .inl (E.2.1, Mt, .inl (va_cpy (shaF (fun q => (va_cpy (shaF (fun q => g (o + q)) n) k8 0 0 32) (0 + q)) 32) t 0 ta 32)))] := hD
  rw [hash_once (shaF (fun q => g (o + q)) n) k8] at hP hD
  have hP : va_P E.1 clz [(y0, .inr (7, [.ref ya, .int (nI nt), .ref yo, .int (nI no), .ref ym, .ref yl, .ref yg, .ref yw, .ref yh, .ref yc, .ref yd, .ref yb, .ref yk, .ref yz, .int (nI nd), .int (b2 fl), .ref yr])), (yw, .inl (E.2.2.1, 64, .inl wz5)), (yh, .inl (E.2.2.1, 8, .inl hz6)), (yc, .inl (E.2.1, 32, .inl (va_cpy (shaF (fun q => g (o + q)) n) k8 0 0 32))), (g0, .inl (E.2.1, Mg, .inl g)), (t0, .inl (E.2.1, Mt, .inl (va_cpy (hashF (fun q => g (o + q)) n) t 0 ta 32)))] H := hP
  have hD : va_D A [(y0, .inr (7, [.ref ya, .int (nI nt), .ref yo, .int (nI no), .ref ym, .ref yl, .ref yg, .ref yw, .ref yh, .ref yc, .ref yd, .ref yb, .ref yk, .ref yz, .int (nI nd), .int (b2 fl), .ref yr])), (yw, .inl (E.2.2.1, 64, .inl wz5)), (yh, .inl (E.2.2.1, 8, .inl hz6)), (yc, .inl (E.2.1, 32, .inl (va_cpy (shaF (fun q => g (o + q)) n) k8 0 0 32))), (g0, .inl (E.2.1, Mg, .inl g)), (t0, .inl (E.2.1, Mt, .inl (va_cpy (hashF (fun q => g (o + q)) n) t 0 ta 32)))] := hD
  exact kret [(y0, .inr (7, [.ref ya, .int (nI nt), .ref yo, .int (nI no), .ref ym, .ref yl, .ref yg, .ref yw, .ref yh, .ref yc, .ref yd, .ref yb, .ref yk, .ref yz, .int (nI nd), .int (b2 fl), .ref yr])), (yw, .inl (E.2.2.1, 64, .inl wz5)), (yh, .inl (E.2.2.1, 8, .inl hz6)), (yc, .inl (E.2.1, 32, .inl (va_cpy (shaF (fun q => g (o + q)) n) k8 0 0 32))), (g0, .inl (E.2.1, Mg, .inl g)), (t0, .inl (E.2.1, Mt, .inl (va_cpy (hashF (fun q => g (o + q)) n) t 0 ta 32)))] _ _ _ _ d_Mod_hash_27 (⟨_, _, rfl⟩) rfl hP hS
