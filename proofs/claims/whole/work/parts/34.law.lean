abbrev RLaw : String := "ScriptStackLaw"
theorem tl1 {w : Cond} (i : Nat) (h : tables_1_1[i]? = some w) : w ∈ lw_tbl := List.mem_append_right _ (List.mem_append_left _ (List.mem_of_getElem? h))
theorem tl2 {w : Cond} (i : Nat) (h : tables_1_2[i]? = some w) : w ∈ lw_tbl := List.mem_append_right _ (List.mem_append_right _ (List.mem_append_left _ (List.mem_of_getElem? h)))
theorem tl3 {w : Cond} (i : Nat) (h : tables_1_3[i]? = some w) : w ∈ lw_tbl := List.mem_append_right _ (List.mem_append_right _ (List.mem_append_right _ (List.mem_of_getElem? h)))
theorem ck_Law_7 : Cond.classLink RLaw 7 RSS ∈ ALLW ∧ Cond.instantiable RSS 9 ∈ ALLW ∧ Cond.initialized RSS ∈ ALLW := ⟨al1 11 rfl rfl, al1 12 rfl rfl, al1 1 rfl rfl⟩
theorem ik_Law_9 : ICall RLaw 9 y_SS_init b_SS_init 1 0 := ⟨al1 13 rfl rfl, al1 14 rfl rfl, al1 1 rfl rfl, al1 15 rfl rfl, rfl, by decide, by decide, by decide +kernel⟩
theorem ck_Law_10 : Cond.classLink RLaw 10 RMod ∈ ALLW ∧ Cond.instantiable RMod 17 ∈ ALLW ∧ Cond.initialized RMod ∈ ALLW := ⟨al2 141 rfl rfl, al2 142 rfl rfl, al1 8 rfl rfl⟩
theorem ik_Law_12 : ICall RLaw 12 y_Mod_init b_Mod_init 1 0 := ⟨al2 143 rfl rfl, al2 144 rfl rfl, al1 8 rfl rfl, al2 145 rfl rfl, rfl, by decide, by decide, by decide +kernel⟩
theorem lk_Law_13 : VCall RLaw 13 y_SS_feed b_SS_feed 6 (some .int) 5 := ⟨al1 159 rfl rfl, al1 160 rfl rfl, al1 161 rfl rfl, al1 1 rfl rfl, al1 162 rfl rfl, by decide, by decide, by decide +kernel⟩
theorem lk_Law_17 : VCall RLaw 17 y_Mod_feed b_Mod_feed 6 (some .int) 5 := ⟨al2 200 rfl rfl, al2 201 rfl rfl, al2 202 rfl rfl, al1 8 rfl rfl, al2 203 rfl rfl, by decide, by decide, by decide +kernel⟩
theorem lk_Law_18 : VCall RLaw 18 y_SS_end b_SS_end 2 (some .int) 1 := ⟨al1 175 rfl rfl, al1 176 rfl rfl, al1 177 rfl rfl, al1 1 rfl rfl, al1 178 rfl rfl, by decide, by decide, by decide +kernel⟩
theorem lk_Law_22 : VCall RLaw 22 y_Mod_end b_Mod_end 2 (some .int) 1 := ⟨al2 208 rfl rfl, al2 209 rfl rfl, al2 210 rfl rfl, al1 8 rfl rfl, al2 211 rfl rfl, by decide, by decide, by decide +kernel⟩
theorem lk_Law_23 : VCall RLaw 23 y_SS_script b_SS_script 3 (some .int) 1 := ⟨al1 179 rfl rfl, al1 180 rfl rfl, al1 181 rfl rfl, al1 1 rfl rfl, al1 182 rfl rfl, by decide, by decide, by decide +kernel⟩
theorem lk_Law_26 : VCall RLaw 26 y_Mod_script1 b_Mod_script1 3 (some .int) 1 := ⟨al2 212 rfl rfl, al2 213 rfl rfl, al2 214 rfl rfl, al1 8 rfl rfl, al2 215 rfl rfl, by decide, by decide, by decide +kernel⟩
theorem lk_Law_27 : VCall RLaw 27 y_SS_message b_SS_message 2 (some .int) 0 := ⟨al1 193 rfl rfl, al1 194 rfl rfl, al1 195 rfl rfl, al1 1 rfl rfl, al1 196 rfl rfl, by decide, by decide, by decide +kernel⟩
theorem lk_Law_31 : VCall RLaw 31 y_Mod_message b_Mod_message 2 (some .int) 0 := ⟨al2 216 rfl rfl, al2 217 rfl rfl, al2 218 rfl rfl, al1 8 rfl rfl, al2 219 rfl rfl, by decide, by decide, by decide +kernel⟩
theorem lk_Law_32 : VCall RLaw 32 y_SS_run b_SS_run 2 (some .boolean) 1 := ⟨al1 222 rfl rfl, al1 223 rfl rfl, al1 224 rfl rfl, al1 1 rfl rfl, al1 225 rfl rfl, by decide, by decide, by decide +kernel⟩
theorem lk_Law_36 : VCall RLaw 36 y_Mod_run b_Mod_run 2 (some .boolean) 1 := ⟨al2 237 rfl rfl, al2 238 rfl rfl, al2 239 rfl rfl, al1 8 rfl rfl, al3 0 rfl rfl, by decide, by decide, by decide +kernel⟩
theorem lk_Law_37 : VCall RLaw 37 y_SS_depth b_SS_depth 1 (some .int) 0 := ⟨al2 112 rfl rfl, al2 113 rfl rfl, al2 114 rfl rfl, al1 1 rfl rfl, al2 115 rfl rfl, by decide, by decide, by decide +kernel⟩
theorem lk_Law_40 : VCall RLaw 40 y_Mod_depth b_Mod_depth 1 (some .int) 0 := ⟨al3 36 rfl rfl, al3 37 rfl rfl, al3 38 rfl rfl, al1 8 rfl rfl, al3 39 rfl rfl, by decide, by decide, by decide +kernel⟩
theorem lk_Law_41 : VCall RLaw 41 y_SS_element b_SS_element 3 (some .int) 2 := ⟨al2 116 rfl rfl, al2 117 rfl rfl, al2 118 rfl rfl, al1 1 rfl rfl, al2 119 rfl rfl, by decide, by decide, by decide +kernel⟩
theorem lk_Law_45 : VCall RLaw 45 y_Mod_element b_Mod_element 3 (some .int) 2 := ⟨al3 40 rfl rfl, al3 41 rfl rfl, al3 42 rfl rfl, al1 8 rfl rfl, al3 43 rfl rfl, by decide, by decide, by decide +kernel⟩
theorem lk_Law_46 : VCall RLaw 46 y_SS_sha b_SS_sha 1 (some .int) 0 := ⟨al2 122 rfl rfl, al2 123 rfl rfl, al2 124 rfl rfl, al1 1 rfl rfl, al2 125 rfl rfl, by decide, by decide, by decide +kernel⟩
theorem lk_Law_49 : VCall RLaw 49 y_Mod_sha0 b_Mod_sha0 1 (some .int) 0 := ⟨al3 44 rfl rfl, al3 45 rfl rfl, al3 46 rfl rfl, al1 8 rfl rfl, al3 47 rfl rfl, by decide, by decide, by decide +kernel⟩
theorem lk_Law_50 : VCall RLaw 50 y_SS_sign b_SS_sign 1 (some .int) 0 := ⟨al2 127 rfl rfl, al2 128 rfl rfl, al2 129 rfl rfl, al1 1 rfl rfl, al2 130 rfl rfl, by decide, by decide, by decide +kernel⟩
theorem lk_Law_53 : VCall RLaw 53 y_Mod_sign b_Mod_sign 2 (some .int) 0 := ⟨al3 48 rfl rfl, al3 49 rfl rfl, al3 50 rfl rfl, al1 8 rfl rfl, al3 51 rfl rfl, by decide, by decide, by decide +kernel⟩
theorem lk_Law_54 : VCall RLaw 54 y_SS_back b_SS_back 2 (some .int) 0 := ⟨al2 132 rfl rfl, al2 133 rfl rfl, al2 134 rfl rfl, al1 1 rfl rfl, al2 135 rfl rfl, by decide, by decide, by decide +kernel⟩
theorem lk_Law_57 : VCall RLaw 57 y_Mod_back b_Mod_back 2 (some .int) 0 := ⟨al3 52 rfl rfl, al3 53 rfl rfl, al3 54 rfl rfl, al1 8 rfl rfl, al3 55 rfl rfl, by decide, by decide, by decide +kernel⟩
theorem lk_Law_58 : VCall RLaw 58 y_SS_octet b_SS_octet 2 (some .int) 1 := ⟨al2 137 rfl rfl, al2 138 rfl rfl, al2 139 rfl rfl, al1 1 rfl rfl, al2 140 rfl rfl, by decide, by decide, by decide +kernel⟩
theorem lk_Law_61 : VCall RLaw 61 y_Mod_octet b_Mod_octet 2 (some .int) 1 := ⟨al3 56 rfl rfl, al3 57 rfl rfl, al3 58 rfl rfl, al1 8 rfl rfl, al3 59 rfl rfl, by decide, by decide, by decide +kernel⟩
theorem nl_in : Cond.methodLinkNest RRun 32 y_Br_init RSS ∈ lw_tbl := List.mem_append_right _ (List.mem_append_left _ (List.mem_of_getElem? (i := 105) rfl))
theorem tb_Sha_START : ∀ j : Nat, j < 8 → Cond.eq (.elem (.static RSha "START" "[I") (.int (Int32.ofNat j))) (.int (shS j)) ∈ flatC (Jvm.Cond.and given_1 narrow_1) := fun j hj => va_run (N := 8) (p := 7) (f := fun j => Cond.eq (.elem (.static RSha "START" "[I") (.int (Int32.ofNat j))) (.int (shS j))) (by decide +kernel) j hj
theorem tb_Sha_ROUND : ∀ j : Nat, j < 64 → Cond.eq (.elem (.static RSha "ROUND" "[I") (.int (Int32.ofNat j))) (.int (shK j)) ∈ flatC (Jvm.Cond.and given_1 narrow_1) := fun j hj => va_run (N := 64) (p := 18) (f := fun j => Cond.eq (.elem (.static RSha "ROUND" "[I") (.int (Int32.ofNat j))) (.int (shK j))) (by decide +kernel) j hj
theorem tb_Mod_K : ∀ j : Nat, j < 64 → Cond.eq (.elem (.static RMod "K" "[I") (.int (Int32.ofNat j))) (.int (shK j)) ∈ flatC (Jvm.Cond.and given_1 narrow_1) := fun j hj => va_run (N := 64) (p := 96) (f := fun j => Cond.eq (.elem (.static RMod "K" "[I") (.int (Int32.ofNat j))) (.int (shK j))) (by decide +kernel) j hj
theorem tb_Mod_START : ∀ j : Nat, j < 8 → Cond.eq (.elem (.static RMod "START" "[I") (.int (Int32.ofNat j))) (.int (shS j)) ∈ flatC (Jvm.Cond.and given_1 narrow_1) := fun j hj => va_run (N := 8) (p := 85) (f := fun j => Cond.eq (.elem (.static RMod "START" "[I") (.int (Int32.ofNat j))) (.int (shS j))) (by decide +kernel) j hj
section XG
variable {p : Program} {l : Launch} {e : Env} {R : Room} {s : State} {m : MethodId} {args : Array Value} {below : List Frame} {meth : Method} {c : Code} {H : Heap} {locs : List Loc} {cells slots : Nat} {Q : State → Prop}
variable {cc bytes : ByteArray} {pc nL maxL index n : Nat} {ls : Array Slot} {rest As : List Value} {E : En} {A : Nat → Prop} {own : String} {y : MethodName} {ret : FieldType} {rm : Room} {ws wc : va_W} {b : Nat} {fs : List Value} {T : u_T} {N : Nat}
theorem topeg {x z : Int32} (h : x = z) (k : W p l e R s m args below meth c H locs cells slots Q (F0 m pc ls (.int z :: rest))) : W p l e R s m args below meth c H locs cells slots Q (F0 m pc ls (.int x :: rest)) := h ▸ k
theorem cal_Ig {post : Int32 → va_W → Prop} (C : Cx p c cc nL s m args own E A) (V : VCall own index y bytes maxL (some ret) n) (hM : CtI l y bytes maxL ret rm E (.ref b :: As) wc post) (hR : rm.cells = 0 ∧ rm.slots = 0 ∧ rm.frames + 1 ≤ R.frames ∧ 8 + (maxL + 11) + rm.locals ≤ R.locals) (hcs : cells ≤ R.cells ∧ slots ≤ R.slots)
    (hP : va_P E.1 clz ws H) (hD : va_D A ws) (hS : va_S A s.heap H locs) (q0 ci : Nat) (he : ws[q0]? = some (b, .inr (ci, fs))) (hc : clz[ci]? = some (y.cls, T, N)) (isC : List Nat) (hC : isC.map (fun i => ws[i]?) = wc.map some) (hnd : va_nd isC = true)
    (hls : ls.size = nL) (hn : As.length = n) (hst : (rest.map fun v => v.category).sum ≤ 8) (hdg : decode cc pc = .ok (.invokevirtual index, 3))
    (kk : ∀ (r : Int32) (w1 : va_W) (H1 : Heap) (locs1 : List Loc), post r w1 → va_P E.1 clz (sm ws isC w1) H1 → va_D A (sm ws isC w1) → va_S A s.heap H1 locs1 → W p l e R s m args below meth c H1 locs1 cells slots Q (F0 m (pc + 3) ls (.int r :: rest))) :
    W p l e R s m args below meth c H locs cells slots Q (F0 m pc ls (As.reverse ++ .ref b :: rest)) := by
  obtain ⟨hx, hb, hml, hown, hts, hK, hX, hA⟩ := C
  have hF := va_free (wc := wc) hD hS hA isC hC
  refine va_calli (va_runV (C := y.cls) (As := As) (rest := rest) ⟨hx, hb, hml, hown, hts⟩ (hM H.size) (cwV n hts V.good rfl hR.1 hR.2.1 ⟨rfl, V.2.2.2.2.2⟩ hR.2.2) ⟨Wi.blind, va_recv hK hP hc he, Wi.here hK hX hA hP hD hS isC hC hnd⟩ rfl hn hls rfl (lv_room hst) hdg ⟨hcs.1, hcs.2⟩) hS (fun q _ h => hF q h) hF (fun r w1 t H1 locs1 ht hvm hpost hB hz1 hk1 hS1 => ?_)
  obtain ⟨hP1, -, hf⟩ := hB
  rw [ht] at hP1
  exact kk r w1 H1 locs1 hpost (sm_P hP hD isC hC hk1 hP1 hf) (va_D_fst hD (sm_fst isC w1 wc ws hC hf hnd)) hS1
theorem n_sld (C : Cx p c cc nL s m args own E A) {L : Nat} {xs : Nat → Int32} (hX : va_X b L xs s s.heap) (hbl : b < s.heap.size) (hbA : ¬ A b) (hS : va_S A s.heap H locs) {i : Int32} (k : Nat) (hi : i = nI k) (hk : k < L) (hL : L < 2 ^ 31) (hdg : decode cc pc = .ok (.iaload, 1))
    (kk : W p l e R s m args below meth c H locs cells slots Q (F0 m (pc + 1) ls (.int (xs k) :: rest))) : W p l e R s m args below meth c H locs cells slots Q (F0 m pc ls (.int i :: .ref b :: rest)) := by
  subst hi
  refine va_sld C.1 C.2.1 hX hbl hbA hS (vp_in_nI hk hL) hdg ?_
  rw [nI_clamp (by omega)]
  exact kk
end XG
theorem lt6 {L i : Nat} (hL : L < 2 ^ 20) (hi : i < 2 ^ 20) (h : ¬ nI L - nI 6 < nI i) : i + 6 ≤ L := by
  rw [Int32.lt_iff_toInt_lt, pk_sub_toInt (by omega) (by omega), nI_toInt (by omega)] at h
  omega
theorem fB_0 : fB (fun _ => 0) := fun _ => by show nb 0 = 0; decide
theorem lay_0 (f : Nat → Int32) (o : Nat) : lay f o [] := lay_nil f o
def z32 : Byl := List.replicate 32 0
theorem z32_lay : lay (fun _ => 0) 0 z32 := by
  intro j hj
  unfold z32 at hj ⊢
  rw [List.length_replicate] at hj
  rw [List.getD_eq_getElem?_getD, List.getElem?_replicate, if_pos hj]
  rfl
/-- the law's tables, statics and classes, as the walk wants them -/
theorem law_cx {p : Program} {s : State} {m : MethodId} {meth : Method} {c : Code} {b L : Nat} {xs : Nat → Int32} (C0 : lw_At p s m meth c b L xs) : ∃ E : En, Cx p c code 4 s m #[Value.ref b] RLaw E (fun q => s.heap.size ≤ q) := by
  obtain ⟨hx, hb, -, hml, hown, hts0, -, -, -, hgv⟩ := C0
  have hts : ∀ w ∈ ALLW, w.before #[Value.ref b] s = true := fun w hw => hts0 w (ALLW_tbl w hw)
  have hA : ∀ a : Nat, a < s.heap.size → ¬ s.heap.size ≤ a := fun a h => Nat.not_le.mpr h
  have hs := flat_of_before _ hgv
  obtain ⟨c0, i0, k0⟩ := u_known (n := 2) hts in_Br (hts (.instantiable RBr 2) (al1 104 rfl rfl))
  obtain ⟨c1, i1, k1⟩ := u_known (n := 3) hts in_El (hts (.instantiable REl 3) (al1 44 rfl rfl))
  obtain ⟨c2, i2, k2⟩ := u_known (n := 2) hts in_Row (hts (.instantiable RRow 2) (al1 20 rfl rfl))
  obtain ⟨c3, i3, k3⟩ := u_known (n := 4) hts in_Run (hts (.instantiable RRun 4) (al1 38 rfl rfl))
  obtain ⟨c4, i4, k4⟩ := u_known (n := 2) hts in_Sha (hts (.instantiable RSha 2) (al1 73 rfl rfl))
  obtain ⟨c5, i5, k5⟩ := u_known (n := 4) hts in_Sig (hts (.instantiable RSig 4) (al1 67 rfl rfl))
  obtain ⟨c6, i6, k6⟩ := u_known (n := 9) hts in_SS (hts (.instantiable RSS 9) (al1 12 rfl rfl))
  obtain ⟨c7, i7, k7⟩ := u_known (n := 17) hts in_Mod (hts (.instantiable RMod 17) (al2 142 rfl rfl))
  obtain ⟨cB, kB, cmB, hfB, hkB, hkkB⟩ := Cond.arrayClass_spec (hts _ ar_byte)
  obtain ⟨cI, kI, cmI, hfI, hkI, hkkI⟩ := Cond.arrayClass_spec (hts _ ar_int)
  obtain ⟨cZ, kZ, cmZ, hfZ, hkZ, hkkZ⟩ := Cond.arrayClass_spec (hts _ ar_boolean)
  obtain ⟨t0, ev0, vt0⟩ := va_Tof (f := fun j => .int (shS j)) (N := 8) (A := fun q => s.heap.size ≤ q) (by decide) (hs (.arrayOf (.static RSha "START" "[I") .int) (by decide +kernel)) (va_eqt (hs (.eq (.length (.static RSha "START" "[I")) (.int 8)) (by decide +kernel))) (fun j hj => va_eqt (hs _ (tb_Sha_START j hj))) hA
  have zt0 := va_Zref (hts0 (.laysStatic RSha "START" "[I") (tl1 206 rfl)) (hts (.initialized RSha) (al1 6 rfl rfl)) ev0 hA
  obtain ⟨t1, ev1, vt1⟩ := va_Tof (f := fun j => .int (shK j)) (N := 64) (A := fun q => s.heap.size ≤ q) (by decide) (hs (.arrayOf (.static RSha "ROUND" "[I") .int) (by decide +kernel)) (va_eqt (hs (.eq (.length (.static RSha "ROUND" "[I")) (.int 64)) (by decide +kernel))) (fun j hj => va_eqt (hs _ (tb_Sha_ROUND j hj))) hA
  have zt1 := va_Zref (hts0 (.laysStatic RSha "ROUND" "[I") (tl1 221 rfl)) (hts (.initialized RSha) (al1 6 rfl rfl)) ev1 hA
  obtain ⟨t2, ev2, vt2⟩ := va_Tof (f := fun j => .int (shK j)) (N := 64) (A := fun q => s.heap.size ≤ q) (by decide) (hs (.arrayOf (.static RMod "K" "[I") .int) (by decide +kernel)) (va_eqt (hs (.eq (.length (.static RMod "K" "[I")) (.int 64)) (by decide +kernel))) (fun j hj => va_eqt (hs _ (tb_Mod_K j hj))) hA
  have zt2 := va_Zref (hts0 (.laysStatic RMod "K" "[I") (tl2 236 rfl)) (hts (.initialized RMod) (al1 8 rfl rfl)) ev2 hA
  obtain ⟨t3, ev3, vt3⟩ := va_Tof (f := fun j => .int (shS j)) (N := 8) (A := fun q => s.heap.size ≤ q) (by decide) (hs (.arrayOf (.static RMod "START" "[I") .int) (by decide +kernel)) (va_eqt (hs (.eq (.length (.static RMod "START" "[I")) (.int 8)) (by decide +kernel))) (fun j hj => va_eqt (hs _ (tb_Mod_START j hj))) hA
  have zt3 := va_Zref (hts0 (.laysStatic RMod "START" "[I") (tl2 229 rfl)) (hts (.initialized RMod) (al1 8 rfl rfl)) ev3 hA
  refine ⟨((fun k => match k with | 0 => c0 | 1 => c1 | 2 => c2 | 3 => c3 | 4 => c4 | 5 => c5 | 6 => c6 | _ => c7, fun k => match k with | 0 => i0 | 1 => i1 | 2 => i2 | 3 => i3 | 4 => i4 | 5 => i5 | 6 => i6 | _ => i7), cB, cI, cZ, t0, t1, t2, t3), hx, hb, hml, hown, hts, ⟨?_, ?_⟩, ⟨⟨zt0, vt0⟩, ⟨zt1, vt1⟩, ⟨zt2, vt2⟩, ⟨zt3, vt3⟩⟩, fun q h => h⟩
  · intro k q hq
    match k, hq with
    | 0, hq => cases hq; exact k0
    | 1, hq => cases hq; exact k1
    | 2, hq => cases hq; exact k2
    | 3, hq => cases hq; exact k3
    | 4, hq => cases hq; exact k4
    | 5, hq => cases hq; exact k5
    | 6, hq => cases hq; exact k6
    | 7, hq => cases hq; exact k7
  · intro k q hq
    match k, hq with
    | 0, hq => cases hq; exact ⟨fun n z => ⟨fun k h => (by cases h), kB, hkB, cmB, hkkB⟩, hfB⟩
    | 1, hq => cases hq; exact ⟨fun n z => ⟨fun k h => (by cases h), kI, hkI, cmI, hkkI⟩, hfI⟩
    | 2, hq => cases hq; exact ⟨fun n z => ⟨fun k h => (by cases h), kZ, hkZ, cmZ, hkkZ⟩, hfZ⟩
