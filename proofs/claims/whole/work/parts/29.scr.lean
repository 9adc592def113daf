theorem iincM1 (a : Nat) : nI (a + 1) + Int32.ofInt (-1) = nI a := pk_m1 a
def offS : List Bool → Nat
  | [] => 0
  | b :: r => if b = true then offS r else offS r + 1
def brep (kr : Nat → Int32) : List Bool → Prop
  | [] => True
  | b :: r => kr r.length = b2 b ∧ brep kr r
theorem off_le : ∀ bs : List Bool, offS bs ≤ bs.length := by
  intro bs
  induction bs with
  | nil => exact Nat.le_refl _
  | cons b r ih => unfold offS; simp only [List.length_cons]; split <;> omega
theorem shut_off : ∀ bs : List Bool, shutS bs = 0 ↔ offS bs = 0 := by
  intro bs
  induction bs with
  | nil => simp [shutS, offS]
  | cons b r ih =>
    rw [shutS_c]
    unfold offS
    cases b
    · simp only [Bool.false_eq_true, if_false]
      split
      · omega
      · rename_i h; exact ⟨fun q => absurd q h, fun q => by omega⟩
    · simp only [if_true]
      split
      · rename_i h; exact ⟨fun _ => ih.mp h, fun _ => rfl⟩
      · exact ih
theorem brep_upd {kr : Nat → Int32} {v : Int32} {k : Nat} : ∀ bs : List Bool, brep kr bs → bs.length ≤ k → brep (upd kr k v) bs := by
  intro bs
  induction bs with
  | nil => intro _ _; trivial
  | cons b r ih =>
    intro h hk
    simp only [List.length_cons] at hk
    exact ⟨by rw [upd_lt (by omega)]; exact h.1, ih h.2 (by omega)⟩
theorem brep_push {kr : Nat → Int32} {bs : List Bool} (b : Bool) {k : Nat} (h : brep kr bs) (hk : k = bs.length) : brep (upd kr k (b2 b)) (b :: bs) := by
  subst hk
  exact ⟨pk_us, brep_upd bs h (Nat.le_refl _)⟩

def scrM (E : En) (y0 ya yo ym yl yg yw yh yc yd yb yk yz yr nt no : Nat) (fl : Bool) (k3 k5 : Nat → Int32) (R : Option Stk) (r : Int32) (w : va_W) : Prop := ∃ (n : Nat) (f sz k6 k7 k8 k9 kb kr : Nat → Int32), w = [(y0, .inr (7, [.ref ya, .int (nI nt), .ref yo, .int (nI no), .ref ym, .ref yl, .ref yg, .ref yw, .ref yh, .ref yc, .ref yd, .ref yb, .ref yk, .ref yz, .int (nI n), .int (b2 fl), .ref yr])), (yg, .inl (E.2.1, 32, .inl k5)), (yw, .inl (E.2.2.1, 64, .inl k6)), (yh, .inl (E.2.2.1, 8, .inl k7)), (yc, .inl (E.2.1, 32, .inl k8)), (yd, .inl (E.2.1, 32, .inl k9)), (yb, .inl (E.2.1, 512, .inl kb)), (yk, .inl (E.2.1, 1920, .inl f)), (yz, .inl (E.2.2.1, 24, .inl sz)), (ym, .inl (E.2.1, 160, .inl k3)), (yr, .inl (E.2.2.2.1, 100, .inl kr))] ∧ fB f ∧ ((∃ S1 : Stk, R = some S1 ∧ r = b2 true ∧ n = S1.length ∧ rep f sz S1 ∧ S1.length ≤ 24) ∨ (R = none ∧ r = b2 false))
theorem scrM_nar {E : En} {y0 ya yo ym yl yg yw yh yc yd yb yk yz yr nt no : Nat} {fl : Bool} {k3 k5 : Nat → Int32} {R : Option Stk} (r : Int32) (w : va_W) (h : scrM E y0 ya yo ym yl yg yw yh yc yd yb yk yz yr nt no fl k3 k5 R r w) : narrow .boolean (.int r) = .int r := by
  obtain ⟨n, f, sz, k6, k7, k8, k9, kb, kr, -, -, ⟨S1, -, rfl, -⟩ | ⟨-, rfl⟩⟩ := h
  · exact b2_nar _
  · exact b2_nar _

theorem lay_subO {sf : Nat → Int32} {x : Byl} {o p k : Nat} (h : lay sf o x) (hk : p + k ≤ x.length) : lay sf (o + p) ((x.drop p).take k) ∧ ((x.drop p).take k).length = k := by
  have h1 : lay (fun q => sf (o + q)) 0 x := fun j hj => by show sf (o + (0 + j)) = _; rw [Nat.zero_add]; exact h j hj
  obtain ⟨h2, h3⟩ := lay_sub h1 hk
  refine ⟨fun j hj => ?_, h3⟩
  rw [← h2 j hj]
  show sf (o + p + j) = sf (o + (p + j))
  rw [Nat.add_assoc]

set_option maxHeartbeats 4000000 in
set_option maxRecDepth 100000 in
theorem c_Mod_script (l : Launch) (E : En) (y0 ya yo ym yl yg yw yh yc yd yb yk yz yr nt no : Nat) (fl : Bool) (k5 k6 k7 k8 k9 kb kr k3 f sz : Nat → Int32) (S : Stk) (msg : Byl) (hrep : rep f sz S) (hB : fB f) (hB5 : fB k5) (hlen : S.length ≤ 24) (hm : lay k5 0 msg) (hm32 : msg.length = 32) (fr : Nat) (x : Byl) (ht : Int32) (R0 : Option Stk) (hR0 : execS x ht msg (x.length + 1) 0 [] S = R0) (hls : lay k3 fr x) (hx80 : x.length ≤ 80) (hfr : fr + x.length ≤ 160) (hB3 : fB k3) : CtI l y_Mod_script3 b_Mod_script3 9 .boolean (rmd 5) E [.ref y0, .int (nI fr), .int (nI x.length), .int ht] [(y0, .inr (7, [.ref ya, .int (nI nt), .ref yo, .int (nI no), .ref ym, .ref yl, .ref yg, .ref yw, .ref yh, .ref yc, .ref yd, .ref yb, .ref yk, .ref yz, .int (nI S.length), .int (b2 fl), .ref yr])), (yg, .inl (E.2.1, 32, .inl k5)), (yw, .inl (E.2.2.1, 64, .inl k6)), (yh, .inl (E.2.2.1, 8, .inl k7)), (yc, .inl (E.2.1, 32, .inl k8)), (yd, .inl (E.2.1, 32, .inl k9)), (yb, .inl (E.2.1, 512, .inl kb)), (yk, .inl (E.2.1, 1920, .inl f)), (yz, .inl (E.2.2.1, 24, .inl sz)), (ym, .inl (E.2.1, 160, .inl k3)), (yr, .inl (E.2.2.2.1, 100, .inl kr))] (scrM E y0 ya yo ym yl yg yw yh yc yd yb yk yz yr nt no fl k3 k5 R0) := by
  refine CtI.of (by decide) (Nat.le_of_ble_eq_true rfl) (scrM_nar) ?_
  intro p e s m args below meth c A Q H locs ls C hP hD hS hl kret
  have hx := C.1
  have hb := C.2.1
  have hl : lv_has ls 9 [(0, .ref y0), (1, .int (nI fr)), (2, .int (nI x.length)), (3, .int ht)] := hl
  refine lv_iconst (v := nI 0) hx hb d_Mod_script3_0 (by decide) ?_
  refine lv_istore (lv' := [(4, .int (nI 0)), (0, .ref y0), (1, .int (nI fr)), (2, .int (nI x.length)), (3, .int ht)]) hx hb d_Mod_script3_1 hl (by decide) rfl (fun ls hl => ?_)
  refine lv_iconst (v := nI 0) hx hb d_Mod_script3_3 (by decide) ?_
  refine lv_istore (lv' := [(5, .int (nI 0)), (4, .int (nI 0)), (0, .ref y0), (1, .int (nI fr)), (2, .int (nI x.length)), (3, .int ht)]) hx hb d_Mod_script3_4 hl (by decide) rfl (fun ls hl => ?_)
  refine lv_iload_n hx hb d_Mod_script3_6 rfl (lv_at hl 3 rfl) ?_
  refine lv_istore (lv' := [(6, .int (nI fr)), (5, .int (nI 0)), (4, .int (nI 0)), (0, .ref y0), (1, .int (nI fr)), (2, .int (nI x.length)), (3, .int ht)]) hx hb d_Mod_script3_7 hl (by decide) rfl (fun ls hl => ?_)
  have hloop9 : ∀ (dd : Nat) (dz : Nat) (p9 : Nat) (bs : List Bool) (S : Stk) (f : Nat → Int32) (sz : Nat → Int32) (k6 : Nat → Int32) (k7 : Nat → Int32) (k8 : Nat → Int32) (k9 : Nat → Int32) (kb : Nat → Int32) (kr : Nat → Int32) (H : Heap) (locs : List Loc) (ls : Array Slot), dz < dd → (x.length - p9 ≤ dz) → (p9 ≤ x.length) → (execS x ht msg (dz + 1) p9 bs S = R0) → (rep f sz S) → (fB f) → (S.length ≤ 24) → (bs.length ≤ p9) → (brep kr bs) → va_P E.1 clz [(y0, .inr (7, [.ref ya, .int (nI nt), .ref yo, .int (nI no), .ref ym, .ref yl, .ref yg, .ref yw, .ref yh, .ref yc, .ref yd, .ref yb, .ref yk, .ref yz, .int (nI S.length), .int (b2 fl), .ref yr])), (yg, .inl (E.2.1, 32, .inl k5)), (yw, .inl (E.2.2.1, 64, .inl k6)), (yh, .inl (E.2.2.1, 8, .inl k7)), (yc, .inl (E.2.1, 32, .inl k8)), (yd, .inl (E.2.1, 32, .inl k9)), (yb, .inl (E.2.1, 512, .inl kb)), (yk, .inl (E.2.1, 1920, .inl f)), (yz, .inl (E.2.2.1, 24, .inl sz)), (ym, .inl (E.2.1, 160, .inl k3)), (yr, .inl (E.2.2.2.1, 100, .inl kr))] H → va_D A [(y0, .inr (7, [.ref ya, .int (nI nt), .ref yo, .int (nI no), .ref ym, .ref yl, .ref yg, .ref yw, .ref yh, .ref yc, .ref yd, .ref yb, .ref yk, .ref yz, .int (nI S.length), .int (b2 fl), .ref yr])), (yg, .inl (E.2.1, 32, .inl k5)), (yw, .inl (E.2.2.1, 64, .inl k6)), (yh, .inl (E.2.2.1, 8, .inl k7)), (yc, .inl (E.2.1, 32, .inl k8)), (yd, .inl (E.2.1, 32, .inl k9)), (yb, .inl (E.2.1, 512, .inl kb)), (yk, .inl (E.2.1, 1920, .inl f)), (yz, .inl (E.2.2.1, 24, .inl sz)), (ym, .inl (E.2.1, 160, .inl k3)), (yr, .inl (E.2.2.2.1, 100, .inl kr))] → va_S A s.heap H locs → lv_has ls 9 [(6, .int (nI (fr + p9))), (5, .int (nI (offS bs))), (4, .int (nI bs.length)), (3, .int ht), (2, .int (nI x.length)), (1, .int (nI fr)), (0, .ref y0)] → W p l e (rmd 5) s m args below meth c H locs 0 0 Q (F0 m 9 ls []) := by
    intro dd
    induction dd with
    | zero => intro dz p9 bs S f sz k6 k7 k8 k9 kb kr H locs ls hmz; exact absurd hmz (Nat.not_lt_zero _)
    | succ dd ih9 =>
      intro dz p9 bs S f sz k6 k7 k8 k9 kb kr H locs ls hmz hfu hp9 hR hrep hB hlen hbs hbr hP hD hS hl
      refine lv_iload hx hb d_Mod_script3_9 (lv_at hl 0 rfl) ?_
      refine lv_iload_n hx hb d_Mod_script3_11 rfl (lv_at hl 5 rfl) ?_
      refine lv_iload_n hx hb d_Mod_script3_12 rfl (lv_at hl 4 rfl) ?_
      refine lv_iadd hx hb d_Mod_script3_13 ?_
      refine tope (z := nI (fr + x.length)) (nI_add _ _) ?_
      refine j_ge C (fr + p9) (fr + x.length) rfl rfl (by omega) (by omega) d_Mod_script3_14 rfl (fun hc1 => ?_) (fun hc1 => ?_)
      · refine lv_iload hx hb d_Mod_script3_314 (lv_at hl 2 rfl) ?_
        refine z_ne C bs.length rfl (by omega) d_Mod_script3_316 rfl (fun hc2 => ?_) (fun hc2 => ?_)
        · refine lv_iconst (v := nI 0) hx hb d_Mod_script3_323 (by decide) ?_
          exact kret (nI 0) [(y0, .inr (7, [.ref ya, .int (nI nt), .ref yo, .int (nI no), .ref ym, .ref yl, .ref yg, .ref yw, .ref yh, .ref yc, .ref yd, .ref yb, .ref yk, .ref yz, .int (nI S.length), .int (b2 fl), .ref yr])), (yg, .inl (E.2.1, 32, .inl k5)), (yw, .inl (E.2.2.1, 64, .inl k6)), (yh, .inl (E.2.2.1, 8, .inl k7)), (yc, .inl (E.2.1, 32, .inl k8)), (yd, .inl (E.2.1, 32, .inl k9)), (yb, .inl (E.2.1, 512, .inl kb)), (yk, .inl (E.2.1, 1920, .inl f)), (yz, .inl (E.2.2.1, 24, .inl sz)), (ym, .inl (E.2.1, 160, .inl k3)), (yr, .inl (E.2.2.2.1, 100, .inl kr))] _ _ _ _ d_Mod_script3_324 (⟨_, _, _, _, _, _, _, _, _, rfl, hB, Or.inr ⟨hR.symm.trans ((ex_end (by omega)).trans (if_neg (fun q => hc2 (by rw [q]; rfl)))), rfl⟩⟩) rfl hP hS
        · refine lv_iconst (v := nI 1) hx hb d_Mod_script3_319 (by decide) ?_
          refine lv_goto hx hb d_Mod_script3_320 rfl ?_
          exact kret (nI 1) [(y0, .inr (7, [.ref ya, .int (nI nt), .ref yo, .int (nI no), .ref ym, .ref yl, .ref yg, .ref yw, .ref yh, .ref yc, .ref yd, .ref yb, .ref yk, .ref yz, .int (nI S.length), .int (b2 fl), .ref yr])), (yg, .inl (E.2.1, 32, .inl k5)), (yw, .inl (E.2.2.1, 64, .inl k6)), (yh, .inl (E.2.2.1, 8, .inl k7)), (yc, .inl (E.2.1, 32, .inl k8)), (yd, .inl (E.2.1, 32, .inl k9)), (yb, .inl (E.2.1, 512, .inl kb)), (yk, .inl (E.2.1, 1920, .inl f)), (yz, .inl (E.2.2.1, 24, .inl sz)), (ym, .inl (E.2.1, 160, .inl k3)), (yr, .inl (E.2.2.2.1, 100, .inl kr))] _ _ _ _ d_Mod_script3_324 (⟨_, _, _, _, _, _, _, _, _, rfl, hB, Or.inl ⟨S, hR.symm.trans ((ex_end (by omega)).trans (if_pos (List.length_eq_zero_iff.mp hc2))), rfl, rfl, hrep, hlen⟩⟩) rfl hP hS
      · obtain ⟨dy, rfl⟩ : ∃ dy, dz = dy + 1 := ⟨dz - 1, by omega⟩
        have hof := off_le bs
        have hso := shut_off bs
        refine lv_aload_n hx hb d_Mod_script3_17 rfl (lv_at hl 6 rfl) ?_
        refine n_get C fg_Mod_16 hP 0 rfl rfl d_Mod_script3_18 ?_
        refine lv_iload hx hb d_Mod_script3_21 (lv_at hl 0 rfl) ?_
        refine n_bald C hP 9 rfl (fr + p9) rfl (by omega) (by omega) d_Mod_script3_23 ?_
        refine lv_sipush (v := nI 255) hx hb d_Mod_script3_24 (by decide) ?_
        refine lv_iand hx hb d_Mod_script3_27 ?_
        obtain ⟨op, hop, hop2⟩ : ∃ op, byN (x.getD p9 0) = op ∧ op < 256 := ⟨_, rfl, (and255 _).2⟩
        refine tope (z := nI op) (by rw [hls p9 (by omega), (and255 _).1, hop]) ?_
        refine lv_istore (lv' := [(7, .int (nI op)), (6, .int (nI (fr + p9))), (5, .int (nI (offS bs))), (4, .int (nI bs.length)), (3, .int ht), (2, .int (nI x.length)), (1, .int (nI fr)), (0, .ref y0)]) hx hb d_Mod_script3_28 hl (by decide) rfl (fun ls hl => ?_)
        refine lv_iinc (k := 1) (v := nI (fr + p9 + 1)) (lv' := [(6, .int (nI (fr + p9 + 1))), (7, .int (nI op)), (5, .int (nI (offS bs))), (4, .int (nI bs.length)), (3, .int ht), (2, .int (nI x.length)), (1, .int (nI fr)), (0, .ref y0)]) hx hb d_Mod_script3_30 hl rfl (iincK (fr + p9) 1) (by decide) rfl (fun ls hl => ?_)
        refine lv_iload hx hb d_Mod_script3_33 (lv_at hl 1 rfl) ?_
        refine lv_bipush (v := nI 75) hx hb d_Mod_script3_35 (by decide) ?_
        refine j_gt C op 75 rfl rfl (by omega) (by omega) d_Mod_script3_37 rfl (fun hc3 => ?_) (fun hc3 => ?_)
        · refine lv_iload hx hb d_Mod_script3_85 (lv_at hl 1 rfl) ?_
          refine lv_bipush (v := nI 97) hx hb d_Mod_script3_87 (by decide) ?_
          refine j_eq C op 97 rfl rfl (by omega) (by omega) d_Mod_script3_89 rfl (fun hc4 => ?_) (fun hc4 => ?_)
          · obtain rfl : op = 97 := hc4
            refine lv_iconst (v := nI 0) hx hb d_Mod_script3_99 (by decide) ?_
            refine lv_istore (lv' := [(8, .int (nI 0)), (6, .int (nI (fr + p9 + 1))), (7, .int (nI 97)), (5, .int (nI (offS bs))), (4, .int (nI bs.length)), (3, .int ht), (2, .int (nI x.length)), (1, .int (nI fr)), (0, .ref y0)]) hx hb d_Mod_script3_100 hl (by decide) rfl (fun ls hl => ?_)
            refine lv_iload hx hb d_Mod_script3_102 (lv_at hl 3 rfl) ?_
            refine z_ne C (offS bs) rfl (by omega) d_Mod_script3_104 rfl (fun hc5 => ?_) (fun hc5 => ?_)
            · refine lv_aload_n hx hb d_Mod_script3_156 rfl (lv_at hl 8 rfl) ?_
              refine n_get C fg_Mod_47 hP 0 rfl rfl d_Mod_script3_157 ?_
              refine lv_iload hx hb d_Mod_script3_160 (lv_at hl 4 rfl) ?_
              refine lv_iload hx hb d_Mod_script3_162 (lv_at hl 0 rfl) ?_
              refine n_zast C hP hD hS 10 rfl bs.length rfl (rfl) (by omega) (by omega) d_Mod_script3_164 (fun H locs hP hD hS => ?_)
              have hP : va_P E.1 clz [(y0, .inr (7, [.ref ya, .int (nI nt), .ref yo, .int (nI no), .ref ym, .ref yl, .ref yg, .ref yw, .ref yh, .ref yc, .ref yd, .ref yb, .ref yk, .ref yz, .int (nI S.length), .int (b2 fl), .ref yr])), (yg, .inl (E.2.1, 32, .inl k5)), (yw, .inl (E.2.2.1, 64, .inl k6)), (yh, .inl (E.2.2.1, 8, .inl k7)), (yc, .inl (E.2.1, 32, .inl k8)), (yd, .inl (E.2.1, 32, .inl k9)), (yb, .inl (E.2.1, 512, .inl kb)), (yk, .inl (E.2.1, 1920, .inl f)), (yz, .inl (E.2.2.1, 24, .inl sz)), (ym, .inl (E.2.1, 160, .inl k3)), (yr, .inl (E.2.2.2.1, 100, .inl (upd kr bs.length (nI 0))))] H := hP
              have hD : va_D A [(y0, .inr (7, [.ref ya, .int (nI nt), .ref yo, .int (nI no), .ref ym, .ref yl, .ref yg, .ref yw, .ref yh, .ref yc, .ref yd, .ref yb, .ref yk, .ref yz, .int (nI S.length), .int (b2 fl), .ref yr])), (yg, .inl (E.2.1, 32, .inl k5)), (yw, .inl (E.2.2.1, 64, .inl k6)), (yh, .inl (E.2.2.1, 8, .inl k7)), (yc, .inl (E.2.1, 32, .inl k8)), (yd, .inl (E.2.1, 32, .inl k9)), (yb, .inl (E.2.1, 512, .inl kb)), (yk, .inl (E.2.1, 1920, .inl f)), (yz, .inl (E.2.2.1, 24, .inl sz)), (ym, .inl (E.2.1, 160, .inl k3)), (yr, .inl (E.2.2.2.1, 100, .inl (upd kr bs.length (nI 0))))] := hD
              refine lv_iinc (k := 4) (v := nI (bs.length + 1)) (lv' := [(4, .int (nI (bs.length + 1))), (8, .int (nI 0)), (6, .int (nI (fr + p9 + 1))), (7, .int (nI 97)), (5, .int (nI (offS bs))), (3, .int ht), (2, .int (nI x.length)), (1, .int (nI fr)), (0, .ref y0)]) hx hb d_Mod_script3_165 hl rfl (iincK bs.length 1) (by decide) rfl (fun ls hl => ?_)
              refine lv_iload hx hb d_Mod_script3_168 (lv_at hl 1 rfl) ?_
              refine z_ne C 0 rfl (by omega) d_Mod_script3_170 rfl (fun hc6 => absurd hc6 (by omega)) (fun hc6 => ?_)
              refine lv_iinc (k := 4) (v := nI (offS bs + 1)) (lv' := [(5, .int (nI (offS bs + 1))), (4, .int (nI (bs.length + 1))), (8, .int (nI 0)), (6, .int (nI (fr + p9 + 1))), (7, .int (nI 97)), (3, .int ht), (2, .int (nI x.length)), (1, .int (nI fr)), (0, .ref y0)]) hx hb d_Mod_script3_173 hl rfl (iincK (offS bs) 1) (by decide) rfl (fun ls hl => ?_)
              refine lv_goto hx hb d_Mod_script3_176 rfl ?_
              have hl : lv_has ls 9 [(5, .int (nI (offS bs + 1))), (4, .int (nI ((false :: bs).length))), (8, .int (nI 0)), (6, .int (nI (fr + p9 + 1))), (7, .int (nI 97)), (3, .int ht), (2, .int (nI x.length)), (1, .int (nI fr)), (0, .ref y0)] := hl
              have hl : lv_has ls 9 [(5, .int (nI (offS (false :: bs)))), (4, .int (nI ((false :: bs).length))), (8, .int (nI 0)), (6, .int (nI (fr + p9 + 1))), (7, .int (nI 97)), (3, .int ht), (2, .int (nI x.length)), (1, .int (nI fr)), (0, .ref y0)] := hl
              refine lv_goto hx hb d_Mod_script3_311 rfl ?_
              have hpe : fr + (p9 + 1) = fr + p9 + 1 := by omega
              have hl : lv_has ls 9 [(5, .int (nI (offS (false :: bs)))), (4, .int (nI ((false :: bs).length))), (8, .int (nI 0)), (6, .int (nI (fr + (p9 + 1)))), (7, .int (nI 97)), (3, .int ht), (2, .int (nI x.length)), (1, .int (nI fr)), (0, .ref y0)] := by rw [hpe]; exact hl
              exact ih9 dy (p9 + 1) (false :: bs) S f sz k6 k7 k8 k9 kb (upd kr bs.length (nI 0)) H locs ls (by omega) (by omega) (by omega) ((ex_br_s (by omega) hop (by omega) (by omega) (by show (if shutS bs = 0 then _ else _) = _; rw [if_neg (fun q => hc5 (hso.mp q))])).symm.trans hR) (hrep) (hB) (hlen) (by simp only [List.length_cons]; omega) (brep_push false hbr rfl) hP hD hS (lv_sub hl [3, 0, 1, 5, 6, 7, 8] rfl)
            · rcases S with _ | ⟨y, S⟩
              · have hP : va_P E.1 clz [(y0, .inr (7, [.ref ya, .int (nI nt), .ref yo, .int (nI no), .ref ym, .ref yl, .ref yg, .ref yw, .ref yh, .ref yc, .ref yd, .ref yb, .ref yk, .ref yz, .int (nI 0), .int (b2 fl), .ref yr])), (yg, .inl (E.2.1, 32, .inl k5)), (yw, .inl (E.2.2.1, 64, .inl k6)), (yh, .inl (E.2.2.1, 8, .inl k7)), (yc, .inl (E.2.1, 32, .inl k8)), (yd, .inl (E.2.1, 32, .inl k9)), (yb, .inl (E.2.1, 512, .inl kb)), (yk, .inl (E.2.1, 1920, .inl f)), (yz, .inl (E.2.2.1, 24, .inl sz)), (ym, .inl (E.2.1, 160, .inl k3)), (yr, .inl (E.2.2.2.1, 100, .inl kr))] H := hP
                have hD : va_D A [(y0, .inr (7, [.ref ya, .int (nI nt), .ref yo, .int (nI no), .ref ym, .ref yl, .ref yg, .ref yw, .ref yh, .ref yc, .ref yd, .ref yb, .ref yk, .ref yz, .int (nI 0), .int (b2 fl), .ref yr])), (yg, .inl (E.2.1, 32, .inl k5)), (yw, .inl (E.2.2.1, 64, .inl k6)), (yh, .inl (E.2.2.1, 8, .inl k7)), (yc, .inl (E.2.1, 32, .inl k8)), (yd, .inl (E.2.1, 32, .inl k9)), (yb, .inl (E.2.1, 512, .inl kb)), (yk, .inl (E.2.1, 1920, .inl f)), (yz, .inl (E.2.2.1, 24, .inl sz)), (ym, .inl (E.2.1, 160, .inl k3)), (yr, .inl (E.2.2.2.1, 100, .inl kr))] := hD
                refine lv_aload_n hx hb d_Mod_script3_107 rfl (lv_at hl 8 rfl) ?_
                refine n_get C fg_Mod_66 hP 0 rfl rfl d_Mod_script3_108 ?_
                refine z_ne C 0 rfl (by omega) d_Mod_script3_111 rfl (fun hc7 => absurd hc7 (by omega)) (fun hc7 => ?_)
                refine lv_iconst (v := nI 0) hx hb d_Mod_script3_114 (by decide) ?_
                exact kret (nI 0) [(y0, .inr (7, [.ref ya, .int (nI nt), .ref yo, .int (nI no), .ref ym, .ref yl, .ref yg, .ref yw, .ref yh, .ref yc, .ref yd, .ref yb, .ref yk, .ref yz, .int (nI 0), .int (b2 fl), .ref yr])), (yg, .inl (E.2.1, 32, .inl k5)), (yw, .inl (E.2.2.1, 64, .inl k6)), (yh, .inl (E.2.2.1, 8, .inl k7)), (yc, .inl (E.2.1, 32, .inl k8)), (yd, .inl (E.2.1, 32, .inl k9)), (yb, .inl (E.2.1, 512, .inl kb)), (yk, .inl (E.2.1, 1920, .inl f)), (yz, .inl (E.2.2.1, 24, .inl sz)), (ym, .inl (E.2.1, 160, .inl k3)), (yr, .inl (E.2.2.2.1, 100, .inl kr))] _ _ _ _ d_Mod_script3_115 (⟨_, _, _, _, _, _, _, _, _, rfl, hB, Or.inr ⟨hR.symm.trans (ex_br_n (by omega) hop (by omega) (by omega) (by show (if shutS bs = 0 then _ else _) = _; rw [if_pos (hso.mpr hc5)])), rfl⟩⟩) rfl hP hS
              · have hP : va_P E.1 clz [(y0, .inr (7, [.ref ya, .int (nI nt), .ref yo, .int (nI no), .ref ym, .ref yl, .ref yg, .ref yw, .ref yh, .ref yc, .ref yd, .ref yb, .ref yk, .ref yz, .int (nI (S.length + 1)), .int (b2 fl), .ref yr])), (yg, .inl (E.2.1, 32, .inl k5)), (yw, .inl (E.2.2.1, 64, .inl k6)), (yh, .inl (E.2.2.1, 8, .inl k7)), (yc, .inl (E.2.1, 32, .inl k8)), (yd, .inl (E.2.1, 32, .inl k9)), (yb, .inl (E.2.1, 512, .inl kb)), (yk, .inl (E.2.1, 1920, .inl f)), (yz, .inl (E.2.2.1, 24, .inl sz)), (ym, .inl (E.2.1, 160, .inl k3)), (yr, .inl (E.2.2.2.1, 100, .inl kr))] H := hP
                have hD : va_D A [(y0, .inr (7, [.ref ya, .int (nI nt), .ref yo, .int (nI no), .ref ym, .ref yl, .ref yg, .ref yw, .ref yh, .ref yc, .ref yd, .ref yb, .ref yk, .ref yz, .int (nI (S.length + 1)), .int (b2 fl), .ref yr])), (yg, .inl (E.2.1, 32, .inl k5)), (yw, .inl (E.2.2.1, 64, .inl k6)), (yh, .inl (E.2.2.1, 8, .inl k7)), (yc, .inl (E.2.1, 32, .inl k8)), (yd, .inl (E.2.1, 32, .inl k9)), (yb, .inl (E.2.1, 512, .inl kb)), (yk, .inl (E.2.1, 1920, .inl f)), (yz, .inl (E.2.2.1, 24, .inl sz)), (ym, .inl (E.2.1, 160, .inl k3)), (yr, .inl (E.2.2.2.1, 100, .inl kr))] := hD
                have hx1 : sz S.length = nI y.length ∧ y.length ≤ 80 ∧ lay f (S.length * 80) y := rep_top hrep
                have hlen : S.length + 1 ≤ 24 := hlen
                refine lv_aload_n hx hb d_Mod_script3_107 rfl (lv_at hl 8 rfl) ?_
                refine n_get C fg_Mod_66 hP 0 rfl rfl d_Mod_script3_108 ?_
                refine z_ne C (S.length + 1) rfl (by omega) d_Mod_script3_111 rfl (fun hc8 => ?_) (fun hc8 => absurd hc8 (by omega))
                refine lv_aload_n hx hb d_Mod_script3_116 rfl (lv_at hl 8 rfl) ?_
                refine lv_dup hx hb d_Mod_script3_117 rfl ?_
                refine n_get C fg_Mod_66 hP 0 rfl rfl d_Mod_script3_118 ?_
                refine lv_iconst (v := nI 1) hx hb d_Mod_script3_121 (by decide) ?_
                refine lv_isub hx hb d_Mod_script3_122 ?_
                refine tope (z := nI S.length) ((pk_sub (by omega)).trans (congrArg nI (by omega))) ?_
                refine n_put (v := .int (nI S.length)) C fp_Mod_66 hP hD hS 0 rfl (rfl) rfl (Nat.le_of_ble_eq_true rfl) d_Mod_script3_123 (fun H locs hP hD hS => ?_)
                have hP : va_P E.1 clz [(y0, .inr (7, [.ref ya, .int (nI nt), .ref yo, .int (nI no), .ref ym, .ref yl, .ref yg, .ref yw, .ref yh, .ref yc, .ref yd, .ref yb, .ref yk, .ref yz, .int (nI S.length), .int (b2 fl), .ref yr])), (yg, .inl (E.2.1, 32, .inl k5)), (yw, .inl (E.2.2.1, 64, .inl k6)), (yh, .inl (E.2.2.1, 8, .inl k7)), (yc, .inl (E.2.1, 32, .inl k8)), (yd, .inl (E.2.1, 32, .inl k9)), (yb, .inl (E.2.1, 512, .inl kb)), (yk, .inl (E.2.1, 1920, .inl f)), (yz, .inl (E.2.2.1, 24, .inl sz)), (ym, .inl (E.2.1, 160, .inl k3)), (yr, .inl (E.2.2.2.1, 100, .inl kr))] H := hP
                have hD : va_D A [(y0, .inr (7, [.ref ya, .int (nI nt), .ref yo, .int (nI no), .ref ym, .ref yl, .ref yg, .ref yw, .ref yh, .ref yc, .ref yd, .ref yb, .ref yk, .ref yz, .int (nI S.length), .int (b2 fl), .ref yr])), (yg, .inl (E.2.1, 32, .inl k5)), (yw, .inl (E.2.2.1, 64, .inl k6)), (yh, .inl (E.2.2.1, 8, .inl k7)), (yc, .inl (E.2.1, 32, .inl k8)), (yd, .inl (E.2.1, 32, .inl k9)), (yb, .inl (E.2.1, 512, .inl kb)), (yk, .inl (E.2.1, 1920, .inl f)), (yz, .inl (E.2.2.1, 24, .inl sz)), (ym, .inl (E.2.1, 160, .inl k3)), (yr, .inl (E.2.2.2.1, 100, .inl kr))] := hD
                refine lv_aload_n hx hb d_Mod_script3_126 rfl (lv_at hl 8 rfl) ?_
                refine lv_aload_n hx hb d_Mod_script3_127 rfl (lv_at hl 8 rfl) ?_
                refine n_get C fg_Mod_66 hP 0 rfl rfl d_Mod_script3_128 ?_
                refine cal_I (As := [.int (nI S.length)]) (rest := []) C lk_Mod_93 (c_Mod_isTrue l E y0 ya yo ym yl yg yw yh yc yd yb yk yz yr nt no S.length fl f sz S.length y (by omega) hx1.1 hx1.2.1 hx1.2.2) (by decide) hP hD hS 0 7 rfl rfl [0, 7, 8] rfl (by decide) hl.1 rfl (Nat.le_of_ble_eq_true rfl) d_Mod_script3_131 (fun r9 w1 H locs hp10 hP hD hS => ?_)
                obtain ⟨rfl, rfl⟩ := hp10
                have hP : va_P E.1 clz [(y0, .inr (7, [.ref ya, .int (nI nt), .ref yo, .int (nI no), .ref ym, .ref yl, .ref yg, .ref yw, .ref yh, .ref yc, .ref yd, .ref yb, .ref yk, .ref yz, .int (nI S.length), .int (b2 fl), .ref yr])), (yg, .inl (E.2.1, 32, .inl k5)), (yw, .inl (E.2.2.1, 64, .inl k6)), (yh, .inl (E.2.2.1, 8, .inl k7)), (yc, .inl (E.2.1, 32, .inl k8)), (yd, .inl (E.2.1, 32, .inl k9)), (yb, .inl (E.2.1, 512, .inl kb)), (yk, .inl (E.2.1, 1920, .inl f)), (yz, .inl (E.2.2.1, 24, .inl sz)), (ym, .inl (E.2.1, 160, .inl k3)), (yr, .inl (E.2.2.2.1, 100, .inl kr))] H := hP
                have hD : va_D A [(y0, .inr (7, [.ref ya, .int (nI nt), .ref yo, .int (nI no), .ref ym, .ref yl, .ref yg, .ref yw, .ref yh, .ref yc, .ref yd, .ref yb, .ref yk, .ref yz, .int (nI S.length), .int (b2 fl), .ref yr])), (yg, .inl (E.2.1, 32, .inl k5)), (yw, .inl (E.2.2.1, 64, .inl k6)), (yh, .inl (E.2.2.1, 8, .inl k7)), (yc, .inl (E.2.1, 32, .inl k8)), (yd, .inl (E.2.1, 32, .inl k9)), (yb, .inl (E.2.1, 512, .inl kb)), (yk, .inl (E.2.1, 1920, .inl f)), (yz, .inl (E.2.2.1, 24, .inl sz)), (ym, .inl (E.2.1, 160, .inl k3)), (yr, .inl (E.2.2.2.1, 100, .inl kr))] := hD
                refine lv_iload hx hb d_Mod_script3_134 (lv_at hl 2 rfl) ?_
                refine lv_bipush (v := nI 97) hx hb d_Mod_script3_136 (by decide) ?_
                refine j_ne C 97 97 rfl rfl (by decide) (by decide) d_Mod_script3_138 rfl (fun hc11 => absurd hc11 (by decide)) (fun hc11 => ?_)
                refine lv_iconst (v := nI 1) hx hb d_Mod_script3_141 (by decide) ?_
                refine lv_goto hx hb d_Mod_script3_142 rfl ?_
                rcases Bool.eq_false_or_eq_true (isT y) with hT | hT
                · rw [hT]
                  refine j_ne C 1 1 rfl rfl (by decide) (by decide) d_Mod_script3_146 rfl (fun hc12 => absurd hc12 (by decide)) (fun hc12 => ?_)
                  refine lv_iconst (v := nI 1) hx hb d_Mod_script3_149 (by decide) ?_
                  refine lv_goto hx hb d_Mod_script3_150 rfl ?_
                  refine lv_istore (lv' := [(8, .int (nI 1)), (6, .int (nI (fr + p9 + 1))), (7, .int (nI 97)), (5, .int (nI (offS bs))), (4, .int (nI bs.length)), (3, .int ht), (2, .int (nI x.length)), (1, .int (nI fr)), (0, .ref y0)]) hx hb d_Mod_script3_154 hl (by decide) rfl (fun ls hl => ?_)
                  refine lv_aload_n hx hb d_Mod_script3_156 rfl (lv_at hl 8 rfl) ?_
                  refine n_get C fg_Mod_47 hP 0 rfl rfl d_Mod_script3_157 ?_
                  refine lv_iload hx hb d_Mod_script3_160 (lv_at hl 4 rfl) ?_
                  refine lv_iload hx hb d_Mod_script3_162 (lv_at hl 0 rfl) ?_
                  refine n_zast C hP hD hS 10 rfl bs.length rfl (rfl) (by omega) (by omega) d_Mod_script3_164 (fun H locs hP hD hS => ?_)
                  have hP : va_P E.1 clz [(y0, .inr (7, [.ref ya, .int (nI nt), .ref yo, .int (nI no), .ref ym, .ref yl, .ref yg, .ref yw, .ref yh, .ref yc, .ref yd, .ref yb, .ref yk, .ref yz, .int (nI S.length), .int (b2 fl), .ref yr])), (yg, .inl (E.2.1, 32, .inl k5)), (yw, .inl (E.2.2.1, 64, .inl k6)), (yh, .inl (E.2.2.1, 8, .inl k7)), (yc, .inl (E.2.1, 32, .inl k8)), (yd, .inl (E.2.1, 32, .inl k9)), (yb, .inl (E.2.1, 512, .inl kb)), (yk, .inl (E.2.1, 1920, .inl f)), (yz, .inl (E.2.2.1, 24, .inl sz)), (ym, .inl (E.2.1, 160, .inl k3)), (yr, .inl (E.2.2.2.1, 100, .inl (upd kr bs.length (nI 1))))] H := hP
                  have hD : va_D A [(y0, .inr (7, [.ref ya, .int (nI nt), .ref yo, .int (nI no), .ref ym, .ref yl, .ref yg, .ref yw, .ref yh, .ref yc, .ref yd, .ref yb, .ref yk, .ref yz, .int (nI S.length), .int (b2 fl), .ref yr])), (yg, .inl (E.2.1, 32, .inl k5)), (yw, .inl (E.2.2.1, 64, .inl k6)), (yh, .inl (E.2.2.1, 8, .inl k7)), (yc, .inl (E.2.1, 32, .inl k8)), (yd, .inl (E.2.1, 32, .inl k9)), (yb, .inl (E.2.1, 512, .inl kb)), (yk, .inl (E.2.1, 1920, .inl f)), (yz, .inl (E.2.2.1, 24, .inl sz)), (ym, .inl (E.2.1, 160, .inl k3)), (yr, .inl (E.2.2.2.1, 100, .inl (upd kr bs.length (nI 1))))] := hD
                  refine lv_iinc (k := 4) (v := nI (bs.length + 1)) (lv' := [(4, .int (nI (bs.length + 1))), (8, .int (nI 1)), (6, .int (nI (fr + p9 + 1))), (7, .int (nI 97)), (5, .int (nI (offS bs))), (3, .int ht), (2, .int (nI x.length)), (1, .int (nI fr)), (0, .ref y0)]) hx hb d_Mod_script3_165 hl rfl (iincK bs.length 1) (by decide) rfl (fun ls hl => ?_)
                  refine lv_iload hx hb d_Mod_script3_168 (lv_at hl 1 rfl) ?_
                  refine z_ne C 1 rfl (by omega) d_Mod_script3_170 rfl (fun hc13 => ?_) (fun hc13 => absurd hc13 (by omega))
                  refine lv_goto hx hb d_Mod_script3_176 rfl ?_
                  have hl : lv_has ls 9 [(4, .int (nI ((true :: bs).length))), (8, .int (nI 1)), (6, .int (nI (fr + p9 + 1))), (7, .int (nI 97)), (5, .int (nI (offS bs))), (3, .int ht), (2, .int (nI x.length)), (1, .int (nI fr)), (0, .ref y0)] := hl
                  have hl : lv_has ls 9 [(4, .int (nI ((true :: bs).length))), (8, .int (nI 1)), (6, .int (nI (fr + p9 + 1))), (7, .int (nI 97)), (5, .int (nI (offS (true :: bs)))), (3, .int ht), (2, .int (nI x.length)), (1, .int (nI fr)), (0, .ref y0)] := hl
                  refine lv_goto hx hb d_Mod_script3_311 rfl ?_
                  have hpe : fr + (p9 + 1) = fr + p9 + 1 := by omega
                  have hl : lv_has ls 9 [(4, .int (nI ((true :: bs).length))), (8, .int (nI 1)), (6, .int (nI (fr + (p9 + 1)))), (7, .int (nI 97)), (5, .int (nI (offS (true :: bs)))), (3, .int ht), (2, .int (nI x.length)), (1, .int (nI fr)), (0, .ref y0)] := by rw [hpe]; exact hl
                  exact ih9 dy (p9 + 1) (true :: bs) S f sz k6 k7 k8 k9 kb (upd kr bs.length (nI 1)) H locs ls (by omega) (by omega) (by omega) ((ex_br_s (by omega) hop (by omega) (by omega) (by show (if shutS bs = 0 then some ((isT y != decide (97 = 98)) :: bs, S) else _) = _; rw [if_pos (hso.mpr hc5), hT]; rfl)).symm.trans hR) (rep_tail hrep) (hB) (by omega) (by simp only [List.length_cons]; omega) (brep_push true hbr rfl) hP hD hS (lv_sub hl [2, 4, 0, 5, 6, 7, 8] rfl)
                · rw [hT]
                  refine j_ne C 0 1 rfl rfl (by decide) (by decide) d_Mod_script3_146 rfl (fun hc14 => ?_) (fun hc14 => absurd hc14 (by decide))
                  refine lv_iconst (v := nI 0) hx hb d_Mod_script3_153 (by decide) ?_
                  refine lv_istore (lv' := [(8, .int (nI 0)), (6, .int (nI (fr + p9 + 1))), (7, .int (nI 97)), (5, .int (nI (offS bs))), (4, .int (nI bs.length)), (3, .int ht), (2, .int (nI x.length)), (1, .int (nI fr)), (0, .ref y0)]) hx hb d_Mod_script3_154 hl (by decide) rfl (fun ls hl => ?_)
                  refine lv_aload_n hx hb d_Mod_script3_156 rfl (lv_at hl 8 rfl) ?_
                  refine n_get C fg_Mod_47 hP 0 rfl rfl d_Mod_script3_157 ?_
                  refine lv_iload hx hb d_Mod_script3_160 (lv_at hl 4 rfl) ?_
                  refine lv_iload hx hb d_Mod_script3_162 (lv_at hl 0 rfl) ?_
                  refine n_zast C hP hD hS 10 rfl bs.length rfl (rfl) (by omega) (by omega) d_Mod_script3_164 (fun H locs hP hD hS => ?_)
                  have hP : va_P E.1 clz [(y0, .inr (7, [.ref ya, .int (nI nt), .ref yo, .int (nI no), .ref ym, .ref yl, .ref yg, .ref yw, .ref yh, .ref yc, .ref yd, .ref yb, .ref yk, .ref yz, .int (nI S.length), .int (b2 fl), .ref yr])), (yg, .inl (E.2.1, 32, .inl k5)), (yw, .inl (E.2.2.1, 64, .inl k6)), (yh, .inl (E.2.2.1, 8, .inl k7)), (yc, .inl (E.2.1, 32, .inl k8)), (yd, .inl (E.2.1, 32, .inl k9)), (yb, .inl (E.2.1, 512, .inl kb)), (yk, .inl (E.2.1, 1920, .inl f)), (yz, .inl (E.2.2.1, 24, .inl sz)), (ym, .inl (E.2.1, 160, .inl k3)), (yr, .inl (E.2.2.2.1, 100, .inl (upd kr bs.length (nI 0))))] H := hP
                  have hD : va_D A [(y0, .inr (7, [.ref ya, .int (nI nt), .ref yo, .int (nI no), .ref ym, .ref yl, .ref yg, .ref yw, .ref yh, .ref yc, .ref yd, .ref yb, .ref yk, .ref yz, .int (nI S.length), .int (b2 fl), .ref yr])), (yg, .inl (E.2.1, 32, .inl k5)), (yw, .inl (E.2.2.1, 64, .inl k6)), (yh, .inl (E.2.2.1, 8, .inl k7)), (yc, .inl (E.2.1, 32, .inl k8)), (yd, .inl (E.2.1, 32, .inl k9)), (yb, .inl (E.2.1, 512, .inl kb)), (yk, .inl (E.2.1, 1920, .inl f)), (yz, .inl (E.2.2.1, 24, .inl sz)), (ym, .inl (E.2.1, 160, .inl k3)), (yr, .inl (E.2.2.2.1, 100, .inl (upd kr bs.length (nI 0))))] := hD
                  refine lv_iinc (k := 4) (v := nI (bs.length + 1)) (lv' := [(4, .int (nI (bs.length + 1))), (8, .int (nI 0)), (6, .int (nI (fr + p9 + 1))), (7, .int (nI 97)), (5, .int (nI (offS bs))), (3, .int ht), (2, .int (nI x.length)), (1, .int (nI fr)), (0, .ref y0)]) hx hb d_Mod_script3_165 hl rfl (iincK bs.length 1) (by decide) rfl (fun ls hl => ?_)
                  refine lv_iload hx hb d_Mod_script3_168 (lv_at hl 1 rfl) ?_
                  refine z_ne C 0 rfl (by omega) d_Mod_script3_170 rfl (fun hc15 => absurd hc15 (by omega)) (fun hc15 => ?_)
                  refine lv_iinc (k := 4) (v := nI (offS bs + 1)) (lv' := [(5, .int (nI (offS bs + 1))), (4, .int (nI (bs.length + 1))), (8, .int (nI 0)), (6, .int (nI (fr + p9 + 1))), (7, .int (nI 97)), (3, .int ht), (2, .int (nI x.length)), (1, .int (nI fr)), (0, .ref y0)]) hx hb d_Mod_script3_173 hl rfl (iincK (offS bs) 1) (by decide) rfl (fun ls hl => ?_)
                  refine lv_goto hx hb d_Mod_script3_176 rfl ?_
                  have hl : lv_has ls 9 [(5, .int (nI (offS bs + 1))), (4, .int (nI ((false :: bs).length))), (8, .int (nI 0)), (6, .int (nI (fr + p9 + 1))), (7, .int (nI 97)), (3, .int ht), (2, .int (nI x.length)), (1, .int (nI fr)), (0, .ref y0)] := hl
                  have hl : lv_has ls 9 [(5, .int (nI (offS (false :: bs)))), (4, .int (nI ((false :: bs).length))), (8, .int (nI 0)), (6, .int (nI (fr + p9 + 1))), (7, .int (nI 97)), (3, .int ht), (2, .int (nI x.length)), (1, .int (nI fr)), (0, .ref y0)] := hl
                  refine lv_goto hx hb d_Mod_script3_311 rfl ?_
                  have hpe : fr + (p9 + 1) = fr + p9 + 1 := by omega
                  have hl : lv_has ls 9 [(5, .int (nI (offS (false :: bs)))), (4, .int (nI ((false :: bs).length))), (8, .int (nI 0)), (6, .int (nI (fr + (p9 + 1)))), (7, .int (nI 97)), (3, .int ht), (2, .int (nI x.length)), (1, .int (nI fr)), (0, .ref y0)] := by rw [hpe]; exact hl
                  exact ih9 dy (p9 + 1) (false :: bs) S f sz k6 k7 k8 k9 kb (upd kr bs.length (nI 0)) H locs ls (by omega) (by omega) (by omega) ((ex_br_s (by omega) hop (by omega) (by omega) (by show (if shutS bs = 0 then some ((isT y != decide (97 = 98)) :: bs, S) else _) = _; rw [if_pos (hso.mpr hc5), hT]; rfl)).symm.trans hR) (rep_tail hrep) (hB) (by omega) (by simp only [List.length_cons]; omega) (brep_push false hbr rfl) hP hD hS (lv_sub hl [3, 0, 1, 5, 6, 7, 8] rfl)
          · refine lv_iload hx hb d_Mod_script3_92 (lv_at hl 1 rfl) ?_
            refine lv_bipush (v := nI 98) hx hb d_Mod_script3_94 (by decide) ?_
            refine j_ne C op 98 rfl rfl (by omega) (by omega) d_Mod_script3_96 rfl (fun hc16 => ?_) (fun hc16 => ?_)
            · refine lv_iload hx hb d_Mod_script3_179 (lv_at hl 1 rfl) ?_
              refine lv_bipush (v := nI 99) hx hb d_Mod_script3_181 (by decide) ?_
              refine j_ne C op 99 rfl rfl (by omega) (by omega) d_Mod_script3_183 rfl (fun hc17 => ?_) (fun hc17 => ?_)
              · refine lv_iload hx hb d_Mod_script3_244 (lv_at hl 1 rfl) ?_
                refine lv_bipush (v := nI 100) hx hb d_Mod_script3_246 (by decide) ?_
                refine j_ne C op 100 rfl rfl (by omega) (by omega) d_Mod_script3_248 rfl (fun hc18 => ?_) (fun hc18 => ?_)
                · refine lv_iload hx hb d_Mod_script3_277 (lv_at hl 2 rfl) ?_
                  refine z_ne C (offS bs) rfl (by omega) d_Mod_script3_279 rfl (fun hc19 => ?_) (fun hc19 => ?_)
                  · refine lv_goto hx hb d_Mod_script3_311 rfl ?_
                    have hpe : fr + (p9 + 1) = fr + p9 + 1 := by omega
                    have hl : lv_has ls 9 [(6, .int (nI (fr + (p9 + 1)))), (7, .int (nI op)), (5, .int (nI (offS bs))), (4, .int (nI bs.length)), (3, .int ht), (2, .int (nI x.length)), (1, .int (nI fr)), (0, .ref y0)] := by rw [hpe]; exact hl
                    exact ih9 dy (p9 + 1) bs S f sz k6 k7 k8 k9 kb kr H locs ls (by omega) (by omega) (by omega) ((ex_pass (by omega) hop (by omega) (by omega) (fun q => hc19 (hso.mp q))).symm.trans hR) (hrep) (hB) (hlen) (by omega) (hbr) hP hD hS (lv_sub hl [0, 2, 3, 4, 5, 6, 7] rfl)
                  · refine lv_iload hx hb d_Mod_script3_282 (lv_at hl 1 rfl) ?_
                    refine lv_bipush (v := nI 103) hx hb d_Mod_script3_284 (by decide) ?_
                    refine j_ne C op 103 rfl rfl (by omega) (by omega) d_Mod_script3_286 rfl (fun hc20 => ?_) (fun hc20 => ?_)
                    · refine lv_aload_n hx hb d_Mod_script3_299 rfl (lv_at hl 7 rfl) ?_
                      refine lv_iload hx hb d_Mod_script3_300 (lv_at hl 1 rfl) ?_
                      refine lv_iload_n hx hb d_Mod_script3_302 rfl (lv_at hl 4 rfl) ?_
                      refine cal_I (As := [.int (nI op), .int ht]) (rest := []) C lk_Mod_100 (c_Mod_act l E y0 ya yo ym yl yg yw yh yc yd yb yk yz yr nt no fl k5 k6 k7 k8 k9 kb f sz S msg hrep hB hB5 hlen hm hm32 ht op hop2 hc20) (by decide) hP hD hS 0 7 rfl rfl [0, 1, 2, 3, 4, 5, 6, 7, 8] rfl (by decide) hl.1 rfl (Nat.le_of_ble_eq_true rfl) d_Mod_script3_303 (fun r32 w1 H locs hp33 hP hD hS => ?_)
                      obtain ⟨nq21, fq22, zq23, w_24, h_25, o_26, g_27, u_28, rfl, hB30, hO29⟩ := hp33
                      have hP : va_P E.1 clz [(y0, .inr (7, [.ref ya, .int (nI nt), .ref yo, .int (nI no), .ref ym, .ref yl, .ref yg, .ref yw, .ref yh, .ref yc, .ref yd, .ref yb, .ref yk, .ref yz, .int (nI nq21), .int (b2 fl), .ref yr])), (yg, .inl (E.2.1, 32, .inl k5)), (yw, .inl (E.2.2.1, 64, .inl w_24)), (yh, .inl (E.2.2.1, 8, .inl h_25)), (yc, .inl (E.2.1, 32, .inl o_26)), (yd, .inl (E.2.1, 32, .inl g_27)), (yb, .inl (E.2.1, 512, .inl u_28)), (yk, .inl (E.2.1, 1920, .inl fq22)), (yz, .inl (E.2.2.1, 24, .inl zq23)), (ym, .inl (E.2.1, 160, .inl k3)), (yr, .inl (E.2.2.2.1, 100, .inl kr))] H := hP
                      have hD : va_D A [(y0, .inr (7, [.ref ya, .int (nI nt), .ref yo, .int (nI no), .ref ym, .ref yl, .ref yg, .ref yw, .ref yh, .ref yc, .ref yd, .ref yb, .ref yk, .ref yz, .int (nI nq21), .int (b2 fl), .ref yr])), (yg, .inl (E.2.1, 32, .inl k5)), (yw, .inl (E.2.2.1, 64, .inl w_24)), (yh, .inl (E.2.2.1, 8, .inl h_25)), (yc, .inl (E.2.1, 32, .inl o_26)), (yd, .inl (E.2.1, 32, .inl g_27)), (yb, .inl (E.2.1, 512, .inl u_28)), (yk, .inl (E.2.1, 1920, .inl fq22)), (yz, .inl (E.2.2.1, 24, .inl zq23)), (ym, .inl (E.2.1, 160, .inl k3)), (yr, .inl (E.2.2.2.1, 100, .inl kr))] := hD
                      rcases hO29 with ⟨St31, hac9, rfl, rfl, hrep9, hlen9⟩ | ⟨hac9, rfl⟩
                      · have hP : va_P E.1 clz [(y0, .inr (7, [.ref ya, .int (nI nt), .ref yo, .int (nI no), .ref ym, .ref yl, .ref yg, .ref yw, .ref yh, .ref yc, .ref yd, .ref yb, .ref yk, .ref yz, .int (nI St31.length), .int (b2 fl), .ref yr])), (yg, .inl (E.2.1, 32, .inl k5)), (yw, .inl (E.2.2.1, 64, .inl w_24)), (yh, .inl (E.2.2.1, 8, .inl h_25)), (yc, .inl (E.2.1, 32, .inl o_26)), (yd, .inl (E.2.1, 32, .inl g_27)), (yb, .inl (E.2.1, 512, .inl u_28)), (yk, .inl (E.2.1, 1920, .inl fq22)), (yz, .inl (E.2.2.1, 24, .inl zq23)), (ym, .inl (E.2.1, 160, .inl k3)), (yr, .inl (E.2.2.2.1, 100, .inl kr))] H := hP
                        have hD : va_D A [(y0, .inr (7, [.ref ya, .int (nI nt), .ref yo, .int (nI no), .ref ym, .ref yl, .ref yg, .ref yw, .ref yh, .ref yc, .ref yd, .ref yb, .ref yk, .ref yz, .int (nI St31.length), .int (b2 fl), .ref yr])), (yg, .inl (E.2.1, 32, .inl k5)), (yw, .inl (E.2.2.1, 64, .inl w_24)), (yh, .inl (E.2.2.1, 8, .inl h_25)), (yc, .inl (E.2.1, 32, .inl o_26)), (yd, .inl (E.2.1, 32, .inl g_27)), (yb, .inl (E.2.1, 512, .inl u_28)), (yk, .inl (E.2.1, 1920, .inl fq22)), (yz, .inl (E.2.2.1, 24, .inl zq23)), (ym, .inl (E.2.1, 160, .inl k3)), (yr, .inl (E.2.2.2.1, 100, .inl kr))] := hD
                        refine zb_ne C true rfl d_Mod_script3_306 rfl (fun hc34 => ?_) (fun hc34 => absurd hc34 (by simp_all))
                        refine lv_goto hx hb d_Mod_script3_311 rfl ?_
                        have hpe : fr + (p9 + 1) = fr + p9 + 1 := by omega
                        have hl : lv_has ls 9 [(6, .int (nI (fr + (p9 + 1)))), (7, .int (nI op)), (5, .int (nI (offS bs))), (4, .int (nI bs.length)), (3, .int ht), (2, .int (nI x.length)), (1, .int (nI fr)), (0, .ref y0)] := by rw [hpe]; exact hl
                        exact ih9 dy (p9 + 1) bs St31 fq22 zq23 w_24 h_25 o_26 g_27 u_28 kr H locs ls (by omega) (by omega) (by omega) ((ex_act_s (by omega) hop (by omega) (by omega) (hso.mpr hc19) hac9).symm.trans hR) (hrep9) (hB30) (hlen9) (by omega) (hbr) hP hD hS (lv_sub hl [0, 2, 3, 4, 5, 6, 7] rfl)
                      · refine zb_ne C false rfl d_Mod_script3_306 rfl (fun hc35 => absurd hc35 (by simp_all)) (fun hc35 => ?_)
                        refine lv_iconst (v := nI 0) hx hb d_Mod_script3_309 (by decide) ?_
                        exact kret (nI 0) [(y0, .inr (7, [.ref ya, .int (nI nt), .ref yo, .int (nI no), .ref ym, .ref yl, .ref yg, .ref yw, .ref yh, .ref yc, .ref yd, .ref yb, .ref yk, .ref yz, .int (nI nq21), .int (b2 fl), .ref yr])), (yg, .inl (E.2.1, 32, .inl k5)), (yw, .inl (E.2.2.1, 64, .inl w_24)), (yh, .inl (E.2.2.1, 8, .inl h_25)), (yc, .inl (E.2.1, 32, .inl o_26)), (yd, .inl (E.2.1, 32, .inl g_27)), (yb, .inl (E.2.1, 512, .inl u_28)), (yk, .inl (E.2.1, 1920, .inl fq22)), (yz, .inl (E.2.2.1, 24, .inl zq23)), (ym, .inl (E.2.1, 160, .inl k3)), (yr, .inl (E.2.2.2.1, 100, .inl kr))] _ _ _ _ d_Mod_script3_310 (⟨_, _, _, _, _, _, _, _, _, rfl, hB30, Or.inr ⟨hR.symm.trans (ex_act_n (by omega) hop (by omega) (by omega) (hso.mpr hc19) hac9), rfl⟩⟩) rfl hP hS
                    · obtain rfl : op = 103 := by omega
                      refine lv_aload_n hx hb d_Mod_script3_289 rfl (lv_at hl 7 rfl) ?_
                      refine cal_I (As := []) (rest := []) C lk_Mod_96 (c_Mod_many l E y0 ya yo ym yl yg yw yh yc yd yb yk yz yr nt no fl k5 k6 k7 k8 k9 kb f sz S msg hrep hB hB5 hlen hm hm32 ht) (by decide) hP hD hS 0 7 rfl rfl [0, 1, 2, 3, 4, 5, 6, 7, 8] rfl (by decide) hl.1 rfl (Nat.le_of_ble_eq_true rfl) d_Mod_script3_290 (fun r47 w1 H locs hp48 hP hD hS => ?_)
                      obtain ⟨nq36, fq37, zq38, w_39, h_40, o_41, g_42, u_43, rfl, hB45, hO44⟩ := hp48
                      have hP : va_P E.1 clz [(y0, .inr (7, [.ref ya, .int (nI nt), .ref yo, .int (nI no), .ref ym, .ref yl, .ref yg, .ref yw, .ref yh, .ref yc, .ref yd, .ref yb, .ref yk, .ref yz, .int (nI nq36), .int (b2 fl), .ref yr])), (yg, .inl (E.2.1, 32, .inl k5)), (yw, .inl (E.2.2.1, 64, .inl w_39)), (yh, .inl (E.2.2.1, 8, .inl h_40)), (yc, .inl (E.2.1, 32, .inl o_41)), (yd, .inl (E.2.1, 32, .inl g_42)), (yb, .inl (E.2.1, 512, .inl u_43)), (yk, .inl (E.2.1, 1920, .inl fq37)), (yz, .inl (E.2.2.1, 24, .inl zq38)), (ym, .inl (E.2.1, 160, .inl k3)), (yr, .inl (E.2.2.2.1, 100, .inl kr))] H := hP
                      have hD : va_D A [(y0, .inr (7, [.ref ya, .int (nI nt), .ref yo, .int (nI no), .ref ym, .ref yl, .ref yg, .ref yw, .ref yh, .ref yc, .ref yd, .ref yb, .ref yk, .ref yz, .int (nI nq36), .int (b2 fl), .ref yr])), (yg, .inl (E.2.1, 32, .inl k5)), (yw, .inl (E.2.2.1, 64, .inl w_39)), (yh, .inl (E.2.2.1, 8, .inl h_40)), (yc, .inl (E.2.1, 32, .inl o_41)), (yd, .inl (E.2.1, 32, .inl g_42)), (yb, .inl (E.2.1, 512, .inl u_43)), (yk, .inl (E.2.1, 1920, .inl fq37)), (yz, .inl (E.2.2.1, 24, .inl zq38)), (ym, .inl (E.2.1, 160, .inl k3)), (yr, .inl (E.2.2.2.1, 100, .inl kr))] := hD
                      rcases hO44 with ⟨St46, hac9, rfl, rfl, hrep9, hlen9⟩ | ⟨hac9, rfl⟩
                      · have hP : va_P E.1 clz [(y0, .inr (7, [.ref ya, .int (nI nt), .ref yo, .int (nI no), .ref ym, .ref yl, .ref yg, .ref yw, .ref yh, .ref yc, .ref yd, .ref yb, .ref yk, .ref yz, .int (nI St46.length), .int (b2 fl), .ref yr])), (yg, .inl (E.2.1, 32, .inl k5)), (yw, .inl (E.2.2.1, 64, .inl w_39)), (yh, .inl (E.2.2.1, 8, .inl h_40)), (yc, .inl (E.2.1, 32, .inl o_41)), (yd, .inl (E.2.1, 32, .inl g_42)), (yb, .inl (E.2.1, 512, .inl u_43)), (yk, .inl (E.2.1, 1920, .inl fq37)), (yz, .inl (E.2.2.1, 24, .inl zq38)), (ym, .inl (E.2.1, 160, .inl k3)), (yr, .inl (E.2.2.2.1, 100, .inl kr))] H := hP
                        have hD : va_D A [(y0, .inr (7, [.ref ya, .int (nI nt), .ref yo, .int (nI no), .ref ym, .ref yl, .ref yg, .ref yw, .ref yh, .ref yc, .ref yd, .ref yb, .ref yk, .ref yz, .int (nI St46.length), .int (b2 fl), .ref yr])), (yg, .inl (E.2.1, 32, .inl k5)), (yw, .inl (E.2.2.1, 64, .inl w_39)), (yh, .inl (E.2.2.1, 8, .inl h_40)), (yc, .inl (E.2.1, 32, .inl o_41)), (yd, .inl (E.2.1, 32, .inl g_42)), (yb, .inl (E.2.1, 512, .inl u_43)), (yk, .inl (E.2.1, 1920, .inl fq37)), (yz, .inl (E.2.2.1, 24, .inl zq38)), (ym, .inl (E.2.1, 160, .inl k3)), (yr, .inl (E.2.2.2.1, 100, .inl kr))] := hD
                        refine zb_eq C true rfl d_Mod_script3_293 rfl (fun hc49 => absurd hc49 (by simp_all)) (fun hc49 => ?_)
                        refine lv_goto hx hb d_Mod_script3_296 rfl ?_
                        refine lv_goto hx hb d_Mod_script3_311 rfl ?_
                        have hpe : fr + (p9 + 1) = fr + p9 + 1 := by omega
                        have hl : lv_has ls 9 [(6, .int (nI (fr + (p9 + 1)))), (7, .int (nI 103)), (5, .int (nI (offS bs))), (4, .int (nI bs.length)), (3, .int ht), (2, .int (nI x.length)), (1, .int (nI fr)), (0, .ref y0)] := by rw [hpe]; exact hl
                        exact ih9 dy (p9 + 1) bs St46 fq37 zq38 w_39 h_40 o_41 g_42 u_43 kr H locs ls (by omega) (by omega) (by omega) ((ex_act_s (by omega) hop (by omega) (by omega) (hso.mpr hc19) hac9).symm.trans hR) (hrep9) (hB45) (hlen9) (by omega) (hbr) hP hD hS (lv_sub hl [0, 2, 3, 4, 5, 6, 7] rfl)
                      · refine zb_eq C false rfl d_Mod_script3_293 rfl (fun hc50 => ?_) (fun hc50 => absurd hc50 (by simp_all))
                        refine lv_iconst (v := nI 0) hx hb d_Mod_script3_309 (by decide) ?_
                        exact kret (nI 0) [(y0, .inr (7, [.ref ya, .int (nI nt), .ref yo, .int (nI no), .ref ym, .ref yl, .ref yg, .ref yw, .ref yh, .ref yc, .ref yd, .ref yb, .ref yk, .ref yz, .int (nI nq36), .int (b2 fl), .ref yr])), (yg, .inl (E.2.1, 32, .inl k5)), (yw, .inl (E.2.2.1, 64, .inl w_39)), (yh, .inl (E.2.2.1, 8, .inl h_40)), (yc, .inl (E.2.1, 32, .inl o_41)), (yd, .inl (E.2.1, 32, .inl g_42)), (yb, .inl (E.2.1, 512, .inl u_43)), (yk, .inl (E.2.1, 1920, .inl fq37)), (yz, .inl (E.2.2.1, 24, .inl zq38)), (ym, .inl (E.2.1, 160, .inl k3)), (yr, .inl (E.2.2.2.1, 100, .inl kr))] _ _ _ _ d_Mod_script3_310 (⟨_, _, _, _, _, _, _, _, _, rfl, hB45, Or.inr ⟨hR.symm.trans (ex_act_n (by omega) hop (by omega) (by omega) (hso.mpr hc19) hac9), rfl⟩⟩) rfl hP hS
                · obtain rfl : op = 100 := by omega
                  rcases bs with _ | ⟨_ | _, br⟩
                  · have hl : lv_has ls 9 [(6, .int (nI (fr + p9 + 1))), (7, .int (nI 100)), (5, .int (nI 0)), (4, .int (nI 0)), (3, .int ht), (2, .int (nI x.length)), (1, .int (nI fr)), (0, .ref y0)] := hl
                    refine lv_iload hx hb d_Mod_script3_251 (lv_at hl 3 rfl) ?_
                    refine z_ne C 0 rfl (by omega) d_Mod_script3_253 rfl (fun hc51 => absurd hc51 (by omega)) (fun hc51 => ?_)
                    refine lv_iconst (v := nI 0) hx hb d_Mod_script3_256 (by decide) ?_
                    exact kret (nI 0) [(y0, .inr (7, [.ref ya, .int (nI nt), .ref yo, .int (nI no), .ref ym, .ref yl, .ref yg, .ref yw, .ref yh, .ref yc, .ref yd, .ref yb, .ref yk, .ref yz, .int (nI S.length), .int (b2 fl), .ref yr])), (yg, .inl (E.2.1, 32, .inl k5)), (yw, .inl (E.2.2.1, 64, .inl k6)), (yh, .inl (E.2.2.1, 8, .inl k7)), (yc, .inl (E.2.1, 32, .inl k8)), (yd, .inl (E.2.1, 32, .inl k9)), (yb, .inl (E.2.1, 512, .inl kb)), (yk, .inl (E.2.1, 1920, .inl f)), (yz, .inl (E.2.2.1, 24, .inl sz)), (ym, .inl (E.2.1, 160, .inl k3)), (yr, .inl (E.2.2.2.1, 100, .inl kr))] _ _ _ _ d_Mod_script3_257 (⟨_, _, _, _, _, _, _, _, _, rfl, hB, Or.inr ⟨hR.symm.trans (ex_br_n (by omega) hop (by omega) (by omega) rfl), rfl⟩⟩) rfl hP hS
                  · have hl : lv_has ls 9 [(6, .int (nI (fr + p9 + 1))), (7, .int (nI 100)), (5, .int (nI (offS br + 1))), (4, .int (nI (br.length + 1))), (3, .int ht), (2, .int (nI x.length)), (1, .int (nI fr)), (0, .ref y0)] := hl
                    have hbs : br.length + 1 ≤ p9 := hbs
                    have hof : offS br + 1 ≤ br.length + 1 := hof
                    refine lv_iload hx hb d_Mod_script3_251 (lv_at hl 3 rfl) ?_
                    refine z_ne C (br.length + 1) rfl (by omega) d_Mod_script3_253 rfl (fun hc52 => ?_) (fun hc52 => absurd hc52 (by omega))
                    refine lv_iinc (k := 3) (v := nI br.length) (lv' := [(4, .int (nI br.length)), (6, .int (nI (fr + p9 + 1))), (7, .int (nI 100)), (5, .int (nI (offS br + 1))), (3, .int ht), (2, .int (nI x.length)), (1, .int (nI fr)), (0, .ref y0)]) hx hb d_Mod_script3_258 hl rfl (iincM1 _) (by decide) rfl (fun ls hl => ?_)
                    refine lv_aload_n hx hb d_Mod_script3_261 rfl (lv_at hl 7 rfl) ?_
                    refine n_get C fg_Mod_47 hP 0 rfl rfl d_Mod_script3_262 ?_
                    refine lv_iload hx hb d_Mod_script3_265 (lv_at hl 0 rfl) ?_
                    refine n_zald C hP 10 rfl br.length rfl (by omega) (by omega) d_Mod_script3_267 ?_
                    refine tope (z := b2 false) (hbr.1) ?_
                    refine zb_ne C false rfl d_Mod_script3_268 rfl (fun hc53 => absurd hc53 (by simp_all)) (fun hc53 => ?_)
                    refine lv_iinc (k := 3) (v := nI (offS br)) (lv' := [(5, .int (nI (offS br))), (4, .int (nI br.length)), (6, .int (nI (fr + p9 + 1))), (7, .int (nI 100)), (3, .int ht), (2, .int (nI x.length)), (1, .int (nI fr)), (0, .ref y0)]) hx hb d_Mod_script3_271 hl rfl (iincM1 _) (by decide) rfl (fun ls hl => ?_)
                    refine lv_goto hx hb d_Mod_script3_274 rfl ?_
                    refine lv_goto hx hb d_Mod_script3_311 rfl ?_
                    have hpe : fr + (p9 + 1) = fr + p9 + 1 := by omega
                    have hl : lv_has ls 9 [(5, .int (nI (offS br))), (4, .int (nI br.length)), (6, .int (nI (fr + (p9 + 1)))), (7, .int (nI 100)), (3, .int ht), (2, .int (nI x.length)), (1, .int (nI fr)), (0, .ref y0)] := by rw [hpe]; exact hl
                    exact ih9 dy (p9 + 1) br S f sz k6 k7 k8 k9 kb kr H locs ls (by omega) (by omega) (by omega) ((ex_br_s (by omega) hop (by omega) (by omega) rfl).symm.trans hR) (hrep) (hB) (hlen) (by omega) (hbr.2) hP hD hS (lv_sub hl [2, 0, 1, 4, 5, 6, 7] rfl)
                  · have hl : lv_has ls 9 [(6, .int (nI (fr + p9 + 1))), (7, .int (nI 100)), (5, .int (nI (offS br))), (4, .int (nI (br.length + 1))), (3, .int ht), (2, .int (nI x.length)), (1, .int (nI fr)), (0, .ref y0)] := hl
                    have hbs : br.length + 1 ≤ p9 := hbs
                    have hof : offS br ≤ br.length + 1 := hof
                    refine lv_iload hx hb d_Mod_script3_251 (lv_at hl 3 rfl) ?_
                    refine z_ne C (br.length + 1) rfl (by omega) d_Mod_script3_253 rfl (fun hc54 => ?_) (fun hc54 => absurd hc54 (by omega))
                    refine lv_iinc (k := 3) (v := nI br.length) (lv' := [(4, .int (nI br.length)), (6, .int (nI (fr + p9 + 1))), (7, .int (nI 100)), (5, .int (nI (offS br))), (3, .int ht), (2, .int (nI x.length)), (1, .int (nI fr)), (0, .ref y0)]) hx hb d_Mod_script3_258 hl rfl (iincM1 _) (by decide) rfl (fun ls hl => ?_)
                    refine lv_aload_n hx hb d_Mod_script3_261 rfl (lv_at hl 7 rfl) ?_
                    refine n_get C fg_Mod_47 hP 0 rfl rfl d_Mod_script3_262 ?_
                    refine lv_iload hx hb d_Mod_script3_265 (lv_at hl 0 rfl) ?_
                    refine n_zald C hP 10 rfl br.length rfl (by omega) (by omega) d_Mod_script3_267 ?_
                    refine tope (z := b2 true) (hbr.1) ?_
                    refine zb_ne C true rfl d_Mod_script3_268 rfl (fun hc55 => ?_) (fun hc55 => absurd hc55 (by simp_all))
                    refine lv_goto hx hb d_Mod_script3_311 rfl ?_
                    have hpe : fr + (p9 + 1) = fr + p9 + 1 := by omega
                    have hl : lv_has ls 9 [(4, .int (nI br.length)), (6, .int (nI (fr + (p9 + 1)))), (7, .int (nI 100)), (5, .int (nI (offS br))), (3, .int ht), (2, .int (nI x.length)), (1, .int (nI fr)), (0, .ref y0)] := by rw [hpe]; exact hl
                    exact ih9 dy (p9 + 1) br S f sz k6 k7 k8 k9 kb kr H locs ls (by omega) (by omega) (by omega) ((ex_br_s (by omega) hop (by omega) (by omega) rfl).symm.trans hR) (hrep) (hB) (hlen) (by omega) (hbr.2) hP hD hS (lv_sub hl [1, 3, 0, 4, 5, 6, 7] rfl)
              · obtain rfl : op = 99 := by omega
                rcases bs with _ | ⟨_ | _, br⟩
                · have hl : lv_has ls 9 [(6, .int (nI (fr + p9 + 1))), (7, .int (nI 99)), (5, .int (nI 0)), (4, .int (nI 0)), (3, .int ht), (2, .int (nI x.length)), (1, .int (nI fr)), (0, .ref y0)] := hl
                  refine lv_iload hx hb d_Mod_script3_186 (lv_at hl 3 rfl) ?_
                  refine z_ne C 0 rfl (by omega) d_Mod_script3_188 rfl (fun hc56 => absurd hc56 (by omega)) (fun hc56 => ?_)
                  refine lv_iconst (v := nI 0) hx hb d_Mod_script3_191 (by decide) ?_
                  exact kret (nI 0) [(y0, .inr (7, [.ref ya, .int (nI nt), .ref yo, .int (nI no), .ref ym, .ref yl, .ref yg, .ref yw, .ref yh, .ref yc, .ref yd, .ref yb, .ref yk, .ref yz, .int (nI S.length), .int (b2 fl), .ref yr])), (yg, .inl (E.2.1, 32, .inl k5)), (yw, .inl (E.2.2.1, 64, .inl k6)), (yh, .inl (E.2.2.1, 8, .inl k7)), (yc, .inl (E.2.1, 32, .inl k8)), (yd, .inl (E.2.1, 32, .inl k9)), (yb, .inl (E.2.1, 512, .inl kb)), (yk, .inl (E.2.1, 1920, .inl f)), (yz, .inl (E.2.2.1, 24, .inl sz)), (ym, .inl (E.2.1, 160, .inl k3)), (yr, .inl (E.2.2.2.1, 100, .inl kr))] _ _ _ _ d_Mod_script3_192 (⟨_, _, _, _, _, _, _, _, _, rfl, hB, Or.inr ⟨hR.symm.trans (ex_br_n (by omega) hop (by omega) (by omega) rfl), rfl⟩⟩) rfl hP hS
                · have hl : lv_has ls 9 [(6, .int (nI (fr + p9 + 1))), (7, .int (nI 99)), (5, .int (nI (offS br + 1))), (4, .int (nI (br.length + 1))), (3, .int ht), (2, .int (nI x.length)), (1, .int (nI fr)), (0, .ref y0)] := hl
                  have hbs : br.length + 1 ≤ p9 := hbs
                  have hof : offS br + 1 ≤ br.length + 1 := hof
                  refine lv_iload hx hb d_Mod_script3_186 (lv_at hl 3 rfl) ?_
                  refine z_ne C (br.length + 1) rfl (by omega) d_Mod_script3_188 rfl (fun hc57 => ?_) (fun hc57 => absurd hc57 (by omega))
                  refine lv_iload hx hb d_Mod_script3_193 (lv_at hl 2 rfl) ?_
                  refine lv_aload_n hx hb d_Mod_script3_195 rfl (lv_at hl 7 rfl) ?_
                  refine n_get C fg_Mod_47 hP 0 rfl rfl d_Mod_script3_196 ?_
                  refine lv_iload hx hb d_Mod_script3_199 (lv_at hl 3 rfl) ?_
                  refine lv_iconst (v := nI 1) hx hb d_Mod_script3_201 (by decide) ?_
                  refine lv_isub hx hb d_Mod_script3_202 ?_
                  refine tope (z := nI br.length) ((pk_sub (by omega)).trans (congrArg nI (by omega))) ?_
                  refine n_zald C hP 10 rfl br.length rfl (by omega) (by omega) d_Mod_script3_203 ?_
                  refine tope (z := b2 false) (hbr.1) ?_
                  refine zb_eq C false rfl d_Mod_script3_204 rfl (fun hc58 => ?_) (fun hc58 => absurd hc58 (by simp_all))
                  refine lv_iconst (v := (-1)) hx hb d_Mod_script3_211 (by decide) ?_
                  refine lv_iadd hx hb d_Mod_script3_212 ?_
                  refine tope (z := nI (offS br)) (pk_m1 _) ?_
                  refine lv_istore (lv' := [(5, .int (nI (offS br))), (6, .int (nI (fr + p9 + 1))), (7, .int (nI 99)), (4, .int (nI (br.length + 1))), (3, .int ht), (2, .int (nI x.length)), (1, .int (nI fr)), (0, .ref y0)]) hx hb d_Mod_script3_213 hl (by decide) rfl (fun ls hl => ?_)
                  refine lv_aload_n hx hb d_Mod_script3_215 rfl (lv_at hl 7 rfl) ?_
                  refine n_get C fg_Mod_47 hP 0 rfl rfl d_Mod_script3_216 ?_
                  refine lv_iload hx hb d_Mod_script3_219 (lv_at hl 3 rfl) ?_
                  refine lv_iconst (v := nI 1) hx hb d_Mod_script3_221 (by decide) ?_
                  refine lv_isub hx hb d_Mod_script3_222 ?_
                  refine tope (z := nI br.length) ((pk_sub (by omega)).trans (congrArg nI (by omega))) ?_
                  refine lv_aload_n hx hb d_Mod_script3_223 rfl (lv_at hl 7 rfl) ?_
                  refine n_get C fg_Mod_47 hP 0 rfl rfl d_Mod_script3_224 ?_
                  refine lv_iload hx hb d_Mod_script3_227 (lv_at hl 3 rfl) ?_
                  refine lv_iconst (v := nI 1) hx hb d_Mod_script3_229 (by decide) ?_
                  refine lv_isub hx hb d_Mod_script3_230 ?_
                  refine tope (z := nI br.length) ((pk_sub (by omega)).trans (congrArg nI (by omega))) ?_
                  refine n_zald C hP 10 rfl br.length rfl (by omega) (by omega) d_Mod_script3_231 ?_
                  refine tope (z := b2 false) (hbr.1) ?_
                  refine zb_ne C false rfl d_Mod_script3_232 rfl (fun hc59 => absurd hc59 (by simp_all)) (fun hc59 => ?_)
                  refine lv_iconst (v := nI 1) hx hb d_Mod_script3_235 (by decide) ?_
                  refine lv_goto hx hb d_Mod_script3_236 rfl ?_
                  refine n_zast C hP hD hS 10 rfl br.length rfl (rfl) (by omega) (by omega) d_Mod_script3_240 (fun H locs hP hD hS => ?_)
                  have hP : va_P E.1 clz [(y0, .inr (7, [.ref ya, .int (nI nt), .ref yo, .int (nI no), .ref ym, .ref yl, .ref yg, .ref yw, .ref yh, .ref yc, .ref yd, .ref yb, .ref yk, .ref yz, .int (nI S.length), .int (b2 fl), .ref yr])), (yg, .inl (E.2.1, 32, .inl k5)), (yw, .inl (E.2.2.1, 64, .inl k6)), (yh, .inl (E.2.2.1, 8, .inl k7)), (yc, .inl (E.2.1, 32, .inl k8)), (yd, .inl (E.2.1, 32, .inl k9)), (yb, .inl (E.2.1, 512, .inl kb)), (yk, .inl (E.2.1, 1920, .inl f)), (yz, .inl (E.2.2.1, 24, .inl sz)), (ym, .inl (E.2.1, 160, .inl k3)), (yr, .inl (E.2.2.2.1, 100, .inl (upd kr br.length (nI 1))))] H := hP
                  have hD : va_D A [(y0, .inr (7, [.ref ya, .int (nI nt), .ref yo, .int (nI no), .ref ym, .ref yl, .ref yg, .ref yw, .ref yh, .ref yc, .ref yd, .ref yb, .ref yk, .ref yz, .int (nI S.length), .int (b2 fl), .ref yr])), (yg, .inl (E.2.1, 32, .inl k5)), (yw, .inl (E.2.2.1, 64, .inl k6)), (yh, .inl (E.2.2.1, 8, .inl k7)), (yc, .inl (E.2.1, 32, .inl k8)), (yd, .inl (E.2.1, 32, .inl k9)), (yb, .inl (E.2.1, 512, .inl kb)), (yk, .inl (E.2.1, 1920, .inl f)), (yz, .inl (E.2.2.1, 24, .inl sz)), (ym, .inl (E.2.1, 160, .inl k3)), (yr, .inl (E.2.2.2.1, 100, .inl (upd kr br.length (nI 1))))] := hD
                  refine lv_goto hx hb d_Mod_script3_241 rfl ?_
                  have hl : lv_has ls 9 [(5, .int (nI (offS br))), (6, .int (nI (fr + p9 + 1))), (7, .int (nI 99)), (4, .int (nI ((true :: br).length))), (3, .int ht), (2, .int (nI x.length)), (1, .int (nI fr)), (0, .ref y0)] := hl
                  have hl : lv_has ls 9 [(5, .int (nI (offS (true :: br)))), (6, .int (nI (fr + p9 + 1))), (7, .int (nI 99)), (4, .int (nI ((true :: br).length))), (3, .int ht), (2, .int (nI x.length)), (1, .int (nI fr)), (0, .ref y0)] := hl
                  refine lv_goto hx hb d_Mod_script3_311 rfl ?_
                  have hpe : fr + (p9 + 1) = fr + p9 + 1 := by omega
                  have hl : lv_has ls 9 [(5, .int (nI (offS (true :: br)))), (6, .int (nI (fr + (p9 + 1)))), (7, .int (nI 99)), (4, .int (nI ((true :: br).length))), (3, .int ht), (2, .int (nI x.length)), (1, .int (nI fr)), (0, .ref y0)] := by rw [hpe]; exact hl
                  exact ih9 dy (p9 + 1) (true :: br) S f sz k6 k7 k8 k9 kb (upd kr br.length (nI 1)) H locs ls (by omega) (by omega) (by omega) ((ex_br_s (by omega) hop (by omega) (by omega) rfl).symm.trans hR) (hrep) (hB) (hlen) (by simp only [List.length_cons]; omega) (brep_push true hbr.2 rfl) hP hD hS (lv_sub hl [1, 0, 3, 4, 5, 6, 7] rfl)
                · have hl : lv_has ls 9 [(6, .int (nI (fr + p9 + 1))), (7, .int (nI 99)), (5, .int (nI (offS br))), (4, .int (nI (br.length + 1))), (3, .int ht), (2, .int (nI x.length)), (1, .int (nI fr)), (0, .ref y0)] := hl
                  have hbs : br.length + 1 ≤ p9 := hbs
                  have hof : offS br ≤ br.length + 1 := hof
                  refine lv_iload hx hb d_Mod_script3_186 (lv_at hl 3 rfl) ?_
                  refine z_ne C (br.length + 1) rfl (by omega) d_Mod_script3_188 rfl (fun hc60 => ?_) (fun hc60 => absurd hc60 (by omega))
                  refine lv_iload hx hb d_Mod_script3_193 (lv_at hl 2 rfl) ?_
                  refine lv_aload_n hx hb d_Mod_script3_195 rfl (lv_at hl 7 rfl) ?_
                  refine n_get C fg_Mod_47 hP 0 rfl rfl d_Mod_script3_196 ?_
                  refine lv_iload hx hb d_Mod_script3_199 (lv_at hl 3 rfl) ?_
                  refine lv_iconst (v := nI 1) hx hb d_Mod_script3_201 (by decide) ?_
                  refine lv_isub hx hb d_Mod_script3_202 ?_
                  refine tope (z := nI br.length) ((pk_sub (by omega)).trans (congrArg nI (by omega))) ?_
                  refine n_zald C hP 10 rfl br.length rfl (by omega) (by omega) d_Mod_script3_203 ?_
                  refine tope (z := b2 true) (hbr.1) ?_
                  refine zb_eq C true rfl d_Mod_script3_204 rfl (fun hc61 => absurd hc61 (by simp_all)) (fun hc61 => ?_)
                  refine lv_iconst (v := nI 1) hx hb d_Mod_script3_207 (by decide) ?_
                  refine lv_goto hx hb d_Mod_script3_208 rfl ?_
                  refine lv_iadd hx hb d_Mod_script3_212 ?_
                  refine tope (z := nI ((offS br) + 1)) (nI_add _ _) ?_
                  refine lv_istore (lv' := [(5, .int (nI ((offS br) + 1))), (6, .int (nI (fr + p9 + 1))), (7, .int (nI 99)), (4, .int (nI (br.length + 1))), (3, .int ht), (2, .int (nI x.length)), (1, .int (nI fr)), (0, .ref y0)]) hx hb d_Mod_script3_213 hl (by decide) rfl (fun ls hl => ?_)
                  refine lv_aload_n hx hb d_Mod_script3_215 rfl (lv_at hl 7 rfl) ?_
                  refine n_get C fg_Mod_47 hP 0 rfl rfl d_Mod_script3_216 ?_
                  refine lv_iload hx hb d_Mod_script3_219 (lv_at hl 3 rfl) ?_
                  refine lv_iconst (v := nI 1) hx hb d_Mod_script3_221 (by decide) ?_
                  refine lv_isub hx hb d_Mod_script3_222 ?_
                  refine tope (z := nI br.length) ((pk_sub (by omega)).trans (congrArg nI (by omega))) ?_
                  refine lv_aload_n hx hb d_Mod_script3_223 rfl (lv_at hl 7 rfl) ?_
                  refine n_get C fg_Mod_47 hP 0 rfl rfl d_Mod_script3_224 ?_
                  refine lv_iload hx hb d_Mod_script3_227 (lv_at hl 3 rfl) ?_
                  refine lv_iconst (v := nI 1) hx hb d_Mod_script3_229 (by decide) ?_
                  refine lv_isub hx hb d_Mod_script3_230 ?_
                  refine tope (z := nI br.length) ((pk_sub (by omega)).trans (congrArg nI (by omega))) ?_
                  refine n_zald C hP 10 rfl br.length rfl (by omega) (by omega) d_Mod_script3_231 ?_
                  refine tope (z := b2 true) (hbr.1) ?_
                  refine zb_ne C true rfl d_Mod_script3_232 rfl (fun hc62 => ?_) (fun hc62 => absurd hc62 (by simp_all))
                  refine lv_iconst (v := nI 0) hx hb d_Mod_script3_239 (by decide) ?_
                  refine n_zast C hP hD hS 10 rfl br.length rfl (rfl) (by omega) (by omega) d_Mod_script3_240 (fun H locs hP hD hS => ?_)
                  have hP : va_P E.1 clz [(y0, .inr (7, [.ref ya, .int (nI nt), .ref yo, .int (nI no), .ref ym, .ref yl, .ref yg, .ref yw, .ref yh, .ref yc, .ref yd, .ref yb, .ref yk, .ref yz, .int (nI S.length), .int (b2 fl), .ref yr])), (yg, .inl (E.2.1, 32, .inl k5)), (yw, .inl (E.2.2.1, 64, .inl k6)), (yh, .inl (E.2.2.1, 8, .inl k7)), (yc, .inl (E.2.1, 32, .inl k8)), (yd, .inl (E.2.1, 32, .inl k9)), (yb, .inl (E.2.1, 512, .inl kb)), (yk, .inl (E.2.1, 1920, .inl f)), (yz, .inl (E.2.2.1, 24, .inl sz)), (ym, .inl (E.2.1, 160, .inl k3)), (yr, .inl (E.2.2.2.1, 100, .inl (upd kr br.length (nI 0))))] H := hP
                  have hD : va_D A [(y0, .inr (7, [.ref ya, .int (nI nt), .ref yo, .int (nI no), .ref ym, .ref yl, .ref yg, .ref yw, .ref yh, .ref yc, .ref yd, .ref yb, .ref yk, .ref yz, .int (nI S.length), .int (b2 fl), .ref yr])), (yg, .inl (E.2.1, 32, .inl k5)), (yw, .inl (E.2.2.1, 64, .inl k6)), (yh, .inl (E.2.2.1, 8, .inl k7)), (yc, .inl (E.2.1, 32, .inl k8)), (yd, .inl (E.2.1, 32, .inl k9)), (yb, .inl (E.2.1, 512, .inl kb)), (yk, .inl (E.2.1, 1920, .inl f)), (yz, .inl (E.2.2.1, 24, .inl sz)), (ym, .inl (E.2.1, 160, .inl k3)), (yr, .inl (E.2.2.2.1, 100, .inl (upd kr br.length (nI 0))))] := hD
                  refine lv_goto hx hb d_Mod_script3_241 rfl ?_
                  have hl : lv_has ls 9 [(5, .int (nI ((offS br) + 1))), (6, .int (nI (fr + p9 + 1))), (7, .int (nI 99)), (4, .int (nI ((false :: br).length))), (3, .int ht), (2, .int (nI x.length)), (1, .int (nI fr)), (0, .ref y0)] := hl
                  have hl : lv_has ls 9 [(5, .int (nI (offS (false :: br)))), (6, .int (nI (fr + p9 + 1))), (7, .int (nI 99)), (4, .int (nI ((false :: br).length))), (3, .int ht), (2, .int (nI x.length)), (1, .int (nI fr)), (0, .ref y0)] := hl
                  refine lv_goto hx hb d_Mod_script3_311 rfl ?_
                  have hpe : fr + (p9 + 1) = fr + p9 + 1 := by omega
                  have hl : lv_has ls 9 [(5, .int (nI (offS (false :: br)))), (6, .int (nI (fr + (p9 + 1)))), (7, .int (nI 99)), (4, .int (nI ((false :: br).length))), (3, .int ht), (2, .int (nI x.length)), (1, .int (nI fr)), (0, .ref y0)] := by rw [hpe]; exact hl
                  exact ih9 dy (p9 + 1) (false :: br) S f sz k6 k7 k8 k9 kb (upd kr br.length (nI 0)) H locs ls (by omega) (by omega) (by omega) ((ex_br_s (by omega) hop (by omega) (by omega) rfl).symm.trans hR) (hrep) (hB) (hlen) (by simp only [List.length_cons]; omega) (brep_push false hbr.2 rfl) hP hD hS (lv_sub hl [1, 0, 3, 4, 5, 6, 7] rfl)
            · obtain rfl : op = 98 := by omega
              refine lv_iconst (v := nI 0) hx hb d_Mod_script3_99 (by decide) ?_
              refine lv_istore (lv' := [(8, .int (nI 0)), (6, .int (nI (fr + p9 + 1))), (7, .int (nI 98)), (5, .int (nI (offS bs))), (4, .int (nI bs.length)), (3, .int ht), (2, .int (nI x.length)), (1, .int (nI fr)), (0, .ref y0)]) hx hb d_Mod_script3_100 hl (by decide) rfl (fun ls hl => ?_)
              refine lv_iload hx hb d_Mod_script3_102 (lv_at hl 3 rfl) ?_
              refine z_ne C (offS bs) rfl (by omega) d_Mod_script3_104 rfl (fun hc63 => ?_) (fun hc63 => ?_)
              · refine lv_aload_n hx hb d_Mod_script3_156 rfl (lv_at hl 8 rfl) ?_
                refine n_get C fg_Mod_47 hP 0 rfl rfl d_Mod_script3_157 ?_
                refine lv_iload hx hb d_Mod_script3_160 (lv_at hl 4 rfl) ?_
                refine lv_iload hx hb d_Mod_script3_162 (lv_at hl 0 rfl) ?_
                refine n_zast C hP hD hS 10 rfl bs.length rfl (rfl) (by omega) (by omega) d_Mod_script3_164 (fun H locs hP hD hS => ?_)
                have hP : va_P E.1 clz [(y0, .inr (7, [.ref ya, .int (nI nt), .ref yo, .int (nI no), .ref ym, .ref yl, .ref yg, .ref yw, .ref yh, .ref yc, .ref yd, .ref yb, .ref yk, .ref yz, .int (nI S.length), .int (b2 fl), .ref yr])), (yg, .inl (E.2.1, 32, .inl k5)), (yw, .inl (E.2.2.1, 64, .inl k6)), (yh, .inl (E.2.2.1, 8, .inl k7)), (yc, .inl (E.2.1, 32, .inl k8)), (yd, .inl (E.2.1, 32, .inl k9)), (yb, .inl (E.2.1, 512, .inl kb)), (yk, .inl (E.2.1, 1920, .inl f)), (yz, .inl (E.2.2.1, 24, .inl sz)), (ym, .inl (E.2.1, 160, .inl k3)), (yr, .inl (E.2.2.2.1, 100, .inl (upd kr bs.length (nI 0))))] H := hP
                have hD : va_D A [(y0, .inr (7, [.ref ya, .int (nI nt), .ref yo, .int (nI no), .ref ym, .ref yl, .ref yg, .ref yw, .ref yh, .ref yc, .ref yd, .ref yb, .ref yk, .ref yz, .int (nI S.length), .int (b2 fl), .ref yr])), (yg, .inl (E.2.1, 32, .inl k5)), (yw, .inl (E.2.2.1, 64, .inl k6)), (yh, .inl (E.2.2.1, 8, .inl k7)), (yc, .inl (E.2.1, 32, .inl k8)), (yd, .inl (E.2.1, 32, .inl k9)), (yb, .inl (E.2.1, 512, .inl kb)), (yk, .inl (E.2.1, 1920, .inl f)), (yz, .inl (E.2.2.1, 24, .inl sz)), (ym, .inl (E.2.1, 160, .inl k3)), (yr, .inl (E.2.2.2.1, 100, .inl (upd kr bs.length (nI 0))))] := hD
                refine lv_iinc (k := 4) (v := nI (bs.length + 1)) (lv' := [(4, .int (nI (bs.length + 1))), (8, .int (nI 0)), (6, .int (nI (fr + p9 + 1))), (7, .int (nI 98)), (5, .int (nI (offS bs))), (3, .int ht), (2, .int (nI x.length)), (1, .int (nI fr)), (0, .ref y0)]) hx hb d_Mod_script3_165 hl rfl (iincK bs.length 1) (by decide) rfl (fun ls hl => ?_)
                refine lv_iload hx hb d_Mod_script3_168 (lv_at hl 1 rfl) ?_
                refine z_ne C 0 rfl (by omega) d_Mod_script3_170 rfl (fun hc64 => absurd hc64 (by omega)) (fun hc64 => ?_)
                refine lv_iinc (k := 4) (v := nI (offS bs + 1)) (lv' := [(5, .int (nI (offS bs + 1))), (4, .int (nI (bs.length + 1))), (8, .int (nI 0)), (6, .int (nI (fr + p9 + 1))), (7, .int (nI 98)), (3, .int ht), (2, .int (nI x.length)), (1, .int (nI fr)), (0, .ref y0)]) hx hb d_Mod_script3_173 hl rfl (iincK (offS bs) 1) (by decide) rfl (fun ls hl => ?_)
                refine lv_goto hx hb d_Mod_script3_176 rfl ?_
                have hl : lv_has ls 9 [(5, .int (nI (offS bs + 1))), (4, .int (nI ((false :: bs).length))), (8, .int (nI 0)), (6, .int (nI (fr + p9 + 1))), (7, .int (nI 98)), (3, .int ht), (2, .int (nI x.length)), (1, .int (nI fr)), (0, .ref y0)] := hl
                have hl : lv_has ls 9 [(5, .int (nI (offS (false :: bs)))), (4, .int (nI ((false :: bs).length))), (8, .int (nI 0)), (6, .int (nI (fr + p9 + 1))), (7, .int (nI 98)), (3, .int ht), (2, .int (nI x.length)), (1, .int (nI fr)), (0, .ref y0)] := hl
                refine lv_goto hx hb d_Mod_script3_311 rfl ?_
                have hpe : fr + (p9 + 1) = fr + p9 + 1 := by omega
                have hl : lv_has ls 9 [(5, .int (nI (offS (false :: bs)))), (4, .int (nI ((false :: bs).length))), (8, .int (nI 0)), (6, .int (nI (fr + (p9 + 1)))), (7, .int (nI 98)), (3, .int ht), (2, .int (nI x.length)), (1, .int (nI fr)), (0, .ref y0)] := by rw [hpe]; exact hl
                exact ih9 dy (p9 + 1) (false :: bs) S f sz k6 k7 k8 k9 kb (upd kr bs.length (nI 0)) H locs ls (by omega) (by omega) (by omega) ((ex_br_s (by omega) hop (by omega) (by omega) (by show (if shutS bs = 0 then _ else _) = _; rw [if_neg (fun q => hc63 (hso.mp q))])).symm.trans hR) (hrep) (hB) (hlen) (by simp only [List.length_cons]; omega) (brep_push false hbr rfl) hP hD hS (lv_sub hl [3, 0, 1, 5, 6, 7, 8] rfl)
              · rcases S with _ | ⟨y, S⟩
                · have hP : va_P E.1 clz [(y0, .inr (7, [.ref ya, .int (nI nt), .ref yo, .int (nI no), .ref ym, .ref yl, .ref yg, .ref yw, .ref yh, .ref yc, .ref yd, .ref yb, .ref yk, .ref yz, .int (nI 0), .int (b2 fl), .ref yr])), (yg, .inl (E.2.1, 32, .inl k5)), (yw, .inl (E.2.2.1, 64, .inl k6)), (yh, .inl (E.2.2.1, 8, .inl k7)), (yc, .inl (E.2.1, 32, .inl k8)), (yd, .inl (E.2.1, 32, .inl k9)), (yb, .inl (E.2.1, 512, .inl kb)), (yk, .inl (E.2.1, 1920, .inl f)), (yz, .inl (E.2.2.1, 24, .inl sz)), (ym, .inl (E.2.1, 160, .inl k3)), (yr, .inl (E.2.2.2.1, 100, .inl kr))] H := hP
                  have hD : va_D A [(y0, .inr (7, [.ref ya, .int (nI nt), .ref yo, .int (nI no), .ref ym, .ref yl, .ref yg, .ref yw, .ref yh, .ref yc, .ref yd, .ref yb, .ref yk, .ref yz, .int (nI 0), .int (b2 fl), .ref yr])), (yg, .inl (E.2.1, 32, .inl k5)), (yw, .inl (E.2.2.1, 64, .inl k6)), (yh, .inl (E.2.2.1, 8, .inl k7)), (yc, .inl (E.2.1, 32, .inl k8)), (yd, .inl (E.2.1, 32, .inl k9)), (yb, .inl (E.2.1, 512, .inl kb)), (yk, .inl (E.2.1, 1920, .inl f)), (yz, .inl (E.2.2.1, 24, .inl sz)), (ym, .inl (E.2.1, 160, .inl k3)), (yr, .inl (E.2.2.2.1, 100, .inl kr))] := hD
                  refine lv_aload_n hx hb d_Mod_script3_107 rfl (lv_at hl 8 rfl) ?_
                  refine n_get C fg_Mod_66 hP 0 rfl rfl d_Mod_script3_108 ?_
                  refine z_ne C 0 rfl (by omega) d_Mod_script3_111 rfl (fun hc65 => absurd hc65 (by omega)) (fun hc65 => ?_)
                  refine lv_iconst (v := nI 0) hx hb d_Mod_script3_114 (by decide) ?_
                  exact kret (nI 0) [(y0, .inr (7, [.ref ya, .int (nI nt), .ref yo, .int (nI no), .ref ym, .ref yl, .ref yg, .ref yw, .ref yh, .ref yc, .ref yd, .ref yb, .ref yk, .ref yz, .int (nI 0), .int (b2 fl), .ref yr])), (yg, .inl (E.2.1, 32, .inl k5)), (yw, .inl (E.2.2.1, 64, .inl k6)), (yh, .inl (E.2.2.1, 8, .inl k7)), (yc, .inl (E.2.1, 32, .inl k8)), (yd, .inl (E.2.1, 32, .inl k9)), (yb, .inl (E.2.1, 512, .inl kb)), (yk, .inl (E.2.1, 1920, .inl f)), (yz, .inl (E.2.2.1, 24, .inl sz)), (ym, .inl (E.2.1, 160, .inl k3)), (yr, .inl (E.2.2.2.1, 100, .inl kr))] _ _ _ _ d_Mod_script3_115 (⟨_, _, _, _, _, _, _, _, _, rfl, hB, Or.inr ⟨hR.symm.trans (ex_br_n (by omega) hop (by omega) (by omega) (by show (if shutS bs = 0 then _ else _) = _; rw [if_pos (hso.mpr hc63)])), rfl⟩⟩) rfl hP hS
                · have hP : va_P E.1 clz [(y0, .inr (7, [.ref ya, .int (nI nt), .ref yo, .int (nI no), .ref ym, .ref yl, .ref yg, .ref yw, .ref yh, .ref yc, .ref yd, .ref yb, .ref yk, .ref yz, .int (nI (S.length + 1)), .int (b2 fl), .ref yr])), (yg, .inl (E.2.1, 32, .inl k5)), (yw, .inl (E.2.2.1, 64, .inl k6)), (yh, .inl (E.2.2.1, 8, .inl k7)), (yc, .inl (E.2.1, 32, .inl k8)), (yd, .inl (E.2.1, 32, .inl k9)), (yb, .inl (E.2.1, 512, .inl kb)), (yk, .inl (E.2.1, 1920, .inl f)), (yz, .inl (E.2.2.1, 24, .inl sz)), (ym, .inl (E.2.1, 160, .inl k3)), (yr, .inl (E.2.2.2.1, 100, .inl kr))] H := hP
                  have hD : va_D A [(y0, .inr (7, [.ref ya, .int (nI nt), .ref yo, .int (nI no), .ref ym, .ref yl, .ref yg, .ref yw, .ref yh, .ref yc, .ref yd, .ref yb, .ref yk, .ref yz, .int (nI (S.length + 1)), .int (b2 fl), .ref yr])), (yg, .inl (E.2.1, 32, .inl k5)), (yw, .inl (E.2.2.1, 64, .inl k6)), (yh, .inl (E.2.2.1, 8, .inl k7)), (yc, .inl (E.2.1, 32, .inl k8)), (yd, .inl (E.2.1, 32, .inl k9)), (yb, .inl (E.2.1, 512, .inl kb)), (yk, .inl (E.2.1, 1920, .inl f)), (yz, .inl (E.2.2.1, 24, .inl sz)), (ym, .inl (E.2.1, 160, .inl k3)), (yr, .inl (E.2.2.2.1, 100, .inl kr))] := hD
                  have hx1 : sz S.length = nI y.length ∧ y.length ≤ 80 ∧ lay f (S.length * 80) y := rep_top hrep
                  have hlen : S.length + 1 ≤ 24 := hlen
                  refine lv_aload_n hx hb d_Mod_script3_107 rfl (lv_at hl 8 rfl) ?_
                  refine n_get C fg_Mod_66 hP 0 rfl rfl d_Mod_script3_108 ?_
                  refine z_ne C (S.length + 1) rfl (by omega) d_Mod_script3_111 rfl (fun hc66 => ?_) (fun hc66 => absurd hc66 (by omega))
                  refine lv_aload_n hx hb d_Mod_script3_116 rfl (lv_at hl 8 rfl) ?_
                  refine lv_dup hx hb d_Mod_script3_117 rfl ?_
                  refine n_get C fg_Mod_66 hP 0 rfl rfl d_Mod_script3_118 ?_
                  refine lv_iconst (v := nI 1) hx hb d_Mod_script3_121 (by decide) ?_
                  refine lv_isub hx hb d_Mod_script3_122 ?_
                  refine tope (z := nI S.length) ((pk_sub (by omega)).trans (congrArg nI (by omega))) ?_
                  refine n_put (v := .int (nI S.length)) C fp_Mod_66 hP hD hS 0 rfl (rfl) rfl (Nat.le_of_ble_eq_true rfl) d_Mod_script3_123 (fun H locs hP hD hS => ?_)
                  have hP : va_P E.1 clz [(y0, .inr (7, [.ref ya, .int (nI nt), .ref yo, .int (nI no), .ref ym, .ref yl, .ref yg, .ref yw, .ref yh, .ref yc, .ref yd, .ref yb, .ref yk, .ref yz, .int (nI S.length), .int (b2 fl), .ref yr])), (yg, .inl (E.2.1, 32, .inl k5)), (yw, .inl (E.2.2.1, 64, .inl k6)), (yh, .inl (E.2.2.1, 8, .inl k7)), (yc, .inl (E.2.1, 32, .inl k8)), (yd, .inl (E.2.1, 32, .inl k9)), (yb, .inl (E.2.1, 512, .inl kb)), (yk, .inl (E.2.1, 1920, .inl f)), (yz, .inl (E.2.2.1, 24, .inl sz)), (ym, .inl (E.2.1, 160, .inl k3)), (yr, .inl (E.2.2.2.1, 100, .inl kr))] H := hP
                  have hD : va_D A [(y0, .inr (7, [.ref ya, .int (nI nt), .ref yo, .int (nI no), .ref ym, .ref yl, .ref yg, .ref yw, .ref yh, .ref yc, .ref yd, .ref yb, .ref yk, .ref yz, .int (nI S.length), .int (b2 fl), .ref yr])), (yg, .inl (E.2.1, 32, .inl k5)), (yw, .inl (E.2.2.1, 64, .inl k6)), (yh, .inl (E.2.2.1, 8, .inl k7)), (yc, .inl (E.2.1, 32, .inl k8)), (yd, .inl (E.2.1, 32, .inl k9)), (yb, .inl (E.2.1, 512, .inl kb)), (yk, .inl (E.2.1, 1920, .inl f)), (yz, .inl (E.2.2.1, 24, .inl sz)), (ym, .inl (E.2.1, 160, .inl k3)), (yr, .inl (E.2.2.2.1, 100, .inl kr))] := hD
                  refine lv_aload_n hx hb d_Mod_script3_126 rfl (lv_at hl 8 rfl) ?_
                  refine lv_aload_n hx hb d_Mod_script3_127 rfl (lv_at hl 8 rfl) ?_
                  refine n_get C fg_Mod_66 hP 0 rfl rfl d_Mod_script3_128 ?_
                  refine cal_I (As := [.int (nI S.length)]) (rest := []) C lk_Mod_93 (c_Mod_isTrue l E y0 ya yo ym yl yg yw yh yc yd yb yk yz yr nt no S.length fl f sz S.length y (by omega) hx1.1 hx1.2.1 hx1.2.2) (by decide) hP hD hS 0 7 rfl rfl [0, 7, 8] rfl (by decide) hl.1 rfl (Nat.le_of_ble_eq_true rfl) d_Mod_script3_131 (fun r67 w1 H locs hp68 hP hD hS => ?_)
                  obtain ⟨rfl, rfl⟩ := hp68
                  have hP : va_P E.1 clz [(y0, .inr (7, [.ref ya, .int (nI nt), .ref yo, .int (nI no), .ref ym, .ref yl, .ref yg, .ref yw, .ref yh, .ref yc, .ref yd, .ref yb, .ref yk, .ref yz, .int (nI S.length), .int (b2 fl), .ref yr])), (yg, .inl (E.2.1, 32, .inl k5)), (yw, .inl (E.2.2.1, 64, .inl k6)), (yh, .inl (E.2.2.1, 8, .inl k7)), (yc, .inl (E.2.1, 32, .inl k8)), (yd, .inl (E.2.1, 32, .inl k9)), (yb, .inl (E.2.1, 512, .inl kb)), (yk, .inl (E.2.1, 1920, .inl f)), (yz, .inl (E.2.2.1, 24, .inl sz)), (ym, .inl (E.2.1, 160, .inl k3)), (yr, .inl (E.2.2.2.1, 100, .inl kr))] H := hP
                  have hD : va_D A [(y0, .inr (7, [.ref ya, .int (nI nt), .ref yo, .int (nI no), .ref ym, .ref yl, .ref yg, .ref yw, .ref yh, .ref yc, .ref yd, .ref yb, .ref yk, .ref yz, .int (nI S.length), .int (b2 fl), .ref yr])), (yg, .inl (E.2.1, 32, .inl k5)), (yw, .inl (E.2.2.1, 64, .inl k6)), (yh, .inl (E.2.2.1, 8, .inl k7)), (yc, .inl (E.2.1, 32, .inl k8)), (yd, .inl (E.2.1, 32, .inl k9)), (yb, .inl (E.2.1, 512, .inl kb)), (yk, .inl (E.2.1, 1920, .inl f)), (yz, .inl (E.2.2.1, 24, .inl sz)), (ym, .inl (E.2.1, 160, .inl k3)), (yr, .inl (E.2.2.2.1, 100, .inl kr))] := hD
                  refine lv_iload hx hb d_Mod_script3_134 (lv_at hl 2 rfl) ?_
                  refine lv_bipush (v := nI 97) hx hb d_Mod_script3_136 (by decide) ?_
                  refine j_ne C 98 97 rfl rfl (by decide) (by decide) d_Mod_script3_138 rfl (fun hc69 => ?_) (fun hc69 => absurd hc69 (by decide))
                  refine lv_iconst (v := nI 0) hx hb d_Mod_script3_145 (by decide) ?_
                  rcases Bool.eq_false_or_eq_true (isT y) with hT | hT
                  · rw [hT]
                    refine j_ne C 1 0 rfl rfl (by decide) (by decide) d_Mod_script3_146 rfl (fun hc70 => ?_) (fun hc70 => absurd hc70 (by decide))
                    refine lv_iconst (v := nI 0) hx hb d_Mod_script3_153 (by decide) ?_
                    refine lv_istore (lv' := [(8, .int (nI 0)), (6, .int (nI (fr + p9 + 1))), (7, .int (nI 98)), (5, .int (nI (offS bs))), (4, .int (nI bs.length)), (3, .int ht), (2, .int (nI x.length)), (1, .int (nI fr)), (0, .ref y0)]) hx hb d_Mod_script3_154 hl (by decide) rfl (fun ls hl => ?_)
                    refine lv_aload_n hx hb d_Mod_script3_156 rfl (lv_at hl 8 rfl) ?_
                    refine n_get C fg_Mod_47 hP 0 rfl rfl d_Mod_script3_157 ?_
                    refine lv_iload hx hb d_Mod_script3_160 (lv_at hl 4 rfl) ?_
                    refine lv_iload hx hb d_Mod_script3_162 (lv_at hl 0 rfl) ?_
                    refine n_zast C hP hD hS 10 rfl bs.length rfl (rfl) (by omega) (by omega) d_Mod_script3_164 (fun H locs hP hD hS => ?_)
                    have hP : va_P E.1 clz [(y0, .inr (7, [.ref ya, .int (nI nt), .ref yo, .int (nI no), .ref ym, .ref yl, .ref yg, .ref yw, .ref yh, .ref yc, .ref yd, .ref yb, .ref yk, .ref yz, .int (nI S.length), .int (b2 fl), .ref yr])), (yg, .inl (E.2.1, 32, .inl k5)), (yw, .inl (E.2.2.1, 64, .inl k6)), (yh, .inl (E.2.2.1, 8, .inl k7)), (yc, .inl (E.2.1, 32, .inl k8)), (yd, .inl (E.2.1, 32, .inl k9)), (yb, .inl (E.2.1, 512, .inl kb)), (yk, .inl (E.2.1, 1920, .inl f)), (yz, .inl (E.2.2.1, 24, .inl sz)), (ym, .inl (E.2.1, 160, .inl k3)), (yr, .inl (E.2.2.2.1, 100, .inl (upd kr bs.length (nI 0))))] H := hP
                    have hD : va_D A [(y0, .inr (7, [.ref ya, .int (nI nt), .ref yo, .int (nI no), .ref ym, .ref yl, .ref yg, .ref yw, .ref yh, .ref yc, .ref yd, .ref yb, .ref yk, .ref yz, .int (nI S.length), .int (b2 fl), .ref yr])), (yg, .inl (E.2.1, 32, .inl k5)), (yw, .inl (E.2.2.1, 64, .inl k6)), (yh, .inl (E.2.2.1, 8, .inl k7)), (yc, .inl (E.2.1, 32, .inl k8)), (yd, .inl (E.2.1, 32, .inl k9)), (yb, .inl (E.2.1, 512, .inl kb)), (yk, .inl (E.2.1, 1920, .inl f)), (yz, .inl (E.2.2.1, 24, .inl sz)), (ym, .inl (E.2.1, 160, .inl k3)), (yr, .inl (E.2.2.2.1, 100, .inl (upd kr bs.length (nI 0))))] := hD
                    refine lv_iinc (k := 4) (v := nI (bs.length + 1)) (lv' := [(4, .int (nI (bs.length + 1))), (8, .int (nI 0)), (6, .int (nI (fr + p9 + 1))), (7, .int (nI 98)), (5, .int (nI (offS bs))), (3, .int ht), (2, .int (nI x.length)), (1, .int (nI fr)), (0, .ref y0)]) hx hb d_Mod_script3_165 hl rfl (iincK bs.length 1) (by decide) rfl (fun ls hl => ?_)
                    refine lv_iload hx hb d_Mod_script3_168 (lv_at hl 1 rfl) ?_
                    refine z_ne C 0 rfl (by omega) d_Mod_script3_170 rfl (fun hc71 => absurd hc71 (by omega)) (fun hc71 => ?_)
                    refine lv_iinc (k := 4) (v := nI (offS bs + 1)) (lv' := [(5, .int (nI (offS bs + 1))), (4, .int (nI (bs.length + 1))), (8, .int (nI 0)), (6, .int (nI (fr + p9 + 1))), (7, .int (nI 98)), (3, .int ht), (2, .int (nI x.length)), (1, .int (nI fr)), (0, .ref y0)]) hx hb d_Mod_script3_173 hl rfl (iincK (offS bs) 1) (by decide) rfl (fun ls hl => ?_)
                    refine lv_goto hx hb d_Mod_script3_176 rfl ?_
                    have hl : lv_has ls 9 [(5, .int (nI (offS bs + 1))), (4, .int (nI ((false :: bs).length))), (8, .int (nI 0)), (6, .int (nI (fr + p9 + 1))), (7, .int (nI 98)), (3, .int ht), (2, .int (nI x.length)), (1, .int (nI fr)), (0, .ref y0)] := hl
                    have hl : lv_has ls 9 [(5, .int (nI (offS (false :: bs)))), (4, .int (nI ((false :: bs).length))), (8, .int (nI 0)), (6, .int (nI (fr + p9 + 1))), (7, .int (nI 98)), (3, .int ht), (2, .int (nI x.length)), (1, .int (nI fr)), (0, .ref y0)] := hl
                    refine lv_goto hx hb d_Mod_script3_311 rfl ?_
                    have hpe : fr + (p9 + 1) = fr + p9 + 1 := by omega
                    have hl : lv_has ls 9 [(5, .int (nI (offS (false :: bs)))), (4, .int (nI ((false :: bs).length))), (8, .int (nI 0)), (6, .int (nI (fr + (p9 + 1)))), (7, .int (nI 98)), (3, .int ht), (2, .int (nI x.length)), (1, .int (nI fr)), (0, .ref y0)] := by rw [hpe]; exact hl
                    exact ih9 dy (p9 + 1) (false :: bs) S f sz k6 k7 k8 k9 kb (upd kr bs.length (nI 0)) H locs ls (by omega) (by omega) (by omega) ((ex_br_s (by omega) hop (by omega) (by omega) (by show (if shutS bs = 0 then some ((isT y != decide (98 = 98)) :: bs, S) else _) = _; rw [if_pos (hso.mpr hc63), hT]; rfl)).symm.trans hR) (rep_tail hrep) (hB) (by omega) (by simp only [List.length_cons]; omega) (brep_push false hbr rfl) hP hD hS (lv_sub hl [3, 0, 1, 5, 6, 7, 8] rfl)
                  · rw [hT]
                    refine j_ne C 0 0 rfl rfl (by decide) (by decide) d_Mod_script3_146 rfl (fun hc72 => absurd hc72 (by decide)) (fun hc72 => ?_)
                    refine lv_iconst (v := nI 1) hx hb d_Mod_script3_149 (by decide) ?_
                    refine lv_goto hx hb d_Mod_script3_150 rfl ?_
                    refine lv_istore (lv' := [(8, .int (nI 1)), (6, .int (nI (fr + p9 + 1))), (7, .int (nI 98)), (5, .int (nI (offS bs))), (4, .int (nI bs.length)), (3, .int ht), (2, .int (nI x.length)), (1, .int (nI fr)), (0, .ref y0)]) hx hb d_Mod_script3_154 hl (by decide) rfl (fun ls hl => ?_)
                    refine lv_aload_n hx hb d_Mod_script3_156 rfl (lv_at hl 8 rfl) ?_
                    refine n_get C fg_Mod_47 hP 0 rfl rfl d_Mod_script3_157 ?_
                    refine lv_iload hx hb d_Mod_script3_160 (lv_at hl 4 rfl) ?_
                    refine lv_iload hx hb d_Mod_script3_162 (lv_at hl 0 rfl) ?_
                    refine n_zast C hP hD hS 10 rfl bs.length rfl (rfl) (by omega) (by omega) d_Mod_script3_164 (fun H locs hP hD hS => ?_)
                    have hP : va_P E.1 clz [(y0, .inr (7, [.ref ya, .int (nI nt), .ref yo, .int (nI no), .ref ym, .ref yl, .ref yg, .ref yw, .ref yh, .ref yc, .ref yd, .ref yb, .ref yk, .ref yz, .int (nI S.length), .int (b2 fl), .ref yr])), (yg, .inl (E.2.1, 32, .inl k5)), (yw, .inl (E.2.2.1, 64, .inl k6)), (yh, .inl (E.2.2.1, 8, .inl k7)), (yc, .inl (E.2.1, 32, .inl k8)), (yd, .inl (E.2.1, 32, .inl k9)), (yb, .inl (E.2.1, 512, .inl kb)), (yk, .inl (E.2.1, 1920, .inl f)), (yz, .inl (E.2.2.1, 24, .inl sz)), (ym, .inl (E.2.1, 160, .inl k3)), (yr, .inl (E.2.2.2.1, 100, .inl (upd kr bs.length (nI 1))))] H := hP
                    have hD : va_D A [(y0, .inr (7, [.ref ya, .int (nI nt), .ref yo, .int (nI no), .ref ym, .ref yl, .ref yg, .ref yw, .ref yh, .ref yc, .ref yd, .ref yb, .ref yk, .ref yz, .int (nI S.length), .int (b2 fl), .ref yr])), (yg, .inl (E.2.1, 32, .inl k5)), (yw, .inl (E.2.2.1, 64, .inl k6)), (yh, .inl (E.2.2.1, 8, .inl k7)), (yc, .inl (E.2.1, 32, .inl k8)), (yd, .inl (E.2.1, 32, .inl k9)), (yb, .inl (E.2.1, 512, .inl kb)), (yk, .inl (E.2.1, 1920, .inl f)), (yz, .inl (E.2.2.1, 24, .inl sz)), (ym, .inl (E.2.1, 160, .inl k3)), (yr, .inl (E.2.2.2.1, 100, .inl (upd kr bs.length (nI 1))))] := hD
                    refine lv_iinc (k := 4) (v := nI (bs.length + 1)) (lv' := [(4, .int (nI (bs.length + 1))), (8, .int (nI 1)), (6, .int (nI (fr + p9 + 1))), (7, .int (nI 98)), (5, .int (nI (offS bs))), (3, .int ht), (2, .int (nI x.length)), (1, .int (nI fr)), (0, .ref y0)]) hx hb d_Mod_script3_165 hl rfl (iincK bs.length 1) (by decide) rfl (fun ls hl => ?_)
                    refine lv_iload hx hb d_Mod_script3_168 (lv_at hl 1 rfl) ?_
                    refine z_ne C 1 rfl (by omega) d_Mod_script3_170 rfl (fun hc73 => ?_) (fun hc73 => absurd hc73 (by omega))
                    refine lv_goto hx hb d_Mod_script3_176 rfl ?_
                    have hl : lv_has ls 9 [(4, .int (nI ((true :: bs).length))), (8, .int (nI 1)), (6, .int (nI (fr + p9 + 1))), (7, .int (nI 98)), (5, .int (nI (offS bs))), (3, .int ht), (2, .int (nI x.length)), (1, .int (nI fr)), (0, .ref y0)] := hl
                    have hl : lv_has ls 9 [(4, .int (nI ((true :: bs).length))), (8, .int (nI 1)), (6, .int (nI (fr + p9 + 1))), (7, .int (nI 98)), (5, .int (nI (offS (true :: bs)))), (3, .int ht), (2, .int (nI x.length)), (1, .int (nI fr)), (0, .ref y0)] := hl
                    refine lv_goto hx hb d_Mod_script3_311 rfl ?_
                    have hpe : fr + (p9 + 1) = fr + p9 + 1 := by omega
                    have hl : lv_has ls 9 [(4, .int (nI ((true :: bs).length))), (8, .int (nI 1)), (6, .int (nI (fr + (p9 + 1)))), (7, .int (nI 98)), (5, .int (nI (offS (true :: bs)))), (3, .int ht), (2, .int (nI x.length)), (1, .int (nI fr)), (0, .ref y0)] := by rw [hpe]; exact hl
                    exact ih9 dy (p9 + 1) (true :: bs) S f sz k6 k7 k8 k9 kb (upd kr bs.length (nI 1)) H locs ls (by omega) (by omega) (by omega) ((ex_br_s (by omega) hop (by omega) (by omega) (by show (if shutS bs = 0 then some ((isT y != decide (98 = 98)) :: bs, S) else _) = _; rw [if_pos (hso.mpr hc63), hT]; rfl)).symm.trans hR) (rep_tail hrep) (hB) (by omega) (by simp only [List.length_cons]; omega) (brep_push true hbr rfl) hP hD hS (lv_sub hl [2, 4, 0, 5, 6, 7, 8] rfl)
        · refine lv_iload hx hb d_Mod_script3_40 (lv_at hl 0 rfl) ?_
          refine lv_iload hx hb d_Mod_script3_42 (lv_at hl 1 rfl) ?_
          refine lv_iadd hx hb d_Mod_script3_44 ?_
          refine tope (z := nI ((fr + p9 + 1) + op)) (nI_add _ _) ?_
          refine lv_iload_n hx hb d_Mod_script3_45 rfl (lv_at hl 6 rfl) ?_
          refine lv_iload_n hx hb d_Mod_script3_46 rfl (lv_at hl 5 rfl) ?_
          refine lv_iadd hx hb d_Mod_script3_47 ?_
          refine tope (z := nI (fr + x.length)) (nI_add _ _) ?_
          refine j_le C ((fr + p9 + 1) + op) (fr + x.length) rfl rfl (by omega) (by omega) d_Mod_script3_48 rfl (fun hc74 => ?_) (fun hc74 => ?_)
          · refine lv_iload hx hb d_Mod_script3_53 (lv_at hl 2 rfl) ?_
            refine z_ne C (offS bs) rfl (by omega) d_Mod_script3_55 rfl (fun hc75 => ?_) (fun hc75 => ?_)
            · refine lv_iload hx hb d_Mod_script3_75 (lv_at hl 0 rfl) ?_
              refine lv_iload hx hb d_Mod_script3_77 (lv_at hl 1 rfl) ?_
              refine lv_iadd hx hb d_Mod_script3_79 ?_
              refine tope (z := nI ((fr + p9 + 1) + op)) (nI_add _ _) ?_
              refine lv_istore (lv' := [(6, .int (nI ((fr + p9 + 1) + op))), (7, .int (nI op)), (5, .int (nI (offS bs))), (4, .int (nI bs.length)), (3, .int ht), (2, .int (nI x.length)), (1, .int (nI fr)), (0, .ref y0)]) hx hb d_Mod_script3_80 hl (by decide) rfl (fun ls hl => ?_)
              refine lv_goto hx hb d_Mod_script3_82 rfl ?_
              refine lv_goto hx hb d_Mod_script3_311 rfl ?_
              have hpe : fr + (p9 + 1 + op) = (fr + p9 + 1) + op := by omega
              have hl : lv_has ls 9 [(6, .int (nI (fr + (p9 + 1 + op)))), (7, .int (nI op)), (5, .int (nI (offS bs))), (4, .int (nI bs.length)), (3, .int ht), (2, .int (nI x.length)), (1, .int (nI fr)), (0, .ref y0)] := by rw [hpe]; exact hl
              exact ih9 dy (p9 + 1 + op) bs S f sz k6 k7 k8 k9 kb kr H locs ls (by omega) (by omega) (by omega) ((ex_skip (by omega) hop (by omega) (by omega) (fun q => hc75 (hso.mp q))).symm.trans hR) (hrep) (hB) (hlen) (by omega) (hbr) hP hD hS (lv_sub hl [0, 2, 3, 4, 5, 6, 7] rfl)
            · rcases Nat.lt_or_ge S.length 24 with h24 | h24
              · refine lv_aload_n hx hb d_Mod_script3_58 rfl (lv_at hl 7 rfl) ?_
                refine lv_aload_n hx hb d_Mod_script3_59 rfl (lv_at hl 7 rfl) ?_
                refine n_get C fg_Mod_16 hP 0 rfl rfl d_Mod_script3_60 ?_
                refine lv_iload hx hb d_Mod_script3_63 (lv_at hl 0 rfl) ?_
                refine lv_iload hx hb d_Mod_script3_65 (lv_at hl 1 rfl) ?_
                refine cal_I (As := [.ref ym, .int (nI (fr + p9 + 1)), .int (nI op)]) (rest := []) C lk_Mod_70 (c_Mod_push l E y0 ya yo ym yl yg yw yh yc yd yb yk yz yr nt no S.length fl (fr + p9 + 1) op ym 160 f sz k3 (by omega) (by omega) (by omega) (fun q hq => hB3 _) (by omega)) (by decide) hP hD hS 0 7 rfl rfl [0, 7, 8, 9] rfl (by decide) hl.1 rfl (Nat.le_of_ble_eq_true rfl) d_Mod_script3_67 (fun r76 w1 H locs hp77 hP hD hS => ?_)
                obtain ⟨rfl, rfl⟩ := hp77
                have hP : va_P E.1 clz [(y0, .inr (7, [.ref ya, .int (nI nt), .ref yo, .int (nI no), .ref ym, .ref yl, .ref yg, .ref yw, .ref yh, .ref yc, .ref yd, .ref yb, .ref yk, .ref yz, .int (nI (S.length + 1)), .int (b2 fl), .ref yr])), (yg, .inl (E.2.1, 32, .inl k5)), (yw, .inl (E.2.2.1, 64, .inl k6)), (yh, .inl (E.2.2.1, 8, .inl k7)), (yc, .inl (E.2.1, 32, .inl k8)), (yd, .inl (E.2.1, 32, .inl k9)), (yb, .inl (E.2.1, 512, .inl kb)), (yk, .inl (E.2.1, 1920, .inl (va_cpy k3 f (fr + p9 + 1) (S.length * 80) op))), (yz, .inl (E.2.2.1, 24, .inl (upd sz S.length (nI op)))), (ym, .inl (E.2.1, 160, .inl k3)), (yr, .inl (E.2.2.2.1, 100, .inl kr))] H := hP
                have hD : va_D A [(y0, .inr (7, [.ref ya, .int (nI nt), .ref yo, .int (nI no), .ref ym, .ref yl, .ref yg, .ref yw, .ref yh, .ref yc, .ref yd, .ref yb, .ref yk, .ref yz, .int (nI (S.length + 1)), .int (b2 fl), .ref yr])), (yg, .inl (E.2.1, 32, .inl k5)), (yw, .inl (E.2.2.1, 64, .inl k6)), (yh, .inl (E.2.2.1, 8, .inl k7)), (yc, .inl (E.2.1, 32, .inl k8)), (yd, .inl (E.2.1, 32, .inl k9)), (yb, .inl (E.2.1, 512, .inl kb)), (yk, .inl (E.2.1, 1920, .inl (va_cpy k3 f (fr + p9 + 1) (S.length * 80) op))), (yz, .inl (E.2.2.1, 24, .inl (upd sz S.length (nI op)))), (ym, .inl (E.2.1, 160, .inl k3)), (yr, .inl (E.2.2.2.1, 100, .inl kr))] := hD
                have hsu := lay_subO (p := p9 + 1) (k := op) hls (by omega)
                refine zb_ne C true rfl d_Mod_script3_70 rfl (fun hc78 => ?_) (fun hc78 => absurd hc78 (by simp_all))
                refine lv_iload hx hb d_Mod_script3_75 (lv_at hl 0 rfl) ?_
                refine lv_iload hx hb d_Mod_script3_77 (lv_at hl 1 rfl) ?_
                refine lv_iadd hx hb d_Mod_script3_79 ?_
                refine tope (z := nI ((fr + p9 + 1) + op)) (nI_add _ _) ?_
                refine lv_istore (lv' := [(6, .int (nI ((fr + p9 + 1) + op))), (7, .int (nI op)), (5, .int (nI (offS bs))), (4, .int (nI bs.length)), (3, .int ht), (2, .int (nI x.length)), (1, .int (nI fr)), (0, .ref y0)]) hx hb d_Mod_script3_80 hl (by decide) rfl (fun ls hl => ?_)
                refine lv_goto hx hb d_Mod_script3_82 rfl ?_
                refine lv_goto hx hb d_Mod_script3_311 rfl ?_
                have hpe : fr + (p9 + 1 + op) = (fr + p9 + 1) + op := by omega
                have hl : lv_has ls 9 [(6, .int (nI (fr + (p9 + 1 + op)))), (7, .int (nI op)), (5, .int (nI (offS bs))), (4, .int (nI bs.length)), (3, .int ht), (2, .int (nI x.length)), (1, .int (nI fr)), (0, .ref y0)] := by rw [hpe]; exact hl
                exact ih9 dy (p9 + 1 + op) bs ((x.drop (p9 + 1)).take op :: S) (va_cpy k3 f (fr + p9 + 1) (S.length * 80) op) (upd sz S.length (nI op)) k6 k7 k8 k9 kb kr H locs ls (by omega) (by omega) (by omega) ((ex_push (by omega) hop (by omega) (by omega) (hso.mpr hc75) h24).symm.trans hR) (rep_cpy hrep rfl hsu.2.symm (by rw [hsu.2]; omega) (by rw [show fr + p9 + 1 = fr + (p9 + 1) by omega]; exact hsu.1)) (fB_cpy hB3 hB) (by simp only [List.length_cons]; omega) (by omega) (hbr) hP hD hS (lv_sub hl [0, 2, 3, 4, 5, 6, 7] rfl)
              · refine lv_aload_n hx hb d_Mod_script3_58 rfl (lv_at hl 7 rfl) ?_
                refine lv_aload_n hx hb d_Mod_script3_59 rfl (lv_at hl 7 rfl) ?_
                refine n_get C fg_Mod_16 hP 0 rfl rfl d_Mod_script3_60 ?_
                refine lv_iload hx hb d_Mod_script3_63 (lv_at hl 0 rfl) ?_
                refine lv_iload hx hb d_Mod_script3_65 (lv_at hl 1 rfl) ?_
                refine cal_I (As := [.ref ym, .int (nI (fr + p9 + 1)), .int (nI op)]) (rest := []) C lk_Mod_70 (c_Mod_push_full l E y0 ya yo ym yl yg yw yh yc yd yb yk yz yr nt no S.length fl (fr + p9 + 1) op ym 160 f sz k3 (by omega)) (by decide) hP hD hS 0 7 rfl rfl [0, 7, 8, 9] rfl (by decide) hl.1 rfl (Nat.le_of_ble_eq_true rfl) d_Mod_script3_67 (fun r79 w1 H locs hp80 hP hD hS => ?_)
                obtain ⟨rfl, rfl⟩ := hp80
                have hP : va_P E.1 clz [(y0, .inr (7, [.ref ya, .int (nI nt), .ref yo, .int (nI no), .ref ym, .ref yl, .ref yg, .ref yw, .ref yh, .ref yc, .ref yd, .ref yb, .ref yk, .ref yz, .int (nI S.length), .int (b2 fl), .ref yr])), (yg, .inl (E.2.1, 32, .inl k5)), (yw, .inl (E.2.2.1, 64, .inl k6)), (yh, .inl (E.2.2.1, 8, .inl k7)), (yc, .inl (E.2.1, 32, .inl k8)), (yd, .inl (E.2.1, 32, .inl k9)), (yb, .inl (E.2.1, 512, .inl kb)), (yk, .inl (E.2.1, 1920, .inl f)), (yz, .inl (E.2.2.1, 24, .inl sz)), (ym, .inl (E.2.1, 160, .inl k3)), (yr, .inl (E.2.2.2.1, 100, .inl kr))] H := hP
                have hD : va_D A [(y0, .inr (7, [.ref ya, .int (nI nt), .ref yo, .int (nI no), .ref ym, .ref yl, .ref yg, .ref yw, .ref yh, .ref yc, .ref yd, .ref yb, .ref yk, .ref yz, .int (nI S.length), .int (b2 fl), .ref yr])), (yg, .inl (E.2.1, 32, .inl k5)), (yw, .inl (E.2.2.1, 64, .inl k6)), (yh, .inl (E.2.2.1, 8, .inl k7)), (yc, .inl (E.2.1, 32, .inl k8)), (yd, .inl (E.2.1, 32, .inl k9)), (yb, .inl (E.2.1, 512, .inl kb)), (yk, .inl (E.2.1, 1920, .inl f)), (yz, .inl (E.2.2.1, 24, .inl sz)), (ym, .inl (E.2.1, 160, .inl k3)), (yr, .inl (E.2.2.2.1, 100, .inl kr))] := hD
                refine zb_ne C false rfl d_Mod_script3_70 rfl (fun hc81 => absurd hc81 (by simp_all)) (fun hc81 => ?_)
                refine lv_iconst (v := nI 0) hx hb d_Mod_script3_73 (by decide) ?_
                exact kret (nI 0) [(y0, .inr (7, [.ref ya, .int (nI nt), .ref yo, .int (nI no), .ref ym, .ref yl, .ref yg, .ref yw, .ref yh, .ref yc, .ref yd, .ref yb, .ref yk, .ref yz, .int (nI S.length), .int (b2 fl), .ref yr])), (yg, .inl (E.2.1, 32, .inl k5)), (yw, .inl (E.2.2.1, 64, .inl k6)), (yh, .inl (E.2.2.1, 8, .inl k7)), (yc, .inl (E.2.1, 32, .inl k8)), (yd, .inl (E.2.1, 32, .inl k9)), (yb, .inl (E.2.1, 512, .inl kb)), (yk, .inl (E.2.1, 1920, .inl f)), (yz, .inl (E.2.2.1, 24, .inl sz)), (ym, .inl (E.2.1, 160, .inl k3)), (yr, .inl (E.2.2.2.1, 100, .inl kr))] _ _ _ _ d_Mod_script3_74 (⟨_, _, _, _, _, _, _, _, _, rfl, hB, Or.inr ⟨hR.symm.trans (ex_full (by omega) hop (by omega) (by omega) (hso.mpr hc75) (by omega)), rfl⟩⟩) rfl hP hS
          · refine lv_iconst (v := nI 0) hx hb d_Mod_script3_51 (by decide) ?_
            exact kret (nI 0) [(y0, .inr (7, [.ref ya, .int (nI nt), .ref yo, .int (nI no), .ref ym, .ref yl, .ref yg, .ref yw, .ref yh, .ref yc, .ref yd, .ref yb, .ref yk, .ref yz, .int (nI S.length), .int (b2 fl), .ref yr])), (yg, .inl (E.2.1, 32, .inl k5)), (yw, .inl (E.2.2.1, 64, .inl k6)), (yh, .inl (E.2.2.1, 8, .inl k7)), (yc, .inl (E.2.1, 32, .inl k8)), (yd, .inl (E.2.1, 32, .inl k9)), (yb, .inl (E.2.1, 512, .inl kb)), (yk, .inl (E.2.1, 1920, .inl f)), (yz, .inl (E.2.2.1, 24, .inl sz)), (ym, .inl (E.2.1, 160, .inl k3)), (yr, .inl (E.2.2.2.1, 100, .inl kr))] _ _ _ _ d_Mod_script3_52 (⟨_, _, _, _, _, _, _, _, _, rfl, hB, Or.inr ⟨hR.symm.trans (ex_short (by omega) hop (by omega) (by omega)), rfl⟩⟩) rfl hP hS
  exact hloop9 (x.length + 1) x.length 0 ([]) S f sz k6 k7 k8 k9 kb kr H locs ls (by omega) (by omega) (by omega) (hR0) (hrep) (hB) (hlen) (Nat.zero_le _) (trivial) hP hD hS (lv_sub hl [0, 1, 2, 6, 5, 4, 3] rfl)
