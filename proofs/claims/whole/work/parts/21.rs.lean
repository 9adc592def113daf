theorem and255 (b : Int32) : b &&& nI 255 = nI (byN b) ∧ byN b < 256 := by
  obtain ⟨j, hj, e⟩ := pk_andE b (m := nI 255) 8 (by decide)
  unfold byN
  rw [e, nI_clamp (by omega)]
  exact ⟨rfl, hj⟩
theorem lay_sub {sf : Nat → Int32} {x : Byl} {p k : Nat} (h : lay sf 0 x) (hk : p + k ≤ x.length) : lay sf p ((x.drop p).take k) ∧ ((x.drop p).take k).length = k := by
  have hl : ((x.drop p).take k).length = k := by rw [List.length_take, List.length_drop]; omega
  refine ⟨fun j hj => ?_, hl⟩
  rw [hl] at hj
  have := h (p + j) (by omega)
  rw [Nat.zero_add] at this
  rw [this, List.getD_eq_getElem?_getD, List.getD_eq_getElem?_getD, List.getElem?_take_of_lt hj, List.getElem?_drop]
section EX
variable {x : Byl} {ht : Int32} {msg : Byl} {d p op : Nat} {bs : List Bool} {S : Stk}
theorem exS1 : execS x ht msg (d + 1) p bs S = (if p < x.length then
      (if byN (x.getD p 0) ≤ 75 then
        (if p + 1 + byN (x.getD p 0) ≤ x.length then
          (if shutS bs = 0 then
            (match pushE ((x.drop (p + 1)).take (byN (x.getD p 0))) S with | some S' => execS x ht msg d (p + 1 + byN (x.getD p 0)) bs S' | none => none)
          else execS x ht msg d (p + 1 + byN (x.getD p 0)) bs S)
        else none)
      else if byN (x.getD p 0) = 97 ∨ byN (x.getD p 0) = 98 then
        (if shutS bs = 0 then
          (match S with | y :: r => execS x ht msg d (p + 1) ((isT y != decide (byN (x.getD p 0) = 98)) :: bs) r | [] => none)
        else execS x ht msg d (p + 1) (false :: bs) S)
      else if byN (x.getD p 0) = 99 then
        (match bs with | b :: r => execS x ht msg d (p + 1) ((!b) :: r) S | [] => none)
      else if byN (x.getD p 0) = 100 then
        (match bs with | _ :: r => execS x ht msg d (p + 1) r S | [] => none)
      else if shutS bs = 0 then
        (match actS (byN (x.getD p 0)) ht msg S with | some S' => execS x ht msg d (p + 1) bs S' | none => none)
      else execS x ht msg d (p + 1) bs S)
    else if bs = [] then some S else none) := rfl
theorem ex_end (h : x.length ≤ p) : execS x ht msg (d + 1) p bs S = if bs = [] then some S else none := by
  rw [exS1, if_neg (by omega)]
theorem ex_short (h : p < x.length) (ho : byN (x.getD p 0) = op) (h1 : op ≤ 75) (h2 : ¬ p + 1 + op ≤ x.length) : execS x ht msg (d + 1) p bs S = none := by
  rw [exS1, if_pos h, ho]
  rw [if_pos h1, if_neg h2]
theorem ex_skip (h : p < x.length) (ho : byN (x.getD p 0) = op) (h1 : op ≤ 75) (h2 : p + 1 + op ≤ x.length) (hs : ¬ shutS bs = 0) : execS x ht msg (d + 1) p bs S = execS x ht msg d (p + 1 + op) bs S := by
  rw [exS1, if_pos h, ho]
  rw [if_pos h1, if_pos h2, if_neg hs]
theorem ex_push (h : p < x.length) (ho : byN (x.getD p 0) = op) (h1 : op ≤ 75) (h2 : p + 1 + op ≤ x.length) (hs : shutS bs = 0) (hf : S.length < 24) : execS x ht msg (d + 1) p bs S = execS x ht msg d (p + 1 + op) bs ((x.drop (p + 1)).take op :: S) := by
  rw [exS1, if_pos h, ho]
  rw [if_pos h1, if_pos h2, if_pos hs]
  unfold pushE
  rw [if_pos hf]
theorem ex_full (h : p < x.length) (ho : byN (x.getD p 0) = op) (h1 : op ≤ 75) (h2 : p + 1 + op ≤ x.length) (hs : shutS bs = 0) (hf : ¬ S.length < 24) : execS x ht msg (d + 1) p bs S = none := by
  rw [exS1, if_pos h, ho]
  rw [if_pos h1, if_pos h2, if_pos hs]
  unfold pushE
  rw [if_neg hf]
theorem ex_br (h : p < x.length) (ho : byN (x.getD p 0) = op) (h1 : 97 ≤ op) (h2 : op ≤ 100) : execS x ht msg (d + 1) p bs S = (match brS op bs S with | some q => execS x ht msg d (p + 1) q.1 q.2 | none => none) := by
  rw [exS1, if_pos h, ho]
  rw [if_neg (by omega)]
  unfold brS
  by_cases c1 : op = 97 ∨ op = 98
  · rw [if_pos c1, if_pos c1]
    by_cases c2 : shutS bs = 0
    · rw [if_pos c2, if_pos c2]
      cases S <;> rfl
    · rw [if_neg c2, if_neg c2]
  · rw [if_neg c1, if_neg c1]
    by_cases c2 : op = 99
    · rw [if_pos c2, if_pos c2]
      cases bs <;> rfl
    · rw [if_neg c2, if_neg c2, if_pos (by omega)]
      cases bs <;> rfl
theorem ex_br_s {bs1 : List Bool} {S1 : Stk} (h : p < x.length) (ho : byN (x.getD p 0) = op) (h1 : 97 ≤ op) (h2 : op ≤ 100) (hb : brS op bs S = some (bs1, S1)) : execS x ht msg (d + 1) p bs S = execS x ht msg d (p + 1) bs1 S1 := by
  rw [ex_br h ho h1 h2, hb]
theorem ex_br_n (h : p < x.length) (ho : byN (x.getD p 0) = op) (h1 : 97 ≤ op) (h2 : op ≤ 100) (hb : brS op bs S = none) : execS x ht msg (d + 1) p bs S = none := by
  rw [ex_br h ho h1 h2, hb]
theorem ex_act (h : p < x.length) (ho : byN (x.getD p 0) = op) (h1 : 75 < op) (h2 : op < 97 ∨ 100 < op) (hs : shutS bs = 0) : execS x ht msg (d + 1) p bs S = (match actS op ht msg S with | some S' => execS x ht msg d (p + 1) bs S' | none => none) := by
  rw [exS1, if_pos h, ho]
  rw [if_neg (by omega), if_neg (by omega), if_neg (by omega), if_neg (by omega), if_pos hs]
theorem ex_act_s {S1 : Stk} (h : p < x.length) (ho : byN (x.getD p 0) = op) (h1 : 75 < op) (h2 : op < 97 ∨ 100 < op) (hs : shutS bs = 0) (ha : actS op ht msg S = some S1) : execS x ht msg (d + 1) p bs S = execS x ht msg d (p + 1) bs S1 := by
  rw [ex_act h ho h1 h2 hs, ha]
theorem ex_act_n (h : p < x.length) (ho : byN (x.getD p 0) = op) (h1 : 75 < op) (h2 : op < 97 ∨ 100 < op) (hs : shutS bs = 0) (ha : actS op ht msg S = none) : execS x ht msg (d + 1) p bs S = none := by
  rw [ex_act h ho h1 h2 hs, ha]
theorem ex_pass (h : p < x.length) (ho : byN (x.getD p 0) = op) (h1 : 75 < op) (h2 : op < 97 ∨ 100 < op) (hs : ¬ shutS bs = 0) : execS x ht msg (d + 1) p bs S = execS x ht msg d (p + 1) bs S := by
  rw [exS1, if_pos h, ho]
  rw [if_neg (by omega), if_neg (by omega), if_neg (by omega), if_neg (by omega), if_neg hs]
end EX

def runP (E : En) (u0 e0 eb es s0 m0 d0 x0 h0 a1 a2 c0 w0 q0 k : Nat) (mf sf : Nat → Int32) (R : Option Stk) (r : Int32) (w : va_W) : Prop := ∃ (n bo bh : Nat) (f sz df xf st wv : Nat → Int32), w = wU E u0 e0 eb es s0 m0 d0 x0 h0 a1 a2 c0 n bo bh mf f sz df xf st wv ++ [(w0, .inr (2, [.ref q0, .int (nI k)])), (q0, .inl (E.2.1, 80, .inl sf))] ∧ fB f ∧ ((∃ S1 : Stk, R = some S1 ∧ r = b2 true ∧ n = S1.length ∧ rep f sz S1 ∧ S1.length ≤ 24) ∨ (R = none ∧ r = b2 false))
theorem runP_nar {E : En} {u0 e0 eb es s0 m0 d0 x0 h0 a1 a2 c0 w0 q0 k : Nat} {mf sf : Nat → Int32} {R : Option Stk} (r : Int32) (w : va_W) (h : runP E u0 e0 eb es s0 m0 d0 x0 h0 a1 a2 c0 w0 q0 k mf sf R r w) : narrow .boolean (.int r) = .int r := by
  obtain ⟨n, bo, bh, f, sz, df, xf, st, wv, -, -, ⟨S1, -, rfl, -⟩ | ⟨-, rfl⟩⟩ := h
  · exact b2_nar _
  · exact b2_nar _

theorem brS_len {op : Nat} {bs bs1 : List Bool} {S S1 : Stk} (h : brS op bs S = some (bs1, S1)) : bs1.length ≤ bs.length + 1 := by
  unfold brS at h
  split at h
  · split at h
    · cases S with
      | nil => cases h
      | cons y r => cases h; exact Nat.le_refl _
    · cases h; exact Nat.le_refl _
  · split at h
    · cases bs with
      | nil => cases h
      | cons b r => cases h; simp
    · cases bs with
      | nil => cases h
      | cons b r => cases h; simp only [List.length_cons]; omega

set_option maxHeartbeats 4000000 in
set_option maxRecDepth 100000 in
theorem c_Run_runScript (l : Launch) (E : En) (u0 e0 eb es s0 m0 d0 x0 h0 a1 a2 c0 bo bh w0 q0 : Nat) (mf f sz df xf st wv : Nat → Int32) (S : Stk) (msg : Byl) (hrep : rep f sz S) (hB : fB f) (hBm : fB mf) (hlen : S.length ≤ 24) (hm : lay mf 0 msg) (hm32 : msg.length = 32) (x : Byl) (sf : Nat → Int32) (ht : Int32) (R0 : Option Stk) (hR0 : execS x ht msg (x.length + 1) 0 [] S = R0) (hls : lay sf 0 x) (hx80 : x.length ≤ 80) (hBs : fB sf) : CtI l y_Run_runScript b_Run_runScript 6 .boolean (rmd 6) E [.ref u0, .ref w0, .int ht] [(u0, .inr (3, [.ref e0, .ref s0, .ref h0, .ref c0])), (e0, .inr (1, [.ref eb, .ref es, .int (nI S.length)])), (eb, .inl (E.2.1, 1920, .inl f)), (es, .inl (E.2.2.1, 24, .inl sz)), (s0, .inr (5, [.ref m0, .ref d0, .ref h0, .ref x0])), (m0, .inl (E.2.1, 32, .inl mf)), (d0, .inl (E.2.1, 32, .inl df)), (x0, .inl (E.2.1, 112, .inl xf)), (h0, .inr (4, [.ref a1, .ref a2])), (a1, .inl (E.2.2.1, 8, .inl st)), (a2, .inl (E.2.2.1, 64, .inl wv)), (c0, .inr (0, [.int (nI bo), .int (nI bh)])), (w0, .inr (2, [.ref q0, .int (nI x.length)])), (q0, .inl (E.2.1, 80, .inl sf))] (runP E u0 e0 eb es s0 m0 d0 x0 h0 a1 a2 c0 w0 q0 x.length mf sf R0) := by
  refine CtI.of (by decide) (Nat.le_of_ble_eq_true rfl) (runP_nar) ?_
  intro p e s m args below meth c A Q H locs ls C hP hD hS hl kret
  have hx := C.1
  have hb := C.2.1
  have hl : lv_has ls 6 [(0, .ref u0), (1, .ref w0), (2, .int ht)] := hl
  refine lv_aload_n hx hb d_Run_runScript_0 rfl (lv_at hl 0 rfl) ?_
  refine n_get C fg_Run_33 hP 0 rfl rfl d_Run_runScript_1 ?_
  refine cal_V (As := []) (rest := []) C lk_Run_37 (c_Br_clear l E c0 bo bh) (by decide) hP hD hS 11 0 rfl rfl [11] rfl (by decide) hl.1 rfl (Nat.le_of_ble_eq_true rfl) d_Run_runScript_4 (fun w1 H locs hp2 hP hD hS => ?_)
  obtain rfl := hp2
  have hP : va_P E.1 clz [(u0, .inr (3, [.ref e0, .ref s0, .ref h0, .ref c0])), (e0, .inr (1, [.ref eb, .ref es, .int (nI S.length)])), (eb, .inl (E.2.1, 1920, .inl f)), (es, .inl (E.2.2.1, 24, .inl sz)), (s0, .inr (5, [.ref m0, .ref d0, .ref h0, .ref x0])), (m0, .inl (E.2.1, 32, .inl mf)), (d0, .inl (E.2.1, 32, .inl df)), (x0, .inl (E.2.1, 112, .inl xf)), (h0, .inr (4, [.ref a1, .ref a2])), (a1, .inl (E.2.2.1, 8, .inl st)), (a2, .inl (E.2.2.1, 64, .inl wv)), (c0, .inr (0, [.int (nI 0), .int (nI 0)])), (w0, .inr (2, [.ref q0, .int (nI x.length)])), (q0, .inl (E.2.1, 80, .inl sf))] H := hP
  have hD : va_D A [(u0, .inr (3, [.ref e0, .ref s0, .ref h0, .ref c0])), (e0, .inr (1, [.ref eb, .ref es, .int (nI S.length)])), (eb, .inl (E.2.1, 1920, .inl f)), (es, .inl (E.2.2.1, 24, .inl sz)), (s0, .inr (5, [.ref m0, .ref d0, .ref h0, .ref x0])), (m0, .inl (E.2.1, 32, .inl mf)), (d0, .inl (E.2.1, 32, .inl df)), (x0, .inl (E.2.1, 112, .inl xf)), (h0, .inr (4, [.ref a1, .ref a2])), (a1, .inl (E.2.2.1, 8, .inl st)), (a2, .inl (E.2.2.1, 64, .inl wv)), (c0, .inr (0, [.int (nI 0), .int (nI 0)])), (w0, .inr (2, [.ref q0, .int (nI x.length)])), (q0, .inl (E.2.1, 80, .inl sf))] := hD
  refine lv_iconst (v := nI 1) hx hb d_Run_runScript_7 (by decide) ?_
  refine lv_istore_n (lv' := [(3, .int (nI 1)), (0, .ref u0), (1, .ref w0), (2, .int ht)]) hx hb d_Run_runScript_8 rfl hl (by decide) rfl (fun ls hl => ?_)
  refine lv_iconst (v := nI 0) hx hb d_Run_runScript_9 (by decide) ?_
  refine lv_istore (lv' := [(4, .int (nI 0)), (3, .int (nI 1)), (0, .ref u0), (1, .ref w0), (2, .int ht)]) hx hb d_Run_runScript_10 hl (by decide) rfl (fun ls hl => ?_)
  have hloop12 : ∀ (dd : Nat) (dz : Nat) (p9 : Nat) (bs : List Bool) (S : Stk) (f : Nat → Int32) (sz : Nat → Int32) (df : Nat → Int32) (xf : Nat → Int32) (st : Nat → Int32) (wv : Nat → Int32) (H : Heap) (locs : List Loc) (ls : Array Slot), dz < dd → (x.length - p9 ≤ dz) → (p9 ≤ x.length) → (execS x ht msg (dz + 1) p9 bs S = R0) → (rep f sz S) → (fB f) → (S.length ≤ 24) → (bs.length ≤ p9) → va_P E.1 clz [(u0, .inr (3, [.ref e0, .ref s0, .ref h0, .ref c0])), (e0, .inr (1, [.ref eb, .ref es, .int (nI S.length)])), (eb, .inl (E.2.1, 1920, .inl f)), (es, .inl (E.2.2.1, 24, .inl sz)), (s0, .inr (5, [.ref m0, .ref d0, .ref h0, .ref x0])), (m0, .inl (E.2.1, 32, .inl mf)), (d0, .inl (E.2.1, 32, .inl df)), (x0, .inl (E.2.1, 112, .inl xf)), (h0, .inr (4, [.ref a1, .ref a2])), (a1, .inl (E.2.2.1, 8, .inl st)), (a2, .inl (E.2.2.1, 64, .inl wv)), (c0, .inr (0, [.int (nI bs.length), .int (nI (shutS bs))])), (w0, .inr (2, [.ref q0, .int (nI x.length)])), (q0, .inl (E.2.1, 80, .inl sf))] H → va_D A [(u0, .inr (3, [.ref e0, .ref s0, .ref h0, .ref c0])), (e0, .inr (1, [.ref eb, .ref es, .int (nI S.length)])), (eb, .inl (E.2.1, 1920, .inl f)), (es, .inl (E.2.2.1, 24, .inl sz)), (s0, .inr (5, [.ref m0, .ref d0, .ref h0, .ref x0])), (m0, .inl (E.2.1, 32, .inl mf)), (d0, .inl (E.2.1, 32, .inl df)), (x0, .inl (E.2.1, 112, .inl xf)), (h0, .inr (4, [.ref a1, .ref a2])), (a1, .inl (E.2.2.1, 8, .inl st)), (a2, .inl (E.2.2.1, 64, .inl wv)), (c0, .inr (0, [.int (nI bs.length), .int (nI (shutS bs))])), (w0, .inr (2, [.ref q0, .int (nI x.length)])), (q0, .inl (E.2.1, 80, .inl sf))] → va_S A s.heap H locs → lv_has ls 6 [(4, .int (nI p9)), (3, .int (nI 1)), (2, .int ht), (1, .ref w0), (0, .ref u0)] → W p l e (rmd 6) s m args below meth c H locs 0 0 Q (F0 m 12 ls []) := by
    intro dd
    induction dd with
    | zero => intro dz p9 bs S f sz df xf st wv H locs ls hmz; exact absurd hmz (Nat.not_lt_zero _)
    | succ dd ih12 =>
      intro dz p9 bs S f sz df xf st wv H locs ls hmz hfu hp9 hR hrep hB hlen hbs hP hD hS hl
      refine lv_iload_n hx hb d_Run_runScript_12 rfl (lv_at hl 1 rfl) ?_
      refine z_eq C 1 rfl (by omega) d_Run_runScript_13 rfl (fun hc3 => absurd hc3 (by omega)) (fun hc3 => ?_)
      refine lv_iload hx hb d_Run_runScript_16 (lv_at hl 0 rfl) ?_
      refine lv_aload_n hx hb d_Run_runScript_18 rfl (lv_at hl 3 rfl) ?_
      refine n_get C fg_Run_40 hP 12 rfl rfl d_Run_runScript_19 ?_
      refine j_ge C p9 x.length rfl rfl (by omega) (by omega) d_Run_runScript_22 rfl (fun hc4 => ?_) (fun hc4 => ?_)
      · refine lv_iload_n hx hb d_Run_runScript_149 rfl (lv_at hl 1 rfl) ?_
        refine z_eq C 1 rfl (by omega) d_Run_runScript_150 rfl (fun hc5 => absurd hc5 (by omega)) (fun hc5 => ?_)
        refine lv_aload_n hx hb d_Run_runScript_153 rfl (lv_at hl 4 rfl) ?_
        refine n_get C fg_Run_33 hP 0 rfl rfl d_Run_runScript_154 ?_
        refine cal_I (As := []) (rest := []) C lk_Run_66 (c_Br_allEnded l E c0 bs.length (shutS bs) (by omega)) (by decide) hP hD hS 11 0 rfl rfl [11] rfl (by decide) hl.1 rfl (Nat.le_of_ble_eq_true rfl) d_Run_runScript_157 (fun r6 w1 H locs hp7 hP hD hS => ?_)
        obtain ⟨rfl, rfl⟩ := hp7
        have hP : va_P E.1 clz [(u0, .inr (3, [.ref e0, .ref s0, .ref h0, .ref c0])), (e0, .inr (1, [.ref eb, .ref es, .int (nI S.length)])), (eb, .inl (E.2.1, 1920, .inl f)), (es, .inl (E.2.2.1, 24, .inl sz)), (s0, .inr (5, [.ref m0, .ref d0, .ref h0, .ref x0])), (m0, .inl (E.2.1, 32, .inl mf)), (d0, .inl (E.2.1, 32, .inl df)), (x0, .inl (E.2.1, 112, .inl xf)), (h0, .inr (4, [.ref a1, .ref a2])), (a1, .inl (E.2.2.1, 8, .inl st)), (a2, .inl (E.2.2.1, 64, .inl wv)), (c0, .inr (0, [.int (nI bs.length), .int (nI (shutS bs))])), (w0, .inr (2, [.ref q0, .int (nI x.length)])), (q0, .inl (E.2.1, 80, .inl sf))] H := hP
        have hD : va_D A [(u0, .inr (3, [.ref e0, .ref s0, .ref h0, .ref c0])), (e0, .inr (1, [.ref eb, .ref es, .int (nI S.length)])), (eb, .inl (E.2.1, 1920, .inl f)), (es, .inl (E.2.2.1, 24, .inl sz)), (s0, .inr (5, [.ref m0, .ref d0, .ref h0, .ref x0])), (m0, .inl (E.2.1, 32, .inl mf)), (d0, .inl (E.2.1, 32, .inl df)), (x0, .inl (E.2.1, 112, .inl xf)), (h0, .inr (4, [.ref a1, .ref a2])), (a1, .inl (E.2.2.1, 8, .inl st)), (a2, .inl (E.2.2.1, 64, .inl wv)), (c0, .inr (0, [.int (nI bs.length), .int (nI (shutS bs))])), (w0, .inr (2, [.ref q0, .int (nI x.length)])), (q0, .inl (E.2.1, 80, .inl sf))] := hD
        refine zb_eq C (decide (bs.length = 0)) rfl d_Run_runScript_160 rfl (fun hc8 => ?_) (fun hc8 => ?_)
        · refine lv_iconst (v := nI 0) hx hb d_Run_runScript_167 (by decide) ?_
          exact kret (nI 0) [(u0, .inr (3, [.ref e0, .ref s0, .ref h0, .ref c0])), (e0, .inr (1, [.ref eb, .ref es, .int (nI S.length)])), (eb, .inl (E.2.1, 1920, .inl f)), (es, .inl (E.2.2.1, 24, .inl sz)), (s0, .inr (5, [.ref m0, .ref d0, .ref h0, .ref x0])), (m0, .inl (E.2.1, 32, .inl mf)), (d0, .inl (E.2.1, 32, .inl df)), (x0, .inl (E.2.1, 112, .inl xf)), (h0, .inr (4, [.ref a1, .ref a2])), (a1, .inl (E.2.2.1, 8, .inl st)), (a2, .inl (E.2.2.1, 64, .inl wv)), (c0, .inr (0, [.int (nI bs.length), .int (nI (shutS bs))])), (w0, .inr (2, [.ref q0, .int (nI x.length)])), (q0, .inl (E.2.1, 80, .inl sf))] _ _ _ _ d_Run_runScript_168 (⟨_, _, _, _, _, _, _, _, _, rfl, hB, Or.inr ⟨hR.symm.trans ((ex_end (by omega)).trans (if_neg (fun q => by rw [q] at hc8; exact absurd hc8 (by decide)))), rfl⟩⟩) rfl hP hS
        · refine lv_iconst (v := nI 1) hx hb d_Run_runScript_163 (by decide) ?_
          refine lv_goto hx hb d_Run_runScript_164 rfl ?_
          exact kret (nI 1) [(u0, .inr (3, [.ref e0, .ref s0, .ref h0, .ref c0])), (e0, .inr (1, [.ref eb, .ref es, .int (nI S.length)])), (eb, .inl (E.2.1, 1920, .inl f)), (es, .inl (E.2.2.1, 24, .inl sz)), (s0, .inr (5, [.ref m0, .ref d0, .ref h0, .ref x0])), (m0, .inl (E.2.1, 32, .inl mf)), (d0, .inl (E.2.1, 32, .inl df)), (x0, .inl (E.2.1, 112, .inl xf)), (h0, .inr (4, [.ref a1, .ref a2])), (a1, .inl (E.2.2.1, 8, .inl st)), (a2, .inl (E.2.2.1, 64, .inl wv)), (c0, .inr (0, [.int (nI bs.length), .int (nI (shutS bs))])), (w0, .inr (2, [.ref q0, .int (nI x.length)])), (q0, .inl (E.2.1, 80, .inl sf))] _ _ _ _ d_Run_runScript_168 (⟨_, _, _, _, _, _, _, _, _, rfl, hB, Or.inl ⟨S, hR.symm.trans ((ex_end (by omega)).trans (if_pos (List.length_eq_zero_iff.mp (of_decide_eq_true hc8)))), rfl, rfl, hrep, hlen⟩⟩) rfl hP hS
      · obtain ⟨dy, rfl⟩ : ∃ dy, dz = dy + 1 := ⟨dz - 1, by omega⟩
        have hbl := shutS_le bs
        refine lv_aload_n hx hb d_Run_runScript_25 rfl (lv_at hl 3 rfl) ?_
        refine n_get C fg_Run_46 hP 12 rfl rfl d_Run_runScript_26 ?_
        refine lv_iload hx hb d_Run_runScript_29 (lv_at hl 0 rfl) ?_
        refine n_bald C hP 13 rfl p9 rfl (by omega) (by omega) d_Run_runScript_31 ?_
        refine lv_sipush (v := nI 255) hx hb d_Run_runScript_32 (by decide) ?_
        refine lv_iand hx hb d_Run_runScript_35 ?_
        obtain ⟨op, hop, hop2⟩ : ∃ op, byN (x.getD p9 0) = op ∧ op < 256 := ⟨_, rfl, (and255 _).2⟩
        refine tope (z := nI op) (by have e9 := hls p9 (by omega); rw [Nat.zero_add] at e9; rw [e9, (and255 _).1, hop]) ?_
        refine lv_istore (lv' := [(5, .int (nI op)), (4, .int (nI p9)), (3, .int (nI 1)), (2, .int ht), (1, .ref w0), (0, .ref u0)]) hx hb d_Run_runScript_36 hl (by decide) rfl (fun ls hl => ?_)
        refine lv_iinc (k := 1) (v := nI (p9 + 1)) (lv' := [(4, .int (nI (p9 + 1))), (5, .int (nI op)), (3, .int (nI 1)), (2, .int ht), (1, .ref w0), (0, .ref u0)]) hx hb d_Run_runScript_38 hl rfl (iincK p9 1) (by decide) rfl (fun ls hl => ?_)
        refine lv_iload hx hb d_Run_runScript_41 (lv_at hl 1 rfl) ?_
        refine lv_bipush (v := nI 75) hx hb d_Run_runScript_43 (by decide) ?_
        refine j_gt C op 75 rfl rfl (by omega) (by omega) d_Run_runScript_45 rfl (fun hc9 => ?_) (fun hc9 => ?_)
        · refine lv_iload hx hb d_Run_runScript_104 (lv_at hl 1 rfl) ?_
          refine lv_bipush (v := nI 97) hx hb d_Run_runScript_106 (by decide) ?_
          refine j_lt C op 97 rfl rfl (by omega) (by omega) d_Run_runScript_108 rfl (fun hc10 => ?_) (fun hc10 => ?_)
          · refine lv_aload_n hx hb d_Run_runScript_128 rfl (lv_at hl 5 rfl) ?_
            refine n_get C fg_Run_33 hP 0 rfl rfl d_Run_runScript_129 ?_
            refine cal_I (As := []) (rest := []) C lk_Run_50 (c_Br_isDone l E c0 bs.length (shutS bs) (by first | omega | exact Nat.lt_of_le_of_lt (shutS_le _) (by first | omega | (simp only [List.length_cons]; omega)))) (by decide) hP hD hS 11 0 rfl rfl [11] rfl (by decide) hl.1 rfl (Nat.le_of_ble_eq_true rfl) d_Run_runScript_132 (fun r11 w1 H locs hp12 hP hD hS => ?_)
            obtain ⟨rfl, rfl⟩ := hp12
            have hP : va_P E.1 clz [(u0, .inr (3, [.ref e0, .ref s0, .ref h0, .ref c0])), (e0, .inr (1, [.ref eb, .ref es, .int (nI S.length)])), (eb, .inl (E.2.1, 1920, .inl f)), (es, .inl (E.2.2.1, 24, .inl sz)), (s0, .inr (5, [.ref m0, .ref d0, .ref h0, .ref x0])), (m0, .inl (E.2.1, 32, .inl mf)), (d0, .inl (E.2.1, 32, .inl df)), (x0, .inl (E.2.1, 112, .inl xf)), (h0, .inr (4, [.ref a1, .ref a2])), (a1, .inl (E.2.2.1, 8, .inl st)), (a2, .inl (E.2.2.1, 64, .inl wv)), (c0, .inr (0, [.int (nI bs.length), .int (nI (shutS bs))])), (w0, .inr (2, [.ref q0, .int (nI x.length)])), (q0, .inl (E.2.1, 80, .inl sf))] H := hP
            have hD : va_D A [(u0, .inr (3, [.ref e0, .ref s0, .ref h0, .ref c0])), (e0, .inr (1, [.ref eb, .ref es, .int (nI S.length)])), (eb, .inl (E.2.1, 1920, .inl f)), (es, .inl (E.2.2.1, 24, .inl sz)), (s0, .inr (5, [.ref m0, .ref d0, .ref h0, .ref x0])), (m0, .inl (E.2.1, 32, .inl mf)), (d0, .inl (E.2.1, 32, .inl df)), (x0, .inl (E.2.1, 112, .inl xf)), (h0, .inr (4, [.ref a1, .ref a2])), (a1, .inl (E.2.2.1, 8, .inl st)), (a2, .inl (E.2.2.1, 64, .inl wv)), (c0, .inr (0, [.int (nI bs.length), .int (nI (shutS bs))])), (w0, .inr (2, [.ref q0, .int (nI x.length)])), (q0, .inl (E.2.1, 80, .inl sf))] := hD
            refine zb_eq C (decide (shutS bs = 0)) rfl d_Run_runScript_135 rfl (fun hc13 => ?_) (fun hc13 => ?_)
            · refine lv_goto hx hb d_Run_runScript_146 rfl ?_
              exact ih12 dy (p9 + 1) bs S f sz df xf st wv H locs ls (by omega) (by omega) (by omega) ((ex_pass (by omega) hop (by omega) (by omega) (of_decide_eq_false hc13)).symm.trans hR) (hrep) (hB) (hlen) (by omega) hP hD hS (lv_sub hl [0, 2, 3, 4, 5] rfl)
            · refine lv_aload_n hx hb d_Run_runScript_138 rfl (lv_at hl 5 rfl) ?_
              refine lv_iload hx hb d_Run_runScript_139 (lv_at hl 1 rfl) ?_
              refine lv_iload_n hx hb d_Run_runScript_141 rfl (lv_at hl 3 rfl) ?_
              refine cal_I (As := [.int (nI op), .int ht]) (rest := []) C lk_Run_62 (c_Run_perform l E u0 e0 eb es s0 m0 d0 x0 h0 a1 a2 c0 bs.length (shutS bs) mf f sz df xf st wv S msg hrep hB hBm hlen hm hm32 ht op hop2) (by decide) hP hD hS 0 3 rfl rfl [0, 1, 2, 3, 4, 5, 6, 7, 8, 9, 10, 11] rfl (by decide) hl.1 rfl (Nat.le_of_ble_eq_true rfl) d_Run_runScript_142 (fun r24 w1 H locs hp25 hP hD hS => ?_)
              obtain ⟨n14, f15, z16, d17, x18, s19, v20, rfl, hB22, hO21⟩ := hp25
              have hP : va_P E.1 clz [(u0, .inr (3, [.ref e0, .ref s0, .ref h0, .ref c0])), (e0, .inr (1, [.ref eb, .ref es, .int (nI n14)])), (eb, .inl (E.2.1, 1920, .inl f15)), (es, .inl (E.2.2.1, 24, .inl z16)), (s0, .inr (5, [.ref m0, .ref d0, .ref h0, .ref x0])), (m0, .inl (E.2.1, 32, .inl mf)), (d0, .inl (E.2.1, 32, .inl d17)), (x0, .inl (E.2.1, 112, .inl x18)), (h0, .inr (4, [.ref a1, .ref a2])), (a1, .inl (E.2.2.1, 8, .inl s19)), (a2, .inl (E.2.2.1, 64, .inl v20)), (c0, .inr (0, [.int (nI bs.length), .int (nI (shutS bs))])), (w0, .inr (2, [.ref q0, .int (nI x.length)])), (q0, .inl (E.2.1, 80, .inl sf))] H := hP
              have hD : va_D A [(u0, .inr (3, [.ref e0, .ref s0, .ref h0, .ref c0])), (e0, .inr (1, [.ref eb, .ref es, .int (nI n14)])), (eb, .inl (E.2.1, 1920, .inl f15)), (es, .inl (E.2.2.1, 24, .inl z16)), (s0, .inr (5, [.ref m0, .ref d0, .ref h0, .ref x0])), (m0, .inl (E.2.1, 32, .inl mf)), (d0, .inl (E.2.1, 32, .inl d17)), (x0, .inl (E.2.1, 112, .inl x18)), (h0, .inr (4, [.ref a1, .ref a2])), (a1, .inl (E.2.2.1, 8, .inl s19)), (a2, .inl (E.2.2.1, 64, .inl v20)), (c0, .inr (0, [.int (nI bs.length), .int (nI (shutS bs))])), (w0, .inr (2, [.ref q0, .int (nI x.length)])), (q0, .inl (E.2.1, 80, .inl sf))] := hD
              rcases hO21 with ⟨St23, hac9, rfl, rfl, hrep9, hlen9⟩ | ⟨hac9, rfl⟩
              · have hP : va_P E.1 clz [(u0, .inr (3, [.ref e0, .ref s0, .ref h0, .ref c0])), (e0, .inr (1, [.ref eb, .ref es, .int (nI St23.length)])), (eb, .inl (E.2.1, 1920, .inl f15)), (es, .inl (E.2.2.1, 24, .inl z16)), (s0, .inr (5, [.ref m0, .ref d0, .ref h0, .ref x0])), (m0, .inl (E.2.1, 32, .inl mf)), (d0, .inl (E.2.1, 32, .inl d17)), (x0, .inl (E.2.1, 112, .inl x18)), (h0, .inr (4, [.ref a1, .ref a2])), (a1, .inl (E.2.2.1, 8, .inl s19)), (a2, .inl (E.2.2.1, 64, .inl v20)), (c0, .inr (0, [.int (nI bs.length), .int (nI (shutS bs))])), (w0, .inr (2, [.ref q0, .int (nI x.length)])), (q0, .inl (E.2.1, 80, .inl sf))] H := hP
                have hD : va_D A [(u0, .inr (3, [.ref e0, .ref s0, .ref h0, .ref c0])), (e0, .inr (1, [.ref eb, .ref es, .int (nI St23.length)])), (eb, .inl (E.2.1, 1920, .inl f15)), (es, .inl (E.2.2.1, 24, .inl z16)), (s0, .inr (5, [.ref m0, .ref d0, .ref h0, .ref x0])), (m0, .inl (E.2.1, 32, .inl mf)), (d0, .inl (E.2.1, 32, .inl d17)), (x0, .inl (E.2.1, 112, .inl x18)), (h0, .inr (4, [.ref a1, .ref a2])), (a1, .inl (E.2.2.1, 8, .inl s19)), (a2, .inl (E.2.2.1, 64, .inl v20)), (c0, .inr (0, [.int (nI bs.length), .int (nI (shutS bs))])), (w0, .inr (2, [.ref q0, .int (nI x.length)])), (q0, .inl (E.2.1, 80, .inl sf))] := hD
                refine lv_istore_n (lv' := [(3, .int (b2 true)), (4, .int (nI (p9 + 1))), (5, .int (nI op)), (2, .int ht), (1, .ref w0), (0, .ref u0)]) hx hb d_Run_runScript_145 rfl hl (by decide) rfl (fun ls hl => ?_)
                refine lv_goto hx hb d_Run_runScript_146 rfl ?_
                exact ih12 dy (p9 + 1) bs St23 f15 z16 d17 x18 s19 v20 H locs ls (by omega) (by omega) (by omega) ((ex_act_s (by omega) hop (by omega) (by omega) (of_decide_eq_true hc13) hac9).symm.trans hR) (hrep9) (hB22) (hlen9) (by omega) hP hD hS (lv_sub hl [1, 0, 3, 4, 5] rfl)
              · refine lv_istore_n (lv' := [(3, .int (b2 false)), (4, .int (nI (p9 + 1))), (5, .int (nI op)), (2, .int ht), (1, .ref w0), (0, .ref u0)]) hx hb d_Run_runScript_145 rfl hl (by decide) rfl (fun ls hl => ?_)
                refine lv_goto hx hb d_Run_runScript_146 rfl ?_
                refine lv_iload_n hx hb d_Run_runScript_12 rfl (lv_at hl 0 rfl) ?_
                refine zb_eq C false rfl d_Run_runScript_13 rfl (fun hc26 => ?_) (fun hc26 => absurd hc26 (by simp_all))
                refine lv_iload_n hx hb d_Run_runScript_149 rfl (lv_at hl 0 rfl) ?_
                refine zb_eq C false rfl d_Run_runScript_150 rfl (fun hc27 => ?_) (fun hc27 => absurd hc27 (by simp_all))
                refine lv_iconst (v := nI 0) hx hb d_Run_runScript_167 (by decide) ?_
                exact kret (nI 0) [(u0, .inr (3, [.ref e0, .ref s0, .ref h0, .ref c0])), (e0, .inr (1, [.ref eb, .ref es, .int (nI n14)])), (eb, .inl (E.2.1, 1920, .inl f15)), (es, .inl (E.2.2.1, 24, .inl z16)), (s0, .inr (5, [.ref m0, .ref d0, .ref h0, .ref x0])), (m0, .inl (E.2.1, 32, .inl mf)), (d0, .inl (E.2.1, 32, .inl d17)), (x0, .inl (E.2.1, 112, .inl x18)), (h0, .inr (4, [.ref a1, .ref a2])), (a1, .inl (E.2.2.1, 8, .inl s19)), (a2, .inl (E.2.2.1, 64, .inl v20)), (c0, .inr (0, [.int (nI bs.length), .int (nI (shutS bs))])), (w0, .inr (2, [.ref q0, .int (nI x.length)])), (q0, .inl (E.2.1, 80, .inl sf))] _ _ _ _ d_Run_runScript_168 (⟨_, _, _, _, _, _, _, _, _, rfl, hB22, Or.inr ⟨hR.symm.trans (ex_act_n (by omega) hop (by omega) (by omega) (of_decide_eq_true hc13) hac9), rfl⟩⟩) rfl hP hS
          · refine lv_iload hx hb d_Run_runScript_111 (lv_at hl 1 rfl) ?_
            refine lv_bipush (v := nI 100) hx hb d_Run_runScript_113 (by decide) ?_
            refine j_gt C op 100 rfl rfl (by omega) (by omega) d_Run_runScript_115 rfl (fun hc28 => ?_) (fun hc28 => ?_)
            · refine lv_aload_n hx hb d_Run_runScript_128 rfl (lv_at hl 5 rfl) ?_
              refine n_get C fg_Run_33 hP 0 rfl rfl d_Run_runScript_129 ?_
              refine cal_I (As := []) (rest := []) C lk_Run_50 (c_Br_isDone l E c0 bs.length (shutS bs) (by first | omega | exact Nat.lt_of_le_of_lt (shutS_le _) (by first | omega | (simp only [List.length_cons]; omega)))) (by decide) hP hD hS 11 0 rfl rfl [11] rfl (by decide) hl.1 rfl (Nat.le_of_ble_eq_true rfl) d_Run_runScript_132 (fun r29 w1 H locs hp30 hP hD hS => ?_)
              obtain ⟨rfl, rfl⟩ := hp30
              have hP : va_P E.1 clz [(u0, .inr (3, [.ref e0, .ref s0, .ref h0, .ref c0])), (e0, .inr (1, [.ref eb, .ref es, .int (nI S.length)])), (eb, .inl (E.2.1, 1920, .inl f)), (es, .inl (E.2.2.1, 24, .inl sz)), (s0, .inr (5, [.ref m0, .ref d0, .ref h0, .ref x0])), (m0, .inl (E.2.1, 32, .inl mf)), (d0, .inl (E.2.1, 32, .inl df)), (x0, .inl (E.2.1, 112, .inl xf)), (h0, .inr (4, [.ref a1, .ref a2])), (a1, .inl (E.2.2.1, 8, .inl st)), (a2, .inl (E.2.2.1, 64, .inl wv)), (c0, .inr (0, [.int (nI bs.length), .int (nI (shutS bs))])), (w0, .inr (2, [.ref q0, .int (nI x.length)])), (q0, .inl (E.2.1, 80, .inl sf))] H := hP
              have hD : va_D A [(u0, .inr (3, [.ref e0, .ref s0, .ref h0, .ref c0])), (e0, .inr (1, [.ref eb, .ref es, .int (nI S.length)])), (eb, .inl (E.2.1, 1920, .inl f)), (es, .inl (E.2.2.1, 24, .inl sz)), (s0, .inr (5, [.ref m0, .ref d0, .ref h0, .ref x0])), (m0, .inl (E.2.1, 32, .inl mf)), (d0, .inl (E.2.1, 32, .inl df)), (x0, .inl (E.2.1, 112, .inl xf)), (h0, .inr (4, [.ref a1, .ref a2])), (a1, .inl (E.2.2.1, 8, .inl st)), (a2, .inl (E.2.2.1, 64, .inl wv)), (c0, .inr (0, [.int (nI bs.length), .int (nI (shutS bs))])), (w0, .inr (2, [.ref q0, .int (nI x.length)])), (q0, .inl (E.2.1, 80, .inl sf))] := hD
              refine zb_eq C (decide (shutS bs = 0)) rfl d_Run_runScript_135 rfl (fun hc31 => ?_) (fun hc31 => ?_)
              · refine lv_goto hx hb d_Run_runScript_146 rfl ?_
                exact ih12 dy (p9 + 1) bs S f sz df xf st wv H locs ls (by omega) (by omega) (by omega) ((ex_pass (by omega) hop (by omega) (by omega) (of_decide_eq_false hc31)).symm.trans hR) (hrep) (hB) (hlen) (by omega) hP hD hS (lv_sub hl [0, 2, 3, 4, 5] rfl)
              · refine lv_aload_n hx hb d_Run_runScript_138 rfl (lv_at hl 5 rfl) ?_
                refine lv_iload hx hb d_Run_runScript_139 (lv_at hl 1 rfl) ?_
                refine lv_iload_n hx hb d_Run_runScript_141 rfl (lv_at hl 3 rfl) ?_
                refine cal_I (As := [.int (nI op), .int ht]) (rest := []) C lk_Run_62 (c_Run_perform l E u0 e0 eb es s0 m0 d0 x0 h0 a1 a2 c0 bs.length (shutS bs) mf f sz df xf st wv S msg hrep hB hBm hlen hm hm32 ht op hop2) (by decide) hP hD hS 0 3 rfl rfl [0, 1, 2, 3, 4, 5, 6, 7, 8, 9, 10, 11] rfl (by decide) hl.1 rfl (Nat.le_of_ble_eq_true rfl) d_Run_runScript_142 (fun r42 w1 H locs hp43 hP hD hS => ?_)
                obtain ⟨n32, f33, z34, d35, x36, s37, v38, rfl, hB40, hO39⟩ := hp43
                have hP : va_P E.1 clz [(u0, .inr (3, [.ref e0, .ref s0, .ref h0, .ref c0])), (e0, .inr (1, [.ref eb, .ref es, .int (nI n32)])), (eb, .inl (E.2.1, 1920, .inl f33)), (es, .inl (E.2.2.1, 24, .inl z34)), (s0, .inr (5, [.ref m0, .ref d0, .ref h0, .ref x0])), (m0, .inl (E.2.1, 32, .inl mf)), (d0, .inl (E.2.1, 32, .inl d35)), (x0, .inl (E.2.1, 112, .inl x36)), (h0, .inr (4, [.ref a1, .ref a2])), (a1, .inl (E.2.2.1, 8, .inl s37)), (a2, .inl (E.2.2.1, 64, .inl v38)), (c0, .inr (0, [.int (nI bs.length), .int (nI (shutS bs))])), (w0, .inr (2, [.ref q0, .int (nI x.length)])), (q0, .inl (E.2.1, 80, .inl sf))] H := hP
                have hD : va_D A [(u0, .inr (3, [.ref e0, .ref s0, .ref h0, .ref c0])), (e0, .inr (1, [.ref eb, .ref es, .int (nI n32)])), (eb, .inl (E.2.1, 1920, .inl f33)), (es, .inl (E.2.2.1, 24, .inl z34)), (s0, .inr (5, [.ref m0, .ref d0, .ref h0, .ref x0])), (m0, .inl (E.2.1, 32, .inl mf)), (d0, .inl (E.2.1, 32, .inl d35)), (x0, .inl (E.2.1, 112, .inl x36)), (h0, .inr (4, [.ref a1, .ref a2])), (a1, .inl (E.2.2.1, 8, .inl s37)), (a2, .inl (E.2.2.1, 64, .inl v38)), (c0, .inr (0, [.int (nI bs.length), .int (nI (shutS bs))])), (w0, .inr (2, [.ref q0, .int (nI x.length)])), (q0, .inl (E.2.1, 80, .inl sf))] := hD
                rcases hO39 with ⟨St41, hac9, rfl, rfl, hrep9, hlen9⟩ | ⟨hac9, rfl⟩
                · have hP : va_P E.1 clz [(u0, .inr (3, [.ref e0, .ref s0, .ref h0, .ref c0])), (e0, .inr (1, [.ref eb, .ref es, .int (nI St41.length)])), (eb, .inl (E.2.1, 1920, .inl f33)), (es, .inl (E.2.2.1, 24, .inl z34)), (s0, .inr (5, [.ref m0, .ref d0, .ref h0, .ref x0])), (m0, .inl (E.2.1, 32, .inl mf)), (d0, .inl (E.2.1, 32, .inl d35)), (x0, .inl (E.2.1, 112, .inl x36)), (h0, .inr (4, [.ref a1, .ref a2])), (a1, .inl (E.2.2.1, 8, .inl s37)), (a2, .inl (E.2.2.1, 64, .inl v38)), (c0, .inr (0, [.int (nI bs.length), .int (nI (shutS bs))])), (w0, .inr (2, [.ref q0, .int (nI x.length)])), (q0, .inl (E.2.1, 80, .inl sf))] H := hP
                  have hD : va_D A [(u0, .inr (3, [.ref e0, .ref s0, .ref h0, .ref c0])), (e0, .inr (1, [.ref eb, .ref es, .int (nI St41.length)])), (eb, .inl (E.2.1, 1920, .inl f33)), (es, .inl (E.2.2.1, 24, .inl z34)), (s0, .inr (5, [.ref m0, .ref d0, .ref h0, .ref x0])), (m0, .inl (E.2.1, 32, .inl mf)), (d0, .inl (E.2.1, 32, .inl d35)), (x0, .inl (E.2.1, 112, .inl x36)), (h0, .inr (4, [.ref a1, .ref a2])), (a1, .inl (E.2.2.1, 8, .inl s37)), (a2, .inl (E.2.2.1, 64, .inl v38)), (c0, .inr (0, [.int (nI bs.length), .int (nI (shutS bs))])), (w0, .inr (2, [.ref q0, .int (nI x.length)])), (q0, .inl (E.2.1, 80, .inl sf))] := hD
                  refine lv_istore_n (lv' := [(3, .int (b2 true)), (4, .int (nI (p9 + 1))), (5, .int (nI op)), (2, .int ht), (1, .ref w0), (0, .ref u0)]) hx hb d_Run_runScript_145 rfl hl (by decide) rfl (fun ls hl => ?_)
                  refine lv_goto hx hb d_Run_runScript_146 rfl ?_
                  exact ih12 dy (p9 + 1) bs St41 f33 z34 d35 x36 s37 v38 H locs ls (by omega) (by omega) (by omega) ((ex_act_s (by omega) hop (by omega) (by omega) (of_decide_eq_true hc31) hac9).symm.trans hR) (hrep9) (hB40) (hlen9) (by omega) hP hD hS (lv_sub hl [1, 0, 3, 4, 5] rfl)
                · refine lv_istore_n (lv' := [(3, .int (b2 false)), (4, .int (nI (p9 + 1))), (5, .int (nI op)), (2, .int ht), (1, .ref w0), (0, .ref u0)]) hx hb d_Run_runScript_145 rfl hl (by decide) rfl (fun ls hl => ?_)
                  refine lv_goto hx hb d_Run_runScript_146 rfl ?_
                  refine lv_iload_n hx hb d_Run_runScript_12 rfl (lv_at hl 0 rfl) ?_
                  refine zb_eq C false rfl d_Run_runScript_13 rfl (fun hc44 => ?_) (fun hc44 => absurd hc44 (by simp_all))
                  refine lv_iload_n hx hb d_Run_runScript_149 rfl (lv_at hl 0 rfl) ?_
                  refine zb_eq C false rfl d_Run_runScript_150 rfl (fun hc45 => ?_) (fun hc45 => absurd hc45 (by simp_all))
                  refine lv_iconst (v := nI 0) hx hb d_Run_runScript_167 (by decide) ?_
                  exact kret (nI 0) [(u0, .inr (3, [.ref e0, .ref s0, .ref h0, .ref c0])), (e0, .inr (1, [.ref eb, .ref es, .int (nI n32)])), (eb, .inl (E.2.1, 1920, .inl f33)), (es, .inl (E.2.2.1, 24, .inl z34)), (s0, .inr (5, [.ref m0, .ref d0, .ref h0, .ref x0])), (m0, .inl (E.2.1, 32, .inl mf)), (d0, .inl (E.2.1, 32, .inl d35)), (x0, .inl (E.2.1, 112, .inl x36)), (h0, .inr (4, [.ref a1, .ref a2])), (a1, .inl (E.2.2.1, 8, .inl s37)), (a2, .inl (E.2.2.1, 64, .inl v38)), (c0, .inr (0, [.int (nI bs.length), .int (nI (shutS bs))])), (w0, .inr (2, [.ref q0, .int (nI x.length)])), (q0, .inl (E.2.1, 80, .inl sf))] _ _ _ _ d_Run_runScript_168 (⟨_, _, _, _, _, _, _, _, _, rfl, hB40, Or.inr ⟨hR.symm.trans (ex_act_n (by omega) hop (by omega) (by omega) (of_decide_eq_true hc31) hac9), rfl⟩⟩) rfl hP hS
            · refine lv_aload_n hx hb d_Run_runScript_118 rfl (lv_at hl 5 rfl) ?_
              refine lv_iload hx hb d_Run_runScript_119 (lv_at hl 1 rfl) ?_
              refine cal_I (As := [.int (nI op)]) (rest := []) C lk_Run_58 (c_Run_branch l E u0 e0 eb es s0 m0 d0 x0 h0 a1 a2 c0 mf f sz df xf st wv S bs hrep hlen (by omega) op (by omega) (by omega)) (by decide) hP hD hS 0 3 rfl rfl [0, 1, 2, 3, 4, 5, 6, 7, 8, 9, 10, 11] rfl (by decide) hl.1 rfl (Nat.le_of_ble_eq_true rfl) d_Run_runScript_121 (fun r52 w1 H locs hp53 hP hD hS => ?_)
              obtain ⟨n46, bo47, bh48, rfl, hO49⟩ := hp53
              have hP : va_P E.1 clz [(u0, .inr (3, [.ref e0, .ref s0, .ref h0, .ref c0])), (e0, .inr (1, [.ref eb, .ref es, .int (nI n46)])), (eb, .inl (E.2.1, 1920, .inl f)), (es, .inl (E.2.2.1, 24, .inl sz)), (s0, .inr (5, [.ref m0, .ref d0, .ref h0, .ref x0])), (m0, .inl (E.2.1, 32, .inl mf)), (d0, .inl (E.2.1, 32, .inl df)), (x0, .inl (E.2.1, 112, .inl xf)), (h0, .inr (4, [.ref a1, .ref a2])), (a1, .inl (E.2.2.1, 8, .inl st)), (a2, .inl (E.2.2.1, 64, .inl wv)), (c0, .inr (0, [.int (nI bo47), .int (nI bh48)])), (w0, .inr (2, [.ref q0, .int (nI x.length)])), (q0, .inl (E.2.1, 80, .inl sf))] H := hP
              have hD : va_D A [(u0, .inr (3, [.ref e0, .ref s0, .ref h0, .ref c0])), (e0, .inr (1, [.ref eb, .ref es, .int (nI n46)])), (eb, .inl (E.2.1, 1920, .inl f)), (es, .inl (E.2.2.1, 24, .inl sz)), (s0, .inr (5, [.ref m0, .ref d0, .ref h0, .ref x0])), (m0, .inl (E.2.1, 32, .inl mf)), (d0, .inl (E.2.1, 32, .inl df)), (x0, .inl (E.2.1, 112, .inl xf)), (h0, .inr (4, [.ref a1, .ref a2])), (a1, .inl (E.2.2.1, 8, .inl st)), (a2, .inl (E.2.2.1, 64, .inl wv)), (c0, .inr (0, [.int (nI bo47), .int (nI bh48)])), (w0, .inr (2, [.ref q0, .int (nI x.length)])), (q0, .inl (E.2.1, 80, .inl sf))] := hD
              rcases hO49 with ⟨bt50, St51, hbr9, rfl, rfl, rfl, rfl, hrep9, hlen9⟩ | ⟨hbr9, rfl⟩
              · have hP : va_P E.1 clz [(u0, .inr (3, [.ref e0, .ref s0, .ref h0, .ref c0])), (e0, .inr (1, [.ref eb, .ref es, .int (nI St51.length)])), (eb, .inl (E.2.1, 1920, .inl f)), (es, .inl (E.2.2.1, 24, .inl sz)), (s0, .inr (5, [.ref m0, .ref d0, .ref h0, .ref x0])), (m0, .inl (E.2.1, 32, .inl mf)), (d0, .inl (E.2.1, 32, .inl df)), (x0, .inl (E.2.1, 112, .inl xf)), (h0, .inr (4, [.ref a1, .ref a2])), (a1, .inl (E.2.2.1, 8, .inl st)), (a2, .inl (E.2.2.1, 64, .inl wv)), (c0, .inr (0, [.int (nI bt50.length), .int (nI (shutS bt50))])), (w0, .inr (2, [.ref q0, .int (nI x.length)])), (q0, .inl (E.2.1, 80, .inl sf))] H := hP
                have hD : va_D A [(u0, .inr (3, [.ref e0, .ref s0, .ref h0, .ref c0])), (e0, .inr (1, [.ref eb, .ref es, .int (nI St51.length)])), (eb, .inl (E.2.1, 1920, .inl f)), (es, .inl (E.2.2.1, 24, .inl sz)), (s0, .inr (5, [.ref m0, .ref d0, .ref h0, .ref x0])), (m0, .inl (E.2.1, 32, .inl mf)), (d0, .inl (E.2.1, 32, .inl df)), (x0, .inl (E.2.1, 112, .inl xf)), (h0, .inr (4, [.ref a1, .ref a2])), (a1, .inl (E.2.2.1, 8, .inl st)), (a2, .inl (E.2.2.1, 64, .inl wv)), (c0, .inr (0, [.int (nI bt50.length), .int (nI (shutS bt50))])), (w0, .inr (2, [.ref q0, .int (nI x.length)])), (q0, .inl (E.2.1, 80, .inl sf))] := hD
                have hbl9 := brS_len hbr9
                refine lv_istore_n (lv' := [(3, .int (b2 true)), (4, .int (nI (p9 + 1))), (5, .int (nI op)), (2, .int ht), (1, .ref w0), (0, .ref u0)]) hx hb d_Run_runScript_124 rfl hl (by decide) rfl (fun ls hl => ?_)
                refine lv_goto hx hb d_Run_runScript_125 rfl ?_
                refine lv_goto hx hb d_Run_runScript_146 rfl ?_
                exact ih12 dy (p9 + 1) bt50 St51 f sz df xf st wv H locs ls (by omega) (by omega) (by omega) ((ex_br_s (by omega) hop (by omega) (by omega) hbr9).symm.trans hR) (hrep9) (hB) (hlen9) (by omega) hP hD hS (lv_sub hl [1, 0, 3, 4, 5] rfl)
              · refine lv_istore_n (lv' := [(3, .int (b2 false)), (4, .int (nI (p9 + 1))), (5, .int (nI op)), (2, .int ht), (1, .ref w0), (0, .ref u0)]) hx hb d_Run_runScript_124 rfl hl (by decide) rfl (fun ls hl => ?_)
                refine lv_goto hx hb d_Run_runScript_125 rfl ?_
                refine lv_goto hx hb d_Run_runScript_146 rfl ?_
                refine lv_iload_n hx hb d_Run_runScript_12 rfl (lv_at hl 0 rfl) ?_
                refine zb_eq C false rfl d_Run_runScript_13 rfl (fun hc54 => ?_) (fun hc54 => absurd hc54 (by simp_all))
                refine lv_iload_n hx hb d_Run_runScript_149 rfl (lv_at hl 0 rfl) ?_
                refine zb_eq C false rfl d_Run_runScript_150 rfl (fun hc55 => ?_) (fun hc55 => absurd hc55 (by simp_all))
                refine lv_iconst (v := nI 0) hx hb d_Run_runScript_167 (by decide) ?_
                exact kret (nI 0) [(u0, .inr (3, [.ref e0, .ref s0, .ref h0, .ref c0])), (e0, .inr (1, [.ref eb, .ref es, .int (nI n46)])), (eb, .inl (E.2.1, 1920, .inl f)), (es, .inl (E.2.2.1, 24, .inl sz)), (s0, .inr (5, [.ref m0, .ref d0, .ref h0, .ref x0])), (m0, .inl (E.2.1, 32, .inl mf)), (d0, .inl (E.2.1, 32, .inl df)), (x0, .inl (E.2.1, 112, .inl xf)), (h0, .inr (4, [.ref a1, .ref a2])), (a1, .inl (E.2.2.1, 8, .inl st)), (a2, .inl (E.2.2.1, 64, .inl wv)), (c0, .inr (0, [.int (nI bo47), .int (nI bh48)])), (w0, .inr (2, [.ref q0, .int (nI x.length)])), (q0, .inl (E.2.1, 80, .inl sf))] _ _ _ _ d_Run_runScript_168 (⟨_, _, _, _, _, _, _, _, _, rfl, hB, Or.inr ⟨hR.symm.trans (ex_br_n (by omega) hop (by omega) (by omega) hbr9), rfl⟩⟩) rfl hP hS
        · refine lv_iload hx hb d_Run_runScript_48 (lv_at hl 1 rfl) ?_
          refine lv_aload_n hx hb d_Run_runScript_50 rfl (lv_at hl 4 rfl) ?_
          refine n_get C fg_Run_40 hP 12 rfl rfl d_Run_runScript_51 ?_
          refine lv_iload hx hb d_Run_runScript_54 (lv_at hl 0 rfl) ?_
          refine lv_isub hx hb d_Run_runScript_56 ?_
          refine tope (z := nI (x.length - (p9 + 1))) (pk_sub (by omega)) ?_
          refine j_gt C op (x.length - (p9 + 1)) rfl rfl (by omega) (by omega) d_Run_runScript_57 rfl (fun hc56 => ?_) (fun hc56 => ?_)
          · refine lv_iconst (v := nI 0) hx hb d_Run_runScript_92 (by decide) ?_
            refine lv_istore_n (lv' := [(3, .int (nI 0)), (4, .int (nI (p9 + 1))), (5, .int (nI op)), (2, .int ht), (1, .ref w0), (0, .ref u0)]) hx hb d_Run_runScript_93 rfl hl (by decide) rfl (fun ls hl => ?_)
            refine lv_iload hx hb d_Run_runScript_94 (lv_at hl 1 rfl) ?_
            refine lv_iload hx hb d_Run_runScript_96 (lv_at hl 2 rfl) ?_
            refine lv_iadd hx hb d_Run_runScript_98 ?_
            refine tope (z := nI ((p9 + 1) + op)) (nI_add _ _) ?_
            refine lv_istore (lv' := [(4, .int (nI ((p9 + 1) + op))), (3, .int (nI 0)), (5, .int (nI op)), (2, .int ht), (1, .ref w0), (0, .ref u0)]) hx hb d_Run_runScript_99 hl (by decide) rfl (fun ls hl => ?_)
            refine lv_goto hx hb d_Run_runScript_101 rfl ?_
            refine lv_goto hx hb d_Run_runScript_146 rfl ?_
            refine lv_iload_n hx hb d_Run_runScript_12 rfl (lv_at hl 1 rfl) ?_
            refine z_eq C 0 rfl (by omega) d_Run_runScript_13 rfl (fun hc57 => ?_) (fun hc57 => absurd hc57 (by omega))
            refine lv_iload_n hx hb d_Run_runScript_149 rfl (lv_at hl 1 rfl) ?_
            refine z_eq C 0 rfl (by omega) d_Run_runScript_150 rfl (fun hc58 => ?_) (fun hc58 => absurd hc58 (by omega))
            refine lv_iconst (v := nI 0) hx hb d_Run_runScript_167 (by decide) ?_
            exact kret (nI 0) [(u0, .inr (3, [.ref e0, .ref s0, .ref h0, .ref c0])), (e0, .inr (1, [.ref eb, .ref es, .int (nI S.length)])), (eb, .inl (E.2.1, 1920, .inl f)), (es, .inl (E.2.2.1, 24, .inl sz)), (s0, .inr (5, [.ref m0, .ref d0, .ref h0, .ref x0])), (m0, .inl (E.2.1, 32, .inl mf)), (d0, .inl (E.2.1, 32, .inl df)), (x0, .inl (E.2.1, 112, .inl xf)), (h0, .inr (4, [.ref a1, .ref a2])), (a1, .inl (E.2.2.1, 8, .inl st)), (a2, .inl (E.2.2.1, 64, .inl wv)), (c0, .inr (0, [.int (nI bs.length), .int (nI (shutS bs))])), (w0, .inr (2, [.ref q0, .int (nI x.length)])), (q0, .inl (E.2.1, 80, .inl sf))] _ _ _ _ d_Run_runScript_168 (⟨_, _, _, _, _, _, _, _, _, rfl, hB, Or.inr ⟨hR.symm.trans (ex_short (by omega) hop (by omega) (by omega)), rfl⟩⟩) rfl hP hS
          · refine lv_aload_n hx hb d_Run_runScript_60 rfl (lv_at hl 5 rfl) ?_
            refine n_get C fg_Run_33 hP 0 rfl rfl d_Run_runScript_61 ?_
            refine cal_I (As := []) (rest := []) C lk_Run_50 (c_Br_isDone l E c0 bs.length (shutS bs) (by first | omega | exact Nat.lt_of_le_of_lt (shutS_le _) (by first | omega | (simp only [List.length_cons]; omega)))) (by decide) hP hD hS 11 0 rfl rfl [11] rfl (by decide) hl.1 rfl (Nat.le_of_ble_eq_true rfl) d_Run_runScript_64 (fun r59 w1 H locs hp60 hP hD hS => ?_)
            obtain ⟨rfl, rfl⟩ := hp60
            have hP : va_P E.1 clz [(u0, .inr (3, [.ref e0, .ref s0, .ref h0, .ref c0])), (e0, .inr (1, [.ref eb, .ref es, .int (nI S.length)])), (eb, .inl (E.2.1, 1920, .inl f)), (es, .inl (E.2.2.1, 24, .inl sz)), (s0, .inr (5, [.ref m0, .ref d0, .ref h0, .ref x0])), (m0, .inl (E.2.1, 32, .inl mf)), (d0, .inl (E.2.1, 32, .inl df)), (x0, .inl (E.2.1, 112, .inl xf)), (h0, .inr (4, [.ref a1, .ref a2])), (a1, .inl (E.2.2.1, 8, .inl st)), (a2, .inl (E.2.2.1, 64, .inl wv)), (c0, .inr (0, [.int (nI bs.length), .int (nI (shutS bs))])), (w0, .inr (2, [.ref q0, .int (nI x.length)])), (q0, .inl (E.2.1, 80, .inl sf))] H := hP
            have hD : va_D A [(u0, .inr (3, [.ref e0, .ref s0, .ref h0, .ref c0])), (e0, .inr (1, [.ref eb, .ref es, .int (nI S.length)])), (eb, .inl (E.2.1, 1920, .inl f)), (es, .inl (E.2.2.1, 24, .inl sz)), (s0, .inr (5, [.ref m0, .ref d0, .ref h0, .ref x0])), (m0, .inl (E.2.1, 32, .inl mf)), (d0, .inl (E.2.1, 32, .inl df)), (x0, .inl (E.2.1, 112, .inl xf)), (h0, .inr (4, [.ref a1, .ref a2])), (a1, .inl (E.2.2.1, 8, .inl st)), (a2, .inl (E.2.2.1, 64, .inl wv)), (c0, .inr (0, [.int (nI bs.length), .int (nI (shutS bs))])), (w0, .inr (2, [.ref q0, .int (nI x.length)])), (q0, .inl (E.2.1, 80, .inl sf))] := hD
            refine zb_eq C (decide (shutS bs = 0)) rfl d_Run_runScript_67 rfl (fun hc61 => ?_) (fun hc61 => ?_)
            · refine lv_iconst (v := nI 1) hx hb d_Run_runScript_88 (by decide) ?_
              refine lv_goto hx hb d_Run_runScript_89 rfl ?_
              refine lv_istore_n (lv' := [(3, .int (nI 1)), (4, .int (nI (p9 + 1))), (5, .int (nI op)), (2, .int ht), (1, .ref w0), (0, .ref u0)]) hx hb d_Run_runScript_93 rfl hl (by decide) rfl (fun ls hl => ?_)
              refine lv_iload hx hb d_Run_runScript_94 (lv_at hl 1 rfl) ?_
              refine lv_iload hx hb d_Run_runScript_96 (lv_at hl 2 rfl) ?_
              refine lv_iadd hx hb d_Run_runScript_98 ?_
              refine tope (z := nI ((p9 + 1) + op)) (nI_add _ _) ?_
              refine lv_istore (lv' := [(4, .int (nI ((p9 + 1) + op))), (3, .int (nI 1)), (5, .int (nI op)), (2, .int ht), (1, .ref w0), (0, .ref u0)]) hx hb d_Run_runScript_99 hl (by decide) rfl (fun ls hl => ?_)
              refine lv_goto hx hb d_Run_runScript_101 rfl ?_
              refine lv_goto hx hb d_Run_runScript_146 rfl ?_
              exact ih12 dy (p9 + 1 + op) bs S f sz df xf st wv H locs ls (by omega) (by omega) (by omega) ((ex_skip (by omega) hop (by omega) (by omega) (of_decide_eq_false hc61)).symm.trans hR) (hrep) (hB) (hlen) (by omega) hP hD hS (lv_sub hl [0, 1, 3, 4, 5] rfl)
            · rcases Nat.lt_or_ge S.length 24 with h24 | h24
              · refine lv_aload_n hx hb d_Run_runScript_70 rfl (lv_at hl 5 rfl) ?_
                refine n_get C fg_Run_12 hP 0 rfl rfl d_Run_runScript_71 ?_
                refine lv_aload_n hx hb d_Run_runScript_74 rfl (lv_at hl 4 rfl) ?_
                refine n_get C fg_Run_46 hP 12 rfl rfl d_Run_runScript_75 ?_
                refine lv_iload hx hb d_Run_runScript_78 (lv_at hl 0 rfl) ?_
                refine lv_iload hx hb d_Run_runScript_80 (lv_at hl 1 rfl) ?_
                refine cal_I (As := [.ref q0, .int (nI (p9 + 1)), .int (nI op)]) (rest := []) C lk_Run_54 (c_El_push l E e0 eb es S.length f sz (p9 + 1) op q0 80 sf (by omega) (by omega) (by omega) (hBs) (by omega)) (by decide) hP hD hS 1 1 rfl rfl [1, 2, 3, 13] rfl (by decide) hl.1 rfl (Nat.le_of_ble_eq_true rfl) d_Run_runScript_82 (fun r62 w1 H locs hp63 hP hD hS => ?_)
                obtain ⟨rfl, rfl⟩ := hp63
                have hP : va_P E.1 clz [(u0, .inr (3, [.ref e0, .ref s0, .ref h0, .ref c0])), (e0, .inr (1, [.ref eb, .ref es, .int (nI (S.length + 1))])), (eb, .inl (E.2.1, 1920, .inl (va_cpy sf f (p9 + 1) (S.length * 80) op))), (es, .inl (E.2.2.1, 24, .inl (upd sz S.length (nI op)))), (s0, .inr (5, [.ref m0, .ref d0, .ref h0, .ref x0])), (m0, .inl (E.2.1, 32, .inl mf)), (d0, .inl (E.2.1, 32, .inl df)), (x0, .inl (E.2.1, 112, .inl xf)), (h0, .inr (4, [.ref a1, .ref a2])), (a1, .inl (E.2.2.1, 8, .inl st)), (a2, .inl (E.2.2.1, 64, .inl wv)), (c0, .inr (0, [.int (nI bs.length), .int (nI (shutS bs))])), (w0, .inr (2, [.ref q0, .int (nI x.length)])), (q0, .inl (E.2.1, 80, .inl sf))] H := hP
                have hD : va_D A [(u0, .inr (3, [.ref e0, .ref s0, .ref h0, .ref c0])), (e0, .inr (1, [.ref eb, .ref es, .int (nI (S.length + 1))])), (eb, .inl (E.2.1, 1920, .inl (va_cpy sf f (p9 + 1) (S.length * 80) op))), (es, .inl (E.2.2.1, 24, .inl (upd sz S.length (nI op)))), (s0, .inr (5, [.ref m0, .ref d0, .ref h0, .ref x0])), (m0, .inl (E.2.1, 32, .inl mf)), (d0, .inl (E.2.1, 32, .inl df)), (x0, .inl (E.2.1, 112, .inl xf)), (h0, .inr (4, [.ref a1, .ref a2])), (a1, .inl (E.2.2.1, 8, .inl st)), (a2, .inl (E.2.2.1, 64, .inl wv)), (c0, .inr (0, [.int (nI bs.length), .int (nI (shutS bs))])), (w0, .inr (2, [.ref q0, .int (nI x.length)])), (q0, .inl (E.2.1, 80, .inl sf))] := hD
                have hsu := lay_sub (p := p9 + 1) (k := op) hls (by omega)
                refine zb_eq C true rfl d_Run_runScript_85 rfl (fun hc64 => absurd hc64 (by simp_all)) (fun hc64 => ?_)
                refine lv_iconst (v := nI 1) hx hb d_Run_runScript_88 (by decide) ?_
                refine lv_goto hx hb d_Run_runScript_89 rfl ?_
                refine lv_istore_n (lv' := [(3, .int (nI 1)), (4, .int (nI (p9 + 1))), (5, .int (nI op)), (2, .int ht), (1, .ref w0), (0, .ref u0)]) hx hb d_Run_runScript_93 rfl hl (by decide) rfl (fun ls hl => ?_)
                refine lv_iload hx hb d_Run_runScript_94 (lv_at hl 1 rfl) ?_
                refine lv_iload hx hb d_Run_runScript_96 (lv_at hl 2 rfl) ?_
                refine lv_iadd hx hb d_Run_runScript_98 ?_
                refine tope (z := nI ((p9 + 1) + op)) (nI_add _ _) ?_
                refine lv_istore (lv' := [(4, .int (nI ((p9 + 1) + op))), (3, .int (nI 1)), (5, .int (nI op)), (2, .int ht), (1, .ref w0), (0, .ref u0)]) hx hb d_Run_runScript_99 hl (by decide) rfl (fun ls hl => ?_)
                refine lv_goto hx hb d_Run_runScript_101 rfl ?_
                refine lv_goto hx hb d_Run_runScript_146 rfl ?_
                exact ih12 dy (p9 + 1 + op) bs ((x.drop (p9 + 1)).take op :: S) (va_cpy sf f (p9 + 1) (S.length * 80) op) (upd sz S.length (nI op)) df xf st wv H locs ls (by omega) (by omega) (by omega) ((ex_push (by omega) hop (by omega) (by omega) (of_decide_eq_true hc61) h24).symm.trans hR) (rep_cpy hrep rfl hsu.2.symm (by rw [hsu.2]; omega) hsu.1) (fB_cpy hBs hB) (by simp only [List.length_cons]; omega) (by omega) hP hD hS (lv_sub hl [0, 1, 3, 4, 5] rfl)
              · refine lv_aload_n hx hb d_Run_runScript_70 rfl (lv_at hl 5 rfl) ?_
                refine n_get C fg_Run_12 hP 0 rfl rfl d_Run_runScript_71 ?_
                refine lv_aload_n hx hb d_Run_runScript_74 rfl (lv_at hl 4 rfl) ?_
                refine n_get C fg_Run_46 hP 12 rfl rfl d_Run_runScript_75 ?_
                refine lv_iload hx hb d_Run_runScript_78 (lv_at hl 0 rfl) ?_
                refine lv_iload hx hb d_Run_runScript_80 (lv_at hl 1 rfl) ?_
                refine cal_I (As := [.ref q0, .int (nI (p9 + 1)), .int (nI op)]) (rest := []) C lk_Run_54 (c_El_push_full l E e0 eb es S.length f sz (p9 + 1) op q0 80 sf (by omega) (by omega)) (by decide) hP hD hS 1 1 rfl rfl [1, 2, 3, 13] rfl (by decide) hl.1 rfl (Nat.le_of_ble_eq_true rfl) d_Run_runScript_82 (fun r65 w1 H locs hp66 hP hD hS => ?_)
                obtain ⟨rfl, rfl⟩ := hp66
                have hP : va_P E.1 clz [(u0, .inr (3, [.ref e0, .ref s0, .ref h0, .ref c0])), (e0, .inr (1, [.ref eb, .ref es, .int (nI S.length)])), (eb, .inl (E.2.1, 1920, .inl f)), (es, .inl (E.2.2.1, 24, .inl sz)), (s0, .inr (5, [.ref m0, .ref d0, .ref h0, .ref x0])), (m0, .inl (E.2.1, 32, .inl mf)), (d0, .inl (E.2.1, 32, .inl df)), (x0, .inl (E.2.1, 112, .inl xf)), (h0, .inr (4, [.ref a1, .ref a2])), (a1, .inl (E.2.2.1, 8, .inl st)), (a2, .inl (E.2.2.1, 64, .inl wv)), (c0, .inr (0, [.int (nI bs.length), .int (nI (shutS bs))])), (w0, .inr (2, [.ref q0, .int (nI x.length)])), (q0, .inl (E.2.1, 80, .inl sf))] H := hP
                have hD : va_D A [(u0, .inr (3, [.ref e0, .ref s0, .ref h0, .ref c0])), (e0, .inr (1, [.ref eb, .ref es, .int (nI S.length)])), (eb, .inl (E.2.1, 1920, .inl f)), (es, .inl (E.2.2.1, 24, .inl sz)), (s0, .inr (5, [.ref m0, .ref d0, .ref h0, .ref x0])), (m0, .inl (E.2.1, 32, .inl mf)), (d0, .inl (E.2.1, 32, .inl df)), (x0, .inl (E.2.1, 112, .inl xf)), (h0, .inr (4, [.ref a1, .ref a2])), (a1, .inl (E.2.2.1, 8, .inl st)), (a2, .inl (E.2.2.1, 64, .inl wv)), (c0, .inr (0, [.int (nI bs.length), .int (nI (shutS bs))])), (w0, .inr (2, [.ref q0, .int (nI x.length)])), (q0, .inl (E.2.1, 80, .inl sf))] := hD
                refine zb_eq C false rfl d_Run_runScript_85 rfl (fun hc67 => ?_) (fun hc67 => absurd hc67 (by simp_all))
                refine lv_iconst (v := nI 0) hx hb d_Run_runScript_92 (by decide) ?_
                refine lv_istore_n (lv' := [(3, .int (nI 0)), (4, .int (nI (p9 + 1))), (5, .int (nI op)), (2, .int ht), (1, .ref w0), (0, .ref u0)]) hx hb d_Run_runScript_93 rfl hl (by decide) rfl (fun ls hl => ?_)
                refine lv_iload hx hb d_Run_runScript_94 (lv_at hl 1 rfl) ?_
                refine lv_iload hx hb d_Run_runScript_96 (lv_at hl 2 rfl) ?_
                refine lv_iadd hx hb d_Run_runScript_98 ?_
                refine tope (z := nI ((p9 + 1) + op)) (nI_add _ _) ?_
                refine lv_istore (lv' := [(4, .int (nI ((p9 + 1) + op))), (3, .int (nI 0)), (5, .int (nI op)), (2, .int ht), (1, .ref w0), (0, .ref u0)]) hx hb d_Run_runScript_99 hl (by decide) rfl (fun ls hl => ?_)
                refine lv_goto hx hb d_Run_runScript_101 rfl ?_
                refine lv_goto hx hb d_Run_runScript_146 rfl ?_
                refine lv_iload_n hx hb d_Run_runScript_12 rfl (lv_at hl 1 rfl) ?_
                refine z_eq C 0 rfl (by omega) d_Run_runScript_13 rfl (fun hc68 => ?_) (fun hc68 => absurd hc68 (by omega))
                refine lv_iload_n hx hb d_Run_runScript_149 rfl (lv_at hl 1 rfl) ?_
                refine z_eq C 0 rfl (by omega) d_Run_runScript_150 rfl (fun hc69 => ?_) (fun hc69 => absurd hc69 (by omega))
                refine lv_iconst (v := nI 0) hx hb d_Run_runScript_167 (by decide) ?_
                exact kret (nI 0) [(u0, .inr (3, [.ref e0, .ref s0, .ref h0, .ref c0])), (e0, .inr (1, [.ref eb, .ref es, .int (nI S.length)])), (eb, .inl (E.2.1, 1920, .inl f)), (es, .inl (E.2.2.1, 24, .inl sz)), (s0, .inr (5, [.ref m0, .ref d0, .ref h0, .ref x0])), (m0, .inl (E.2.1, 32, .inl mf)), (d0, .inl (E.2.1, 32, .inl df)), (x0, .inl (E.2.1, 112, .inl xf)), (h0, .inr (4, [.ref a1, .ref a2])), (a1, .inl (E.2.2.1, 8, .inl st)), (a2, .inl (E.2.2.1, 64, .inl wv)), (c0, .inr (0, [.int (nI bs.length), .int (nI (shutS bs))])), (w0, .inr (2, [.ref q0, .int (nI x.length)])), (q0, .inl (E.2.1, 80, .inl sf))] _ _ _ _ d_Run_runScript_168 (⟨_, _, _, _, _, _, _, _, _, rfl, hB, Or.inr ⟨hR.symm.trans (ex_full (by omega) hop (by omega) (by omega) (of_decide_eq_true hc61) (by omega)), rfl⟩⟩) rfl hP hS
  exact hloop12 (x.length + 1) x.length 0 ([]) S f sz df xf st wv H locs ls (by omega) (by omega) (by omega) (hR0) (hrep) (hB) (hlen) (Nat.zero_le _) hP hD hS (lv_sub hl [0, 1, 4, 3, 2] rfl)
