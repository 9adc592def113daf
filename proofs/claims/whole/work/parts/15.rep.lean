/-! what the stack's methods do to the stack that lies in the rows -/
theorem fB_pn4 {f : Nat → Int32} {o : Nat} {v : Int32} (h : fB f) : fB (pn4 f o v) := fB_upd (fB_upd (fB_upd (fB_upd h (nb_nb _)) (nb_nb _)) (nb_nb _)) (nb_nb _)
theorem numB_len (v : Int32) : pnz v = nI (numB v).length := by
  unfold pnz numB
  have h0 : (nI 0 : Int32) = 0 := rfl
  by_cases h : v = 0
  · rw [if_pos h, h0, if_pos h]; rfl
  · rw [if_neg h, h0, if_neg h]; rfl
theorem numB_le (v : Int32) : (numB v).length ≤ 4 := by
  unfold numB
  split <;> simp
theorem pn4_lo {f : Nat → Int32} {o : Nat} {v : Int32} {j : Nat} (h : j < o) : pn4 f o v j = f j := by
  unfold pn4 upd
  rw [if_neg (by omega), if_neg (by omega), if_neg (by omega), if_neg (by omega)]
theorem pn4_lay (f : Nat → Int32) (o : Nat) (v : Int32) : lay (pn4 f o v) o (numB v) := by
  intro j hj
  unfold numB at hj ⊢
  by_cases h : v = nI 0
  · rw [if_pos h] at hj; simp at hj
  · rw [if_neg h] at hj ⊢
    simp only [List.length_cons, List.length_nil] at hj
    unfold pn4 upd
    rcases (by omega : j = 0 ∨ j = 1 ∨ j = 2 ∨ j = 3) with rfl | rfl | rfl | rfl
    · rw [if_neg (by omega), if_neg (by omega), if_neg (by omega), if_pos rfl]; rfl
    · rw [if_neg (by omega), if_neg (by omega), if_pos rfl]; rfl
    · rw [if_neg (by omega), if_pos rfl]; rfl
    · rw [if_pos rfl]; rfl
theorem upd_lt {sz : Nat → Int32} {n k : Nat} {v : Int32} (h : k < n) : upd sz n v k = sz k := by unfold upd; rw [if_neg (by omega)]
theorem rep_num {f sz : Nat → Int32} {S : Stk} {n : Nat} {v : Int32} (h : rep f sz S) (hn : n = S.length) : rep (pn4 f (n * 80) v) (upd sz n (pnz v)) (numB v :: S) := by
  subst hn
  refine rep_push (rep_congr h (fun k hk => upd_lt hk) (fun j hj => pn4_lo hj)) ?_ (by have := numB_le v; omega) (pn4_lay _ _ _)
  rw [← numB_len]
  exact pk_us
theorem rep_cpy {f g sz : Nat → Int32} {S : Stk} {n i k : Nat} {x : Byl} (h : rep f sz S) (hn : n = S.length) (hk : k = x.length) (hx : x.length ≤ 80) (hl : lay g i x) : rep (va_cpy g f i (n * 80) k) (upd sz n (nI k)) (x :: S) := by
  subst hn hk
  refine rep_push (rep_congr h (fun k hk => upd_lt hk) (fun j hj => pk_cpy_out (by omega))) pk_us hx (fun j hj => ?_)
  rw [pk_cpy_in (by omega) (by omega), ← hl j hj]
  congr 1
  omega
theorem swp_lo {f : Nat → Int32} {o i j : Nat} (h : j < o) : swp f o i j = f j := by
  unfold swp
  rw [if_neg (by omega), if_neg (by omega)]
theorem rep_swp {f sz : Nat → Int32} {S : Stk} {x y : Byl} (h : rep f sz (x :: y :: S)) : rep (swp f (S.length * 80) 80) (upd (upd sz S.length (sz (S.length + 1))) (S.length + 1) (sz S.length)) (y :: x :: S) := by
  obtain ⟨hx1, hx2, hx3⟩ := rep_top h
  obtain ⟨hy1, hy2, hy3⟩ := rep_top (rep_tail h)
  have h0 := rep_tail (rep_tail h)
  have hlen : (y :: S).length = S.length + 1 := rfl
  rw [hlen] at hx1 hx3
  refine rep_push (rep_push (rep_congr h0 (fun k hk => ?_) (fun j hj => swp_lo hj)) ?_ hx2 (fun j hj => ?_)) ?_ hy2 (fun j hj => ?_)
  · rw [upd_lt (by omega), upd_lt hk]
  · rw [upd_lt (by omega), pk_us, hx1]
  · unfold swp
    rw [if_pos (by omega), ← hx3 j hj]
    congr 1
    omega
  · show upd _ (S.length + 1) _ (S.length + 1) = _
    rw [pk_us, hy1]
  · show swp f (S.length * 80) 80 ((S.length + 1) * 80 + j) = _
    unfold swp
    rw [if_neg (by omega), if_pos (by omega), ← hy3 j hj]
    congr 1
    omega
theorem shaL_len (x : Byl) : (shaL x).length = 32 := by simp [shaL]
theorem shaL_at (x : Byl) {j : Nat} (hj : j < 32) : (shaL x).getD j 0 = shaF (fun i => x.getD i 0) x.length j := by
  unfold shaL
  rw [List.getD_eq_getElem?_getD, List.getElem?_map, List.getElem?_range hj]
  rfl
theorem sha_lay {g t : Nat → Int32} {o d n : Nat} {x : Byl} (hl : lay g o x) (hn : n = x.length) : lay (va_cpy (shaF (fun q => g (o + q)) n) t 0 d 32) d (shaL x) := by
  subst hn
  intro j hj
  rw [shaL_len] at hj
  rw [pk_cpy_in (by omega) (by omega), shaL_at x hj, shaF_congr hl]
  congr 1
  omega
theorem hash_lay {g t : Nat → Int32} {o d n : Nat} {x : Byl} (hl : lay g o x) (hn : n = x.length) : lay (va_cpy (hashF (fun q => g (o + q)) n) t 0 d 32) d (hashL x) := by
  subst hn
  intro j hj
  have hj : j < 32 := by rw [hashL, shaL_len] at hj; exact hj
  rw [pk_cpy_in (by omega) (by omega), hashL, shaL_at _ hj, shaL_len]
  unfold hashF
  rw [shaF_congr (n := 32) (b' := fun i => (shaL x).getD i 0) (fun i hi => by rw [shaL_at x hi, shaF_congr hl])]
  congr 1
  omega
theorem rep_dig {f f2 sz : Nat → Int32} {S : Stk} {n : Nat} {x y : Byl} {F : Nat → Int32} (h : rep f sz (x :: S)) (hn : n = S.length) (hf : f2 = va_cpy F f 0 (n * 80) 32) (hy : y.length = 32) (hl : lay f2 (n * 80) y) : rep f2 (upd sz n (nI 32)) (y :: S) := by
  subst hn hf
  exact rep_push (rep_congr (rep_tail h) (fun k hk => upd_lt hk) (fun j hj => pk_cpy_out (by omega))) (by rw [pk_us, hy]) (by omega) hl
theorem sigL_len (msg x : Byl) : (sigL msg x).length = 8 := by
  unfold sigL hashL
  rw [List.length_take, shaL_len]
  rfl
theorem sig_lay {g mf xf df : Nat → Int32} {o n : Nat} {x msg : Byl} (hl : lay g o x) (hn : n = x.length) (hm : lay mf 0 msg) (h32 : msg.length = 32) : lay (va_cpy (hashF (fun q => (va_cpy mf (va_cpy g xf o 0 n) 0 n 32) (0 + q)) (n + 32)) df 0 0 32) 0 (sigL msg x) := by
  subst hn
  have h1 : lay (va_cpy mf (va_cpy g xf o 0 x.length) 0 x.length 32) 0 (x ++ msg) := by
    intro j hj
    rw [List.length_append, h32] at hj
    rw [Nat.zero_add]
    by_cases c : j < x.length
    · rw [pk_cpy_out (by omega), pk_cpy_in (by omega) (by omega), Nat.sub_zero, hl j c, List.getD_eq_getElem?_getD, List.getD_eq_getElem?_getD, List.getElem?_append_left c]
    · rw [pk_cpy_in (by omega) (by omega), hm _ (by omega), List.getD_eq_getElem?_getD, List.getD_eq_getElem?_getD, List.getElem?_append_right (by omega)]
  have h2 := hash_lay (t := df) (d := 0) h1 (n := x.length + 32) (by rw [List.length_append, h32])
  intro j hj
  rw [sigL_len] at hj
  have h3 := h2 j (by rw [hashL, shaL_len]; omega)
  rw [h3]
  unfold sigL
  rw [List.getD_eq_getElem?_getD, List.getD_eq_getElem?_getD, List.getElem?_take_of_lt hj]
