/-! the mathematics: SHA-256 as both sides compute it, over 32-bit numbers; bytes are kept with their sign -/
def us (x y : Int32) : Int32 := (x.toUInt32 >>> (y.toUInt32 &&& Int32.toUInt32 31)).toInt32
def sl (x y : Int32) : Int32 := x <<< (y &&& 31)
def sr (x y : Int32) : Int32 := x >>> (y &&& 31)
def nb (x : Int32) : Int32 := x.toInt8.toInt32
def isB (x : Int32) : Prop := nb x = x
def fB (f : Nat → Int32) : Prop := ∀ j, isB (f j)
def sg0 (x : Int32) : Int32 := ((us x (nI 7) ||| sl x (nI 25)) ^^^ (us x (nI 18) ||| sl x (nI 14))) ^^^ us x (nI 3)
def sg1 (y : Int32) : Int32 := ((us y (nI 17) ||| sl y (nI 15)) ^^^ (us y (nI 19) ||| sl y (nI 13))) ^^^ us y (nI 10)
def bg1 (e : Int32) : Int32 := ((us e (nI 6) ||| sl e (nI 26)) ^^^ (us e (nI 11) ||| sl e (nI 21))) ^^^ (us e (nI 25) ||| sl e (nI 7))
def bg0 (a : Int32) : Int32 := ((us a (nI 2) ||| sl a (nI 30)) ^^^ (us a (nI 13) ||| sl a (nI 19))) ^^^ (us a (nI 22) ||| sl a (nI 10))
def chs (e f g : Int32) : Int32 := (e &&& f) ^^^ ((e ^^^ (-1)) &&& g)
def mjs (a b c : Int32) : Int32 := ((a &&& b) ^^^ (a &&& c)) ^^^ (b &&& c)
/-- the words behind i steps of the extension -/
def exW (w : Nat → Int32) : Nat → Nat → Int32
  | 0 => w
  | i + 1 => upd (exW w i) (16 + i) (((exW w i i + sg0 (exW w i (i + 1))) + exW w i (i + 9)) + sg1 (exW w i (i + 14)))
abbrev S8 : Type := Int32 × Int32 × Int32 × Int32 × Int32 × Int32 × Int32 × Int32
def rd1 (k w : Int32) : S8 → S8
  | (a, b, c, d, e, f, g, h) => ((((((h + bg1 e) + chs e f g) + k) + w) + (bg0 a + mjs a b c)), a, b, c, d + ((((h + bg1 e) + chs e f g) + k) + w), e, f, g)
def mx (w : Nat → Int32) (t : S8) : Nat → S8
  | 0 => t
  | i + 1 => rd1 (shK i) (w i) (mx w t i)
def ad8 (st : Nat → Int32) : S8 → Nat → Int32
  | (a, b, c, d, e, f, g, h) => upd (upd (upd (upd (upd (upd (upd (upd st 0 (st 0 + a)) 1 (st 1 + b)) 2 (st 2 + c)) 3 (st 3 + d)) 4 (st 4 + e)) 5 (st 5 + f)) 6 (st 6 + g)) 7 (st 7 + h)
def blkF (w st : Nat → Int32) : Nat → Int32 := ad8 st (mx w (st 0, st 1, st 2, st 3, st 4, st 5, st 6, st 7) 64)
def pv (b : Nat → Int32) (n p : Nat) : Int32 := if p < n then b p &&& nI 255 else if p = n then nI 128 else nI 0
def cm1 (w v : Int32) : Int32 := sl w (nI 8) ||| v
def wd (b : Nat → Int32) (n j k : Nat) : Int32 := cm1 (cm1 (cm1 (cm1 (nI 0) (pv b n (j * 64 + 4 * k))) (pv b n (j * 64 + 4 * k + 1))) (pv b n (j * 64 + 4 * k + 2))) (pv b n (j * 64 + 4 * k + 3))
def lstB (n : Nat) : Nat := (n + 8) / 64
def wds (b : Nat → Int32) (n j : Nat) : Nat → Int32 := fun k => if j = lstB n ∧ k = 15 then nI (n * 8) else wd b n j k
def stN (b : Nat → Int32) (n : Nat) : Nat → Nat → Int32
  | 0 => shS
  | j + 1 => blkF (exW (wds b n j) 48) (stN b n j)
def shaF (b : Nat → Int32) (n : Nat) : Nat → Int32 := fun i => nb (us (stN b n (lstB n + 1) (i / 4)) (nI (24 - i % 4 * 8)))
/-! rows on them -/
theorem exW_congr {w w' : Nat → Int32} (h : ∀ k, k < 16 → w k = w' k) : ∀ i k, k < 16 + i → exW w i k = exW w' i k := by
  intro i
  induction i with
  | zero => intro k hk; exact h k (by omega)
  | succ i ih =>
    intro k hk
    show upd _ _ _ k = upd _ _ _ k
    unfold upd
    by_cases e : k = 16 + i
    · rw [if_pos e, if_pos e, ih i (by omega), ih (i + 1) (by omega), ih (i + 9) (by omega), ih (i + 14) (by omega)]
    · rw [if_neg e, if_neg e]
      exact ih k (by omega)
theorem mx_congr {w w' : Nat → Int32} {t : S8} : ∀ i, (∀ k, k < i → w k = w' k) → mx w t i = mx w' t i := by
  intro i
  induction i with
  | zero => intro _; rfl
  | succ i ih =>
    intro h
    show rd1 _ _ _ = rd1 _ _ _
    rw [ih (fun k hk => h k (by omega)), h i (by omega)]
theorem ad8_congr {st st' : Nat → Int32} {t : S8} (h : ∀ k, k < 8 → st k = st' k) : ∀ k, k < 8 → ad8 st t k = ad8 st' t k := by
  intro k hk
  obtain ⟨a, b, c, d, e, f, g, i⟩ := t
  simp only [ad8, upd]
  rw [h 0 (by omega), h 1 (by omega), h 2 (by omega), h 3 (by omega), h 4 (by omega), h 5 (by omega), h 6 (by omega), h 7 (by omega), h k hk]
theorem blkF_congr {w w' st st' : Nat → Int32} (hw : ∀ k, k < 64 → w k = w' k) (h : ∀ k, k < 8 → st k = st' k) : ∀ k, k < 8 → blkF w st k = blkF w' st' k := by
  intro k hk
  unfold blkF
  rw [mx_congr 64 hw, h 0 (by omega), h 1 (by omega), h 2 (by omega), h 3 (by omega), h 4 (by omega), h 5 (by omega), h 6 (by omega), h 7 (by omega)]
  exact ad8_congr h k hk
theorem pv_congr {b b' : Nat → Int32} {n : Nat} (h : ∀ j, j < n → b j = b' j) (p : Nat) : pv b n p = pv b' n p := by
  unfold pv
  split
  · rename_i hp; rw [h p hp]
  · rfl
theorem wds_congr {b b' : Nat → Int32} {n : Nat} (h : ∀ j, j < n → b j = b' j) (j : Nat) : wds b n j = wds b' n j := by
  funext k
  simp only [wds, wd, pv_congr h]
theorem shaF_congr {b b' : Nat → Int32} {n : Nat} (h : ∀ j, j < n → b j = b' j) : shaF b n = shaF b' n := by
  have hs : ∀ j, stN b n j = stN b' n j := by
    intro j
    induction j with
    | zero => rfl
    | succ j ih => show blkF _ _ = blkF _ _; rw [wds_congr h, ih]
  funext i
  simp only [shaF, hs]
theorem nb_nb (x : Int32) : nb (nb x) = nb x := by
  have h := pk_vb x
  rw [vp_nar_byte] at h
  exact h
theorem shaF_B (b : Nat → Int32) (n : Nat) : fB (shaF b n) := fun j => nb_nb _
theorem fB_upd {f : Nat → Int32} {k : Nat} {x : Int32} (h : fB f) (hx : isB x) : fB (upd f k x) := by
  intro j
  unfold upd
  split
  · exact hx
  · exact h j
theorem fB_cpy {f g : Nat → Int32} {a b n : Nat} (hf : fB f) (hg : fB g) : fB (va_cpy f g a b n) := by
  intro j
  unfold va_cpy
  split
  · exact hf _
  · exact hg _
theorem cpy_succ (f g : Nat → Int32) (o d i : Nat) : upd (va_cpy f g o d i) (d + i) (f (o + i)) = va_cpy f g o d (i + 1) := by
  funext j
  unfold upd va_cpy
  by_cases h : j = d + i
  · subst h
    rw [if_pos rfl, if_pos (by omega)]
    congr 1
    omega
  · rw [if_neg h]
    by_cases h2 : d ≤ j ∧ j < d + i
    · rw [if_pos h2, if_pos (by omega)]
    · rw [if_neg h2, if_neg (by omega)]
theorem cpy_zero (f g : Nat → Int32) (o d : Nat) : va_cpy f g o d 0 = g := by
  funext j
  unfold va_cpy
  rw [if_neg (by omega)]
