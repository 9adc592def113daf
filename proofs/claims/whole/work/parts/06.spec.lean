/-! what a script does, on lists: a stack is a list of elements, the top first; an element a list of bytes with their sign -/
abbrev Byl : Type := List Int32
abbrev Stk : Type := List (List Int32)
def isT (x : Byl) : Bool := x.any (fun b => decide (¬ b = 0))
def numL (x : Byl) : Int32 := match x with
  | [] => nI 0
  | b :: r => r.foldl (fun v c => cm1 v (c &&& nI 255)) b
def numB (v : Int32) : Byl := if v = nI 0 then [] else [nb (us v (nI 24)), nb (us v (nI 16)), nb (us v (nI 8)), nb (us v (nI 0))]
def pushE (x : Byl) (S : Stk) : Option Stk := if S.length < 24 then some (x :: S) else none
def b2 (b : Bool) : Int32 := if b = true then nI 1 else nI 0
def shaL (x : Byl) : Byl := (List.range 32).map (shaF (fun j => x.getD j 0) x.length)
def hashL (x : Byl) : Byl := shaL (shaL x)
def sigL (msg key : Byl) : Byl := (hashL (key ++ msg)).take 8
/-- an element by its place, counted from the bottom -/
def el (S : Stk) (k : Nat) : Byl := S.reverse.getD k []
/-- how many signatures have met their keys behind k keys -/
def mtK (ok : Nat → Nat → Bool) (m : Nat) : Nat → Nat
  | 0 => 0
  | k + 1 => if mtK ok m k < m ∧ ok (mtK ok m k) k = true then mtK ok m k + 1 else mtK ok m k
def manyS (msg : Byl) (S : Stk) : Option Stk :=
  if S.length = 0 ∨ 4 < (el S (S.length - 1)).length then none else
  if numL (el S (S.length - 1)) < 0 ∨ nI 8 < numL (el S (S.length - 1)) then none else
  let n := (numL (el S (S.length - 1))).toNatClampNeg
  if S.length < n + 2 ∨ 4 < (el S (S.length - 2 - n)).length then none else
  if numL (el S (S.length - 2 - n)) < 0 ∨ numL (el S (S.length - 1)) < numL (el S (S.length - 2 - n)) then none else
  let m := (numL (el S (S.length - 2 - n))).toNatClampNeg
  if S.length < n + 2 + m then none else
  let o := S.length - 2 - n - m
  some (numB (b2 (decide (mtK (fun i k => decide (el S (o + i) = sigL msg (el S (S.length - 1 - n + k)))) m n = m))) :: S.drop (S.length - o))
def actS (op : Nat) (ht : Int32) (msg : Byl) (S : Stk) : Option Stk :=
  if op = 80 then (match S with | x :: _ => pushE x S | _ => none)
  else if op = 81 then (match S with | _ :: r => some r | _ => none)
  else if op = 82 then (match S with | x :: y :: r => some (y :: x :: r) | _ => none)
  else if op = 83 then (match S with | _ :: y :: _ => pushE y S | _ => none)
  else if op = 85 then (match S with | x :: _ => pushE (numB (nI x.length)) S | _ => none)
  else if op = 86 then (match S with | x :: y :: r => some (numB (b2 (decide (y = x))) :: r) | _ => none)
  else if op = 87 then (match S with | x :: r => if isT x = true then some r else none | _ => none)
  else if op = 88 then (match S with | x :: r => if x.length ≤ 4 then some (numB (b2 (decide (numL x = nI 0))) :: r) else none | _ => none)
  else if op = 89 then (match S with | x :: y :: r => if y.length ≤ 4 ∧ x.length ≤ 4 then some (numB (numL y + numL x) :: r) else none | _ => none)
  else if op = 90 then (match S with | x :: y :: r => if y.length ≤ 4 ∧ x.length ≤ 4 then some (numB (numL y - numL x) :: r) else none | _ => none)
  else if op = 91 then (match S with | x :: y :: r => if y.length ≤ 4 ∧ x.length ≤ 4 then some (numB (b2 (decide (numL y < numL x))) :: r) else none | _ => none)
  else if op = 92 then (match S with | x :: y :: r => some (numB (b2 (isT y && isT x)) :: r) | _ => none)
  else if op = 93 then (match S with | x :: r => some (shaL x :: r) | _ => none)
  else if op = 94 then (match S with | x :: r => some (hashL x :: r) | _ => none)
  else if op = 95 then (match S with | x :: y :: r => some (numB (b2 (decide (y = sigL msg x))) :: r) | _ => none)
  else if op = 96 then (match S with | x :: r => if x.length ≤ 4 ∧ numL x ≤ ht then some r else none | _ => none)
  else if op = 102 then pushE (numB (nI 1)) S
  else if op = 103 then manyS msg S
  else none
/-- the level of the outermost branch that shuts, 0 if none does; the innermost branch stands first -/
def shutS : List Bool → Nat
  | [] => 0
  | b :: r => if shutS r = 0 then (if b = true then 0 else r.length + 1) else shutS r
def byN (b : Int32) : Nat := (b &&& nI 255).toNatClampNeg
def execS (x : Byl) (ht : Int32) (msg : Byl) : Nat → Nat → List Bool → Stk → Option Stk
  | 0, _, _, _ => none
  | d + 1, p, bs, S =>
    if p < x.length then
      let op := byN (x.getD p 0)
      if op ≤ 75 then
        if p + 1 + op ≤ x.length then
          if shutS bs = 0 then
            (match pushE ((x.drop (p + 1)).take op) S with | some S' => execS x ht msg d (p + 1 + op) bs S' | none => none)
          else execS x ht msg d (p + 1 + op) bs S
        else none
      else if op = 97 ∨ op = 98 then
        if shutS bs = 0 then
          (match S with | y :: r => execS x ht msg d (p + 1) ((isT y != decide (op = 98)) :: bs) r | [] => none)
        else execS x ht msg d (p + 1) (false :: bs) S
      else if op = 99 then
        (match bs with | b :: r => execS x ht msg d (p + 1) ((!b) :: r) S | [] => none)
      else if op = 100 then
        (match bs with | _ :: r => execS x ht msg d (p + 1) r S | [] => none)
      else if shutS bs = 0 then
        (match actS op ht msg S with | some S' => execS x ht msg d (p + 1) bs S' | none => none)
      else execS x ht msg d (p + 1) bs S
    else if bs = [] then some S else none
def runS (x : Byl) (ht : Int32) (msg : Byl) (S : Stk) : Option Stk := execS x ht msg (x.length + 1) 0 [] S
/-- bytes lie in a row from a place on -/
def lay (f : Nat → Int32) (o : Nat) (x : Byl) : Prop := ∀ j, j < x.length → f (o + j) = x.getD j 0
/-- a stack lies in its rows -/
def rep (f sz : Nat → Int32) (S : Stk) : Prop := ∀ k, k < S.length → sz k = nI (el S k).length ∧ (el S k).length ≤ 80 ∧ lay f (k * 80) (el S k)
theorem el_top (x : Byl) (S : Stk) : el (x :: S) S.length = x := by
  simp [el, List.getD_eq_getElem?_getD]
theorem el_under (x : Byl) (S : Stk) {k : Nat} (h : k < S.length) : el (x :: S) k = el S k := by
  unfold el
  rw [List.reverse_cons, List.getD_eq_getElem?_getD, List.getD_eq_getElem?_getD, List.getElem?_append_left (by simpa using h)]
theorem el_drop (S : Stk) (d : Nat) {k : Nat} (h : k < S.length - d) : el (S.drop d) k = el S k := by
  induction d generalizing S with
  | zero => rfl
  | succ d ih =>
    cases S with
    | nil => simp at h
    | cons x S =>
      simp only [List.length_cons] at h
      rw [List.drop_succ_cons, ih S (by omega), el_under x S (by omega)]
theorem rep_nil (f sz : Nat → Int32) : rep f sz [] := fun k h => absurd h (Nat.not_lt_zero k)
theorem rep_congr {f g sz tz : Nat → Int32} {S : Stk} (h : rep f sz S) (hz : ∀ k, k < S.length → tz k = sz k) (hf : ∀ j, j < S.length * 80 → g j = f j) : rep g tz S := by
  intro k hk
  obtain ⟨h1, h2, h3⟩ := h k hk
  refine ⟨by rw [hz k hk]; exact h1, h2, fun j hj => ?_⟩
  rw [hf (k * 80 + j) (by omega)]
  exact h3 j hj
theorem rep_push {f sz : Nat → Int32} {S : Stk} {x : Byl} (h : rep f sz S) (h1 : sz S.length = nI x.length) (h2 : x.length ≤ 80) (h3 : lay f (S.length * 80) x) : rep f sz (x :: S) := by
  intro k hk
  simp only [List.length_cons] at hk
  by_cases e : k = S.length
  · subst e
    rw [el_top]
    exact ⟨h1, h2, h3⟩
  · rw [el_under x S (by omega)]
    exact h k (by omega)
theorem rep_tail {f sz : Nat → Int32} {S : Stk} {x : Byl} (h : rep f sz (x :: S)) : rep f sz S := by
  intro k hk
  have := h k (by simp only [List.length_cons]; omega)
  rw [el_under x S hk] at this
  exact this
theorem rep_drop {f sz : Nat → Int32} {S : Stk} (d : Nat) (h : rep f sz S) : rep f sz (S.drop d) := by
  intro k hk
  simp only [List.length_drop] at hk
  rw [el_drop S d hk]
  exact h k (by omega)
theorem rep_top {f sz : Nat → Int32} {S : Stk} {x : Byl} (h : rep f sz (x :: S)) : sz S.length = nI x.length ∧ x.length ≤ 80 ∧ lay f (S.length * 80) x := by
  have := h S.length (by simp)
  rw [el_top] at this
  exact this
