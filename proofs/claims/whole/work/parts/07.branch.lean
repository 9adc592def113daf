theorem b2_t {B : Bool} (h : B = true) : nI 1 = b2 B := by subst h; rfl
theorem b2_f {B : Bool} (h : B = false) : nI 0 = b2 B := by subst h; rfl
theorem b2_nar (B : Bool) : narrow .boolean (.int (b2 B)) = .int (b2 B) := by cases B <;> rfl
section XB
variable {p : Program} {l : Launch} {e : Env} {R : Room} {s : State} {m : MethodId} {args : Array Value} {below : List Frame} {meth : Method} {c : Code} {H : Heap} {locs : List Loc} {Q : State → Prop}
variable {cc : ByteArray} {pc nL : Nat} {ls : Array Slot} {rest : List Value} {E : En} {A : Nat → Prop} {own : String}
theorem j_eq (C : Cx p c cc nL s m args own E A) {x y : Int32} (a b : Nat) (hx : x = nI a) (hy : y = nI b) (ha : a < 2 ^ 31) (hb : b < 2 ^ 31) {off : Int} {tgt : Nat} (hdg : decode cc pc = .ok (.if_icmp .eq off, 3)) (ht : (pc : Int) + off = (tgt : Int)) (kt : a = b → W p l e R s m args below meth c H locs 0 0 Q (F0 m tgt ls rest)) (kf : ¬ a = b → W p l e R s m args below meth c H locs 0 0 Q (F0 m (pc + 3) ls rest)) : W p l e R s m args below meth c H locs 0 0 Q (F0 m pc ls (.int y :: .int x :: rest)) := by
  subst hx hy
  refine lv_icmp_eq C.1 C.2.1 hdg ht (fun h => kt ?_) (fun h => kf ?_)
  · simp only [nI_eq ha hb, nI_eq hb ha, nI_ltI ha hb, nI_ltI hb ha, nI_leI ha hb, nI_leI hb ha] at h; omega
  · simp only [nI_eq ha hb, nI_eq hb ha, nI_ltI ha hb, nI_ltI hb ha, nI_leI ha hb, nI_leI hb ha] at h; omega
theorem j_ne (C : Cx p c cc nL s m args own E A) {x y : Int32} (a b : Nat) (hx : x = nI a) (hy : y = nI b) (ha : a < 2 ^ 31) (hb : b < 2 ^ 31) {off : Int} {tgt : Nat} (hdg : decode cc pc = .ok (.if_icmp .ne off, 3)) (ht : (pc : Int) + off = (tgt : Int)) (kt : ¬ a = b → W p l e R s m args below meth c H locs 0 0 Q (F0 m tgt ls rest)) (kf : a = b → W p l e R s m args below meth c H locs 0 0 Q (F0 m (pc + 3) ls rest)) : W p l e R s m args below meth c H locs 0 0 Q (F0 m pc ls (.int y :: .int x :: rest)) := by
  subst hx hy
  refine lv_icmp_ne C.1 C.2.1 hdg ht (fun h => kt ?_) (fun h => kf ?_)
  · simp only [nI_eq ha hb, nI_eq hb ha, nI_ltI ha hb, nI_ltI hb ha, nI_leI ha hb, nI_leI hb ha] at h; omega
  · simp only [nI_eq ha hb, nI_eq hb ha, nI_ltI ha hb, nI_ltI hb ha, nI_leI ha hb, nI_leI hb ha] at h; omega
theorem j_lt (C : Cx p c cc nL s m args own E A) {x y : Int32} (a b : Nat) (hx : x = nI a) (hy : y = nI b) (ha : a < 2 ^ 31) (hb : b < 2 ^ 31) {off : Int} {tgt : Nat} (hdg : decode cc pc = .ok (.if_icmp .lt off, 3)) (ht : (pc : Int) + off = (tgt : Int)) (kt : a < b → W p l e R s m args below meth c H locs 0 0 Q (F0 m tgt ls rest)) (kf : b ≤ a → W p l e R s m args below meth c H locs 0 0 Q (F0 m (pc + 3) ls rest)) : W p l e R s m args below meth c H locs 0 0 Q (F0 m pc ls (.int y :: .int x :: rest)) := by
  subst hx hy
  refine lv_icmp_lt C.1 C.2.1 hdg ht (fun h => kt ?_) (fun h => kf ?_)
  · simp only [nI_eq ha hb, nI_eq hb ha, nI_ltI ha hb, nI_ltI hb ha, nI_leI ha hb, nI_leI hb ha] at h; omega
  · simp only [nI_eq ha hb, nI_eq hb ha, nI_ltI ha hb, nI_ltI hb ha, nI_leI ha hb, nI_leI hb ha] at h; omega
theorem j_ge (C : Cx p c cc nL s m args own E A) {x y : Int32} (a b : Nat) (hx : x = nI a) (hy : y = nI b) (ha : a < 2 ^ 31) (hb : b < 2 ^ 31) {off : Int} {tgt : Nat} (hdg : decode cc pc = .ok (.if_icmp .ge off, 3)) (ht : (pc : Int) + off = (tgt : Int)) (kt : b ≤ a → W p l e R s m args below meth c H locs 0 0 Q (F0 m tgt ls rest)) (kf : a < b → W p l e R s m args below meth c H locs 0 0 Q (F0 m (pc + 3) ls rest)) : W p l e R s m args below meth c H locs 0 0 Q (F0 m pc ls (.int y :: .int x :: rest)) := by
  subst hx hy
  refine lv_icmp_ge C.1 C.2.1 hdg ht (fun h => kt ?_) (fun h => kf ?_)
  · simp only [nI_eq ha hb, nI_eq hb ha, nI_ltI ha hb, nI_ltI hb ha, nI_leI ha hb, nI_leI hb ha] at h; omega
  · simp only [nI_eq ha hb, nI_eq hb ha, nI_ltI ha hb, nI_ltI hb ha, nI_leI ha hb, nI_leI hb ha] at h; omega
theorem j_gt (C : Cx p c cc nL s m args own E A) {x y : Int32} (a b : Nat) (hx : x = nI a) (hy : y = nI b) (ha : a < 2 ^ 31) (hb : b < 2 ^ 31) {off : Int} {tgt : Nat} (hdg : decode cc pc = .ok (.if_icmp .gt off, 3)) (ht : (pc : Int) + off = (tgt : Int)) (kt : b < a → W p l e R s m args below meth c H locs 0 0 Q (F0 m tgt ls rest)) (kf : a ≤ b → W p l e R s m args below meth c H locs 0 0 Q (F0 m (pc + 3) ls rest)) : W p l e R s m args below meth c H locs 0 0 Q (F0 m pc ls (.int y :: .int x :: rest)) := by
  subst hx hy
  refine lv_icmp_gt C.1 C.2.1 hdg ht (fun h => kt ?_) (fun h => kf ?_)
  · simp only [nI_eq ha hb, nI_eq hb ha, nI_ltI ha hb, nI_ltI hb ha, nI_leI ha hb, nI_leI hb ha] at h; omega
  · simp only [nI_eq ha hb, nI_eq hb ha, nI_ltI ha hb, nI_ltI hb ha, nI_leI ha hb, nI_leI hb ha] at h; omega
theorem j_le (C : Cx p c cc nL s m args own E A) {x y : Int32} (a b : Nat) (hx : x = nI a) (hy : y = nI b) (ha : a < 2 ^ 31) (hb : b < 2 ^ 31) {off : Int} {tgt : Nat} (hdg : decode cc pc = .ok (.if_icmp .le off, 3)) (ht : (pc : Int) + off = (tgt : Int)) (kt : a ≤ b → W p l e R s m args below meth c H locs 0 0 Q (F0 m tgt ls rest)) (kf : b < a → W p l e R s m args below meth c H locs 0 0 Q (F0 m (pc + 3) ls rest)) : W p l e R s m args below meth c H locs 0 0 Q (F0 m pc ls (.int y :: .int x :: rest)) := by
  subst hx hy
  refine lv_icmp_le C.1 C.2.1 hdg ht (fun h => kt ?_) (fun h => kf ?_)
  · simp only [nI_eq ha hb, nI_eq hb ha, nI_ltI ha hb, nI_ltI hb ha, nI_leI ha hb, nI_leI hb ha] at h; omega
  · simp only [nI_eq ha hb, nI_eq hb ha, nI_ltI ha hb, nI_ltI hb ha, nI_leI ha hb, nI_leI hb ha] at h; omega
theorem z_eq (C : Cx p c cc nL s m args own E A) {x : Int32} (a : Nat) (hx : x = nI a) (ha : a < 2 ^ 31) {off : Int} {tgt : Nat} (hdg : decode cc pc = .ok (.ifCond .eq off, 3)) (ht : (pc : Int) + off = (tgt : Int)) (kt : a = 0 → W p l e R s m args below meth c H locs 0 0 Q (F0 m tgt ls rest)) (kf : ¬ a = 0 → W p l e R s m args below meth c H locs 0 0 Q (F0 m (pc + 3) ls rest)) : W p l e R s m args below meth c H locs 0 0 Q (F0 m pc ls (.int x :: rest)) := by
  subst hx
  have h0 : (0 : Int32) = nI 0 := rfl
  refine lv_if_eq C.1 C.2.1 hdg ht (fun h => kt ?_) (fun h => kf ?_)
  · rw [h0, nI_eq ha (by omega)] at h; omega
  · rw [h0, nI_eq ha (by omega)] at h; omega
theorem z_ne (C : Cx p c cc nL s m args own E A) {x : Int32} (a : Nat) (hx : x = nI a) (ha : a < 2 ^ 31) {off : Int} {tgt : Nat} (hdg : decode cc pc = .ok (.ifCond .ne off, 3)) (ht : (pc : Int) + off = (tgt : Int)) (kt : ¬ a = 0 → W p l e R s m args below meth c H locs 0 0 Q (F0 m tgt ls rest)) (kf : a = 0 → W p l e R s m args below meth c H locs 0 0 Q (F0 m (pc + 3) ls rest)) : W p l e R s m args below meth c H locs 0 0 Q (F0 m pc ls (.int x :: rest)) := by
  subst hx
  have h0 : (0 : Int32) = nI 0 := rfl
  refine lv_if_ne C.1 C.2.1 hdg ht (fun h => kt ?_) (fun h => kf ?_)
  · rw [h0, nI_eq ha (by omega)] at h; omega
  · rw [h0, nI_eq ha (by omega)] at h; omega
theorem zb_eq (C : Cx p c cc nL s m args own E A) {x : Int32} (B : Bool) (hx : x = b2 B) {off : Int} {tgt : Nat} (hdg : decode cc pc = .ok (.ifCond .eq off, 3)) (ht : (pc : Int) + off = (tgt : Int)) (kt : B = false → W p l e R s m args below meth c H locs 0 0 Q (F0 m tgt ls rest)) (kf : B = true → W p l e R s m args below meth c H locs 0 0 Q (F0 m (pc + 3) ls rest)) : W p l e R s m args below meth c H locs 0 0 Q (F0 m pc ls (.int x :: rest)) := by
  subst hx
  refine lv_if_eq C.1 C.2.1 hdg ht (fun h => kt ?_) (fun h => kf ?_)
  · cases B <;> first | rfl | exact absurd h (by decide)
  · cases B <;> first | rfl | exact absurd h (by decide)
theorem zb_ne (C : Cx p c cc nL s m args own E A) {x : Int32} (B : Bool) (hx : x = b2 B) {off : Int} {tgt : Nat} (hdg : decode cc pc = .ok (.ifCond .ne off, 3)) (ht : (pc : Int) + off = (tgt : Int)) (kt : B = true → W p l e R s m args below meth c H locs 0 0 Q (F0 m tgt ls rest)) (kf : B = false → W p l e R s m args below meth c H locs 0 0 Q (F0 m (pc + 3) ls rest)) : W p l e R s m args below meth c H locs 0 0 Q (F0 m pc ls (.int x :: rest)) := by
  subst hx
  refine lv_if_ne C.1 C.2.1 hdg ht (fun h => kt ?_) (fun h => kf ?_)
  · cases B <;> first | rfl | exact absurd h (by decide)
  · cases B <;> first | rfl | exact absurd h (by decide)
end XB
