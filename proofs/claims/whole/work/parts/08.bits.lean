def bt (x : Int32) (i : Nat) : Bool := x.toBitVec.getLsbD i
theorem b_ext {x y : Int32} (h : ∀ i, i < 32 → bt x i = bt y i) : x = y := Int32.toBitVec_inj.mp (BitVec.eq_of_getLsbD_eq (fun i hi => h i hi))
theorem b_or (x y : Int32) (i : Nat) : bt (x ||| y) i = (bt x i || bt y i) := by unfold bt; rw [Int32.toBitVec_or, BitVec.getLsbD_or]
theorem b_and (x y : Int32) (i : Nat) : bt (x &&& y) i = (bt x i && bt y i) := by unfold bt; rw [Int32.toBitVec_and, BitVec.getLsbD_and]
theorem b_xor (x y : Int32) (i : Nat) : bt (x ^^^ y) i = (bt x i ^^ bt y i) := by unfold bt; rw [Int32.toBitVec_xor, BitVec.getLsbD_xor]
theorem b_big {x : Int32} {i : Nat} (h : 32 ≤ i) : bt x i = false := BitVec.getLsbD_of_ge _ _ h
theorem b_255 (i : Nat) : bt 255 i = decide (i < 8) := by
  rcases Nat.lt_or_ge i 32 with h | h
  · exact (by decide +kernel : ∀ i, i < 32 → bt 255 i = decide (i < 8)) i h
  · rw [b_big h, decide_eq_false (by omega)]
theorem b_65535 (i : Nat) : bt 65535 i = decide (i < 16) := by
  rcases Nat.lt_or_ge i 32 with h | h
  · exact (by decide +kernel : ∀ i, i < 32 → bt 65535 i = decide (i < 16)) i h
  · rw [b_big h, decide_eq_false (by omega)]
theorem b_m1 : ∀ i, i < 32 → bt (-1) i = true := by decide +kernel
theorem b_0 (i : Nat) : bt 0 i = false := BitVec.getLsbD_zero
theorem s_l : ∀ n, n < 32 → ((nI n &&& 31).toBitVec.smod 32).toNat = n := by decide +kernel
theorem s_u : ∀ n, n < 32 → (((nI n).toUInt32 &&& Int32.toUInt32 31).toBitVec % 32).toNat = n := by decide +kernel
theorem b_shl (n : Nat) (hn : n < 32) (x : Int32) {i : Nat} (hi : i < 32) : bt (x <<< (nI n &&& 31)) i = (decide (n ≤ i) && bt x (i - n)) := by
  unfold bt
  rw [Int32.toBitVec_shiftLeft]
  show (x.toBitVec <<< ((nI n &&& 31).toBitVec.smod 32).toNat).getLsbD i = _
  rw [s_l n hn, BitVec.getLsbD_shiftLeft]
  rcases Nat.lt_or_ge i n with h | h
  · simp [h, Nat.not_le.mpr h]
  · simp [hi, h, Nat.not_lt.mpr h]
theorem b_ushr (n : Nat) (hn : n < 32) (x : Int32) (i : Nat) : bt ((x.toUInt32 >>> ((nI n).toUInt32 &&& Int32.toUInt32 31)).toInt32) i = bt x (n + i) := by
  show (x.toUInt32 >>> ((nI n).toUInt32 &&& Int32.toUInt32 31)).toBitVec.getLsbD i = x.toUInt32.toBitVec.getLsbD (n + i)
  rw [UInt32.toBitVec_shiftRight]
  show (x.toUInt32.toBitVec >>> (((nI n).toUInt32 &&& Int32.toUInt32 31).toBitVec % 32).toNat).getLsbD i = _
  rw [s_u n hn, BitVec.getLsbD_ushiftRight]
theorem b_sshr (n : Nat) (hn : n < 32) (x : Int32) {i : Nat} (hi : i < 32) : bt (x >>> (nI n &&& 31)) i = if n + i < 32 then bt x (n + i) else bt x 31 := by
  unfold bt
  rw [Int32.toBitVec_shiftRight]
  show (x.toBitVec.sshiftRight ((nI n &&& 31).toBitVec.smod 32).toNat).getLsbD i = _
  rw [s_l n hn, BitVec.getLsbD_sshiftRight, BitVec.msb_eq_getLsbD_last]
  simp [hi]
theorem bt_cm1 (w v : Int32) {i : Nat} (hi : i < 32) : bt (cm1 w v) i = ((decide (8 ≤ i) && bt w (i - 8)) || bt v i) := by
  unfold cm1 sl
  rw [b_or, b_shl 8 (by omega) w hi]
theorem cm1_kill (w w' v0 v1 v2 v3 : Int32) : cm1 (cm1 (cm1 (cm1 w v0) v1) v2) v3 = cm1 (cm1 (cm1 (cm1 w' v0) v1) v2) v3 := by
  apply b_ext
  intro i hi
  rw [bt_cm1 _ _ hi, bt_cm1 _ _ (by omega), bt_cm1 _ _ (by omega), bt_cm1 _ _ (by omega), bt_cm1 _ _ hi, bt_cm1 _ _ (by omega), bt_cm1 _ _ (by omega), bt_cm1 _ _ (by omega), decide_eq_false (show ¬ 8 ≤ i - 8 - 8 - 8 by omega)]
  simp
/-- the words behind i bytes of a block, loaded over old ones -/
def ldW (b : Nat → Int32) (n j : Nat) (w : Nat → Int32) : Nat → Nat → Int32
  | 0 => w
  | i + 1 => upd (ldW b n j w i) (i / 4) (cm1 (ldW b n j w i (i / 4)) (pv b n (j * 64 + i)))
theorem ldW_keep {b : Nat → Int32} {n j : Nat} {w : Nat → Int32} {k : Nat} (i : Nat) : ∀ d, (∀ q, i ≤ q → q < i + d → q / 4 ≠ k) → ldW b n j w (i + d) k = ldW b n j w i k := by
  intro d
  induction d with
  | zero => intro _; rfl
  | succ d ih =>
    intro h
    show upd (ldW b n j w (i + d)) ((i + d) / 4) _ k = _
    unfold upd
    rw [if_neg (Ne.symm (h (i + d) (by omega) (by omega)))]
    exact ih (fun q h1 h2 => h q h1 (by omega))
theorem ldW_one {b : Nat → Int32} {n j : Nat} {w : Nat → Int32} {k : Nat} (i : Nat) (h : i / 4 = k) : ldW b n j w (i + 1) k = cm1 (ldW b n j w i k) (pv b n (j * 64 + i)) := by
  show upd _ _ _ k = _
  unfold upd
  rw [if_pos h.symm, h]
theorem ldW_all {b : Nat → Int32} {n j : Nat} {w : Nat → Int32} {k : Nat} (hk : k < 16) : ldW b n j w 64 k = wd b n j k := by
  have h1 : ldW b n j w 64 k = ldW b n j w (4 * k + 4) k := by
    have := ldW_keep (b := b) (n := n) (j := j) (w := w) (k := k) (4 * k + 4) (64 - (4 * k + 4)) (fun q h1 h2 => by omega)
    rw [show 4 * k + 4 + (64 - (4 * k + 4)) = 64 by omega] at this
    exact this
  rw [h1, ldW_one (4 * k + 3) (by omega), ldW_one (4 * k + 2) (by omega), ldW_one (4 * k + 1) (by omega), ldW_one (4 * k) (by omega)]
  unfold wd
  rw [cm1_kill _ (nI 0)]
  simp only [Nat.add_assoc]
theorem bt_nI (n : Nat) {i : Nat} (hi : i < 32) : bt (nI n) i = n.testBit i := by
  unfold bt nI
  show (BitVec.ofNat 32 n).getLsbD i = _
  rw [BitVec.getLsbD_ofNat]
  simp [hi]
/-- a word out of its four bytes -/
theorem cm1_word {x : Nat} : cm1 (cm1 (cm1 (cm1 (nI 0) (nI (x / 16777216 % 256))) (nI (x / 65536 % 256))) (nI (x / 256 % 256))) (nI (x % 256)) = nI x := by
  apply b_ext
  intro i hi
  have hb : ∀ (s i : Nat), (x / 2 ^ s % 2 ^ 8).testBit i = (decide (i < 8) && x.testBit (s + i)) := by
    intro s i
    rw [Nat.testBit_mod_two_pow, Nat.testBit_div_two_pow, Nat.add_comm]
  have h24 := hb 24
  have h16 := hb 16
  have h8 := hb 8
  have h0 := hb 0
  simp only [Nat.reducePow, Nat.div_one, Nat.zero_add] at h24 h16 h8 h0
  rw [bt_cm1 _ _ hi, bt_cm1 _ _ (by omega), bt_cm1 _ _ (by omega), bt_cm1 _ _ (by omega), bt_nI _ hi, bt_nI _ hi, bt_nI _ (by omega), bt_nI _ (by omega), bt_nI _ (by omega), bt_nI _ (by omega), h24, h16, h8, h0, decide_eq_false (show ¬ 8 ≤ i - 8 - 8 - 8 by omega)]
  by_cases c1 : i < 8
  · simp [c1, Nat.not_le.mpr c1]
  · by_cases c2 : i < 16
    · rw [decide_eq_true (show 8 ≤ i by omega), decide_eq_false (show ¬ i < 8 by omega), decide_eq_false (show ¬ 8 ≤ i - 8 by omega), decide_eq_true (show i - 8 < 8 by omega), show 8 + (i - 8) = i by omega]
      simp
    · by_cases c3 : i < 24
      · rw [decide_eq_true (show 8 ≤ i by omega), decide_eq_false (show ¬ i < 8 by omega), decide_eq_true (show 8 ≤ i - 8 by omega), decide_eq_false (show ¬ i - 8 < 8 by omega), decide_eq_false (show ¬ 8 ≤ i - 8 - 8 by omega), decide_eq_true (show i - 8 - 8 < 8 by omega), show 16 + (i - 8 - 8) = i by omega]
        simp
      · rw [decide_eq_true (show 8 ≤ i by omega), decide_eq_false (show ¬ i < 8 by omega), decide_eq_true (show 8 ≤ i - 8 by omega), decide_eq_false (show ¬ i - 8 < 8 by omega), decide_eq_true (show 8 ≤ i - 8 - 8 by omega), decide_eq_false (show ¬ i - 8 - 8 < 8 by omega), decide_eq_true (show i - 8 - 8 - 8 < 8 by omega), show 24 + (i - 8 - 8 - 8) = i by omega]
        simp
