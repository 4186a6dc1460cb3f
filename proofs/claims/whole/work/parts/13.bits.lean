/-! ===== Int32 by its bits: bt x i ===== -/
def bt (x : Int32) (i : Nat) : Bool := x.toBitVec.getLsbD i
theorem b_ext {x y : Int32} (h : ∀ i, i < 32 → bt x i = bt y i) : x = y := Int32.toBitVec_inj.mp (BitVec.eq_of_getLsbD_eq (fun i hi => h i hi))
theorem b_or (x y : Int32) (i : Nat) : bt (x ||| y) i = (bt x i || bt y i) := by unfold bt; rw [Int32.toBitVec_or, BitVec.getLsbD_or]
theorem b_and (x y : Int32) (i : Nat) : bt (x &&& y) i = (bt x i && bt y i) := by unfold bt; rw [Int32.toBitVec_and, BitVec.getLsbD_and]
theorem b_xor (x y : Int32) (i : Nat) : bt (x ^^^ y) i = (bt x i ^^ bt y i) := by unfold bt; rw [Int32.toBitVec_xor, BitVec.getLsbD_xor]
theorem b_big {x : Int32} {i : Nat} (h : 32 ≤ i) : bt x i = false := BitVec.getLsbD_of_ge _ _ h
theorem b_255 (i : Nat) : bt 255 i = decide (i < 8) := by
  rcases Nat.lt_or_ge i 32 with h | h
  · exact (by decide +kernel : ∀ i, i < 32 → bt 255 i = decide (i < 8)) i h
  · rw [b_big h, decide_eq_false (by omega)]
theorem b_65535 (i : Nat) : bt 65535 i = decide (i < 16) := by
  rcases Nat.lt_or_ge i 32 with h | h
  · exact (by decide +kernel : ∀ i, i < 32 → bt 65535 i = decide (i < 16)) i h
  · rw [b_big h, decide_eq_false (by omega)]
theorem b_m1 : ∀ i, i < 32 → bt (-1) i = true := by decide +kernel
theorem b_0 (i : Nat) : bt 0 i = false := BitVec.getLsbD_zero
theorem s_l : ∀ n, n < 32 → ((nI n &&& 31).toBitVec.smod 32).toNat = n := by decide +kernel
theorem s_u : ∀ n, n < 32 → (((nI n).toUInt32 &&& Int32.toUInt32 31).toBitVec % 32).toNat = n := by decide +kernel
theorem b_shl (n : Nat) (hn : n < 32) (x : Int32) {i : Nat} (hi : i < 32) : bt (x <<< (nI n &&& 31)) i = (decide (n ≤ i) && bt x (i - n)) := by
  unfold bt
  rw [Int32.toBitVec_shiftLeft]
  show (x.toBitVec <<< ((nI n &&& 31).toBitVec.smod 32).toNat).getLsbD i = _
  rw [s_l n hn, BitVec.getLsbD_shiftLeft]
  rcases Nat.lt_or_ge i n with h | h
  · simp [h, Nat.not_le.mpr h]
  · simp [hi, h, Nat.not_lt.mpr h]
theorem b_ushr (n : Nat) (hn : n < 32) (x : Int32) (i : Nat) : bt ((x.toUInt32 >>> ((nI n).toUInt32 &&& Int32.toUInt32 31)).toInt32) i = bt x (n + i) := by
  show (x.toUInt32 >>> ((nI n).toUInt32 &&& Int32.toUInt32 31)).toBitVec.getLsbD i = x.toUInt32.toBitVec.getLsbD (n + i)
  rw [UInt32.toBitVec_shiftRight]
  show (x.toUInt32.toBitVec >>> (((nI n).toUInt32 &&& Int32.toUInt32 31).toBitVec % 32).toNat).getLsbD i = _
  rw [s_u n hn, BitVec.getLsbD_ushiftRight]
theorem b_sshr (n : Nat) (hn : n < 32) (x : Int32) {i : Nat} (hi : i < 32) : bt (x >>> (nI n &&& 31)) i = if n + i < 32 then bt x (n + i) else bt x 31 := by
  unfold bt
  rw [Int32.toBitVec_shiftRight]
  show (x.toBitVec.sshiftRight ((nI n &&& 31).toBitVec.smod 32).toNat).getLsbD i = _
  rw [s_l n hn, BitVec.getLsbD_sshiftRight, BitVec.msb_eq_getLsbD_last]
  simp [hi]
/-! ===== own rows over these ===== -/
theorem b_nI (v : Nat) {i : Nat} (hi : i < 32) : bt (nI v) i = v.testBit i := by
  show (BitVec.ofNat 32 v).getLsbD i = _
  rw [BitVec.getLsbD_ofNat, decide_eq_true hi, Bool.true_and]
theorem tn_inj {x y : Int32} (h : x.toBitVec.toNat = y.toBitVec.toNat) : x = y := Int32.toBitVec_inj.mp (BitVec.eq_of_toNat_eq h)
theorem add_or {x y : Int32} (h : x &&& y = 0) : x + y = x ||| y := by
  apply Int32.toBitVec_inj.mp
  rw [Int32.toBitVec_add, Int32.toBitVec_or]
  refine BitVec.add_eq_or_of_and_eq_zero _ _ ?_
  have h1 := congrArg Int32.toBitVec h
  rw [Int32.toBitVec_and] at h1
  exact h1
theorem b_neg (x : Int32) : x < 0 ↔ bt x 31 = true := by
  have h : bt x 31 = decide (x.toBitVec.toInt < 0) := by rw [← BitVec.msb_eq_toInt, BitVec.msb_eq_getLsbD_last]; rfl
  rw [h, decide_eq_true_eq, Int32.lt_iff_toInt_lt]
  rfl
theorem dbl (x : Int32) : x + x = x <<< (nI 1 &&& 31) := by
  apply tn_inj
  rw [pk_shl x (nI 1 &&& 31) 1 (by decide +kernel), Int32.toBitVec_add, BitVec.toNat_add]
  congr 1
  omega
theorem mul8 (x : Int32) : x * nI 8 = x <<< (nI 3 &&& 31) := by
  apply tn_inj
  rw [pk_shl x (nI 3 &&& 31) 3 (by decide +kernel), Int32.toBitVec_mul, BitVec.toNat_mul]
  rfl
theorem mul128 (x : Int32) : x * nI 128 = x <<< (nI 7 &&& 31) := by
  apply tn_inj
  rw [pk_shl x (nI 7 &&& 31) 7 (by decide +kernel), Int32.toBitVec_mul, BitVec.toNat_mul]
  rfl
/-- one turn to the left, as the reference does it -/
def mStep (x : Int32) : Int32 := (x + x) + (if x < 0 then nI 1 else nI 0)
theorem b_step (x : Int32) {i : Nat} (hi : i < 32) : bt (mStep x) i = if i = 0 then bt x 31 else bt x (i - 1) := by
  unfold mStep
  rw [dbl]
  have hz : (x <<< (nI 1 &&& 31)) &&& nI 1 = 0 := by
    apply b_ext
    intro k hk
    rw [b_and, b_shl 1 (by omega) x hk, b_nI 1 hk, b_0]
    rcases k with _ | k
    · rfl
    · have : Nat.testBit 1 (k + 1) = false := by simp [Nat.testBit_succ]
      rw [this, Bool.and_false]
  by_cases hn : x < 0
  · rw [if_pos hn, add_or hz, b_or, b_shl 1 (by omega) x hi, b_nI 1 hi]
    rcases i with _ | i
    · rw [if_pos rfl, (b_neg x).mp hn]; rfl
    · have : Nat.testBit 1 (i + 1) = false := by simp [Nat.testBit_succ]
      rw [if_neg (by omega), this, Bool.or_false, decide_eq_true (by omega), Bool.true_and]
  · have h31 : bt x 31 = false := by
      rcases hb : bt x 31 with _ | _
      · rfl
      · exact absurd ((b_neg x).mpr hb) hn
    rw [if_neg hn, show nI 0 = (0 : Int32) from rfl, Int32.add_zero, b_shl 1 (by omega) x hi]
    rcases i with _ | i
    · rw [if_pos rfl, h31]; rfl
    · rw [if_neg (by omega), decide_eq_true (by omega), Bool.true_and]
def mL (v : Int32) : Nat → Int32
  | 0 => v
  | i + 1 => mStep (mL v i)
theorem b_mL (v : Int32) : ∀ (n : Nat), n ≤ 32 → ∀ {i : Nat}, i < 32 → bt (mL v n) i = bt v ((i + (32 - n)) % 32) := by
  intro n
  induction n with
  | zero =>
    intro _ i hi
    show bt v i = _
    congr 1
    omega
  | succ n ih =>
    intro hn i hi
    show bt (mStep (mL v n)) i = _
    rw [b_step _ hi]
    by_cases h0 : i = 0
    · rw [if_pos h0, ih (by omega) (by omega)]
      congr 1
      omega
    · rw [if_neg h0, ih (by omega) (by omega)]
      congr 1
      omega
theorem neg_u : ∀ n, n < 32 → 0 < n → ((-(nI n)).toUInt32 &&& Int32.toUInt32 31) = ((nI (32 - n)).toUInt32 &&& Int32.toUInt32 31) := by decide +kernel
theorem neg_l : ∀ n, n < 32 → 0 < n → (-(nI n)) &&& 31 = (nI (32 - n) &&& 31 : Int32) := by decide +kernel
theorem b_rotL (x : Int32) {n : Nat} (h0 : 0 < n) (hn : n < 32) {i : Nat} (hi : i < 32) : bt (rotL x (nI n)) i = bt x ((i + (32 - n)) % 32) := by
  unfold rotL
  rw [neg_u n hn h0, b_or, b_shl n hn x hi, b_ushr (32 - n) (by omega)]
  by_cases h : n ≤ i
  · rw [decide_eq_true h, Bool.true_and, b_big (x := x) (i := 32 - n + i) (by omega), Bool.or_false]
    congr 1
    omega
  · rw [decide_eq_false h, Bool.false_and, Bool.false_or]
    congr 1
    omega
theorem b_rotR (x : Int32) {n : Nat} (h0 : 0 < n) (hn : n < 32) {i : Nat} (hi : i < 32) : bt (rotR x (nI n)) i = bt x ((i + n) % 32) := by
  unfold rotR
  rw [neg_l n hn h0, b_or, b_shl (32 - n) (by omega) x hi, b_ushr n hn]
  by_cases h : 32 - n ≤ i
  · rw [decide_eq_true h, Bool.true_and, b_big (x := x) (i := n + i) (by omega), Bool.false_or]
    congr 1
    omega
  · rw [decide_eq_false h, Bool.false_and, Bool.or_false]
    congr 1
    omega
theorem mL_rotL (v : Int32) {n : Nat} (h0 : 0 < n) (hn : n < 32) : mL v n = rotL v (nI n) := b_ext fun i hi => by rw [b_mL v n (by omega) hi, b_rotL v h0 hn hi]
theorem mL_rotR (v : Int32) {n : Nat} (h0 : 0 < n) (hn : n < 32) : mL v (32 - n) = rotR v (nI n) := b_ext fun i hi => by
  rw [b_mL v (32 - n) (by omega) hi, b_rotR v h0 hn hi]
  congr 1
  omega
theorem t255 : ∀ i, i < 32 → bt (nI 255) i = decide (i < 8) := by decide +kernel
/-- a byte of a word: by either shift -/
theorem byte_sh (x : Int32) {q : Nat} (hq : q < 4) : (x >>> (nI (8 * q) &&& 31)) &&& nI 255 = ((x.toUInt32 >>> ((nI (8 * q)).toUInt32 &&& Int32.toUInt32 31)).toInt32) &&& nI 255 := b_ext fun i hi => by
  rw [b_and, b_and, t255 i hi]
  by_cases h : i < 8
  · rw [b_sshr (8 * q) (by omega) x hi, b_ushr (8 * q) (by omega), if_pos (by omega)]
  · rw [decide_eq_false h, Bool.and_false, Bool.and_false]
theorem cKB_byte (K : Nat → Int32) (kb n : Nat) : ∃ b, b < 256 ∧ cKB K kb n = nI b := by
  unfold cKB
  by_cases h : n < kb
  · rw [if_pos h]
    exact pk_andE _ 8 (by decide +kernel)
  · rw [if_neg h]
    by_cases h2 : n = kb
    · exact ⟨1, by omega, if_pos h2⟩
    · exact ⟨0, by omega, if_neg h2⟩
theorem b_byte {b i : Nat} (hb : b < 256) (h8 : 8 ≤ i) : bt (nI b) i = false := by
  rcases Nat.lt_or_ge i 32 with h | h
  · rw [b_nI b h]
    exact Nat.testBit_lt_two_pow (Nat.lt_of_lt_of_le hb (Nat.pow_le_pow_right (n := 2) (by omega) h8))
  · exact b_big h
theorem shl0 (x : Int32) : x <<< (nI 0 &&& 31) = x := b_ext fun i hi => by
  rw [b_shl 0 (by omega) x hi]
  simp
theorem z_or (x : Int32) : nI 0 ||| x = x := b_ext fun i hi => by rw [b_or, show nI 0 = (0 : Int32) from rfl, b_0, Bool.false_or]
/-- a key's word out of its four bytes, added -/
theorem cKW_sum (K : Nat → Int32) (kb wd : Nat) : ((cKB K kb (4 * wd) + (cKB K kb (4 * wd + 1) <<< (nI 8 &&& 31))) + (cKB K kb (4 * wd + 2) <<< (nI 16 &&& 31))) + (cKB K kb (4 * wd + 3) <<< (nI 24 &&& 31)) = cKW K kb wd 4 := by
  obtain ⟨b0, h0, e0⟩ := cKB_byte K kb (4 * wd)
  obtain ⟨b1, h1, e1⟩ := cKB_byte K kb (4 * wd + 1)
  obtain ⟨b2, h2, e2⟩ := cKB_byte K kb (4 * wd + 2)
  obtain ⟨b3, h3, e3⟩ := cKB_byte K kb (4 * wd + 3)
  show _ = (((nI 0 ||| (cKB K kb (4 * wd) <<< (nI (8 * 0) &&& 31))) ||| (cKB K kb (4 * wd + 1) <<< (nI (8 * 1) &&& 31))) ||| (cKB K kb (4 * wd + 2) <<< (nI (8 * 2) &&& 31))) ||| (cKB K kb (4 * wd + 3) <<< (nI (8 * 3) &&& 31))
  rw [e0, e1, e2, e3, shl0, z_or]
  have s1 : nI b0 + (nI b1 <<< (nI 8 &&& 31)) = nI b0 ||| (nI b1 <<< (nI 8 &&& 31)) := add_or (b_ext fun i hi => by
    rw [b_and, b_0, b_shl 8 (by omega) _ hi]
    by_cases h : 8 ≤ i
    · rw [b_byte h0 h, Bool.false_and]
    · rw [decide_eq_false h, Bool.false_and, Bool.and_false])
  have s2 : (nI b0 ||| (nI b1 <<< (nI 8 &&& 31))) + (nI b2 <<< (nI 16 &&& 31)) = (nI b0 ||| (nI b1 <<< (nI 8 &&& 31))) ||| (nI b2 <<< (nI 16 &&& 31)) := add_or (b_ext fun i hi => by
    rw [b_and, b_0, b_or, b_shl 8 (by omega) _ hi, b_shl 16 (by omega) _ hi]
    by_cases h : 16 ≤ i
    · rw [b_byte h0 (by omega), b_byte h1 (i := i - 8) (by omega), Bool.and_false, Bool.or_false, Bool.false_and]
    · rw [decide_eq_false h, Bool.false_and, Bool.and_false])
  have s3 : ((nI b0 ||| (nI b1 <<< (nI 8 &&& 31))) ||| (nI b2 <<< (nI 16 &&& 31))) + (nI b3 <<< (nI 24 &&& 31)) = ((nI b0 ||| (nI b1 <<< (nI 8 &&& 31))) ||| (nI b2 <<< (nI 16 &&& 31))) ||| (nI b3 <<< (nI 24 &&& 31)) := add_or (b_ext fun i hi => by
    rw [b_and, b_0, b_or, b_or, b_shl 8 (by omega) _ hi, b_shl 16 (by omega) _ hi, b_shl 24 (by omega) _ hi]
    by_cases h : 24 ≤ i
    · rw [b_byte h0 (by omega), b_byte h1 (i := i - 8) (by omega), b_byte h2 (i := i - 16) (by omega), Bool.and_false, Bool.and_false, Bool.or_false, Bool.or_false, Bool.false_and]
    · rw [decide_eq_false h, Bool.false_and, Bool.and_false])
  rw [s1, s2, s3]
