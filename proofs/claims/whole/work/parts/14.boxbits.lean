/-! ===== a box, place by place, and thirty-two places at once ===== -/
def bN (x : Int32) (i : Nat) : Nat := if bt x i = true then 1 else 0
theorem bN_lt (x : Int32) (i : Nat) : bN x i < 2 := by unfold bN; split <;> omega
theorem sh1 (x : Int32) {q : Nat} (hq : q < 32) : (x >>> (nI q &&& 31)) &&& nI 1 = nI (bN x q) := b_ext fun i hi => by
  rw [b_and, b_sshr q hq x hi, b_nI 1 hi, b_nI _ hi]
  unfold bN
  rcases i with _ | i
  · rw [if_pos (by omega), Nat.add_zero]
    rcases bt x q <;> rfl
  · have h1 : Nat.testBit 1 (i + 1) = false := by simp [Nat.testBit_succ]
    have h2 : Nat.testBit (if bt x q = true then 1 else 0) (i + 1) = false := by split <;> simp [Nat.testBit_succ]
    rw [h1, h2, Bool.and_false]
theorem and1 (x : Int32) : x &&& nI 1 = nI (bN x 0) := b_ext fun i hi => by
  rw [b_and, b_nI 1 hi, b_nI _ hi]
  unfold bN
  rcases i with _ | i
  · rcases bt x 0 <;> rfl
  · have h1 : Nat.testBit 1 (i + 1) = false := by simp [Nat.testBit_succ]
    have h2 : Nat.testBit (if bt x 0 = true then 1 else 0) (i + 1) = false := by split <;> simp [Nat.testBit_succ]
    rw [h1, h2, Bool.and_false]
theorem b_lbe (y : Int32) {i : Nat} (hi : i < 32) : bt (lbe y) i = bt y 0 := by
  unfold lbe
  rw [and1]
  unfold bN
  rcases hb : bt y 0 with _ | _
  · rw [if_neg (by decide)]
    exact (by decide +kernel : ∀ i, i < 32 → bt (-(nI 0)) i = false) i hi
  · rw [if_pos rfl]
    exact (by decide +kernel : ∀ i, i < 32 → bt (-(nI 1)) i = true) i hi
theorem b_plw (w y : Int32) {i : Nat} (hi : i < 32) : bt (plw w y) i = (bt w i == bt y 0) := by
  unfold plw
  rw [b_xor, b_xor, b_lbe y hi, b_m1 i hi]
  rcases bt w i <;> rcases bt y 0 <;> rfl
/-- what a box makes of a number: forth, back -/
def boxV : Nat → Nat → Nat → Int32
  | 0, wh, v => TB (16 * wh + v)
  | _ + 1, wh, v => nI (cSrc wh (nI v) 16)
def pbB (bk wh : Nat) (b0 b1 b2 b3 : Bool) (k : Nat) : Nat → Bool
  | 0 => false
  | j + 1 => pbB bk wh b0 b1 b2 b3 k j || (((((b0 == bt (pbFrom bk wh j) 0) && (b1 == bt (pbFrom bk wh j) 1)) && (b2 == bt (pbFrom bk wh j) 2)) && (b3 == bt (pbFrom bk wh j) 3)) && bt (pbTo bk wh j) k)
def n4 (b0 b1 b2 b3 : Bool) : Nat := 2 * (2 * (2 * (2 * 0 + (if b3 = true then 1 else 0)) + (if b2 = true then 1 else 0)) + (if b1 = true then 1 else 0)) + (if b0 = true then 1 else 0)
theorem pb_fin0 : ∀ wh, wh < 8 → ∀ b0 b1 b2 b3 : Bool, ∀ k, k < 4 → pbB 0 wh b0 b1 b2 b3 k 16 = bt (boxV 0 wh (n4 b0 b1 b2 b3)) k := by decide +kernel
theorem pb_fin1 : ∀ wh, wh < 8 → ∀ b0 b1 b2 b3 : Bool, ∀ k, k < 4 → pbB 1 wh b0 b1 b2 b3 k 16 = bt (boxV 1 wh (n4 b0 b1 b2 b3)) k := by decide +kernel
theorem b_sh0 (x : Int32) {q : Nat} (hq : q < 32) : bt (x >>> (nI q &&& 31)) 0 = bt x q := by
  rw [b_sshr q hq x (by omega), if_pos (by omega), Nat.add_zero]
theorem b_pbPl (bk wh : Nat) (x : Qd) (j : Nat) {i : Nat} (hi : i < 32) : bt (pbPl bk wh x j) i = ((((bt x.1 i == bt (pbFrom bk wh j) 0) && (bt x.2.1 i == bt (pbFrom bk wh j) 1)) && (bt x.2.2.1 i == bt (pbFrom bk wh j) 2)) && (bt x.2.2.2 i == bt (pbFrom bk wh j) 3)) := by
  unfold pbPl
  rw [b_and, b_and, b_and, b_plw _ _ hi, b_plw _ _ hi, b_plw _ _ hi, b_plw _ _ hi, b_sh0 _ (by omega), b_sh0 _ (by omega), b_sh0 _ (by omega)]
theorem b_pbN (bk wh : Nat) (x : Qd) {i : Nat} (hi : i < 32) : ∀ n : Nat, bt (pbN bk wh x n).1 i = pbB bk wh (bt x.1 i) (bt x.2.1 i) (bt x.2.2.1 i) (bt x.2.2.2 i) 0 n ∧ bt (pbN bk wh x n).2.1 i = pbB bk wh (bt x.1 i) (bt x.2.1 i) (bt x.2.2.1 i) (bt x.2.2.2 i) 1 n ∧ bt (pbN bk wh x n).2.2.1 i = pbB bk wh (bt x.1 i) (bt x.2.1 i) (bt x.2.2.1 i) (bt x.2.2.2 i) 2 n ∧ bt (pbN bk wh x n).2.2.2 i = pbB bk wh (bt x.1 i) (bt x.2.1 i) (bt x.2.2.1 i) (bt x.2.2.2 i) 3 n := by
  intro n
  induction n with
  | zero => exact ⟨b_0 i, b_0 i, b_0 i, b_0 i⟩
  | succ n ih =>
    obtain ⟨h0, h1, h2, h3⟩ := ih
    refine ⟨?_, ?_, ?_, ?_⟩
    · show bt ((pbN bk wh x n).1 ||| (pbPl bk wh x n &&& lbe (pbTo bk wh n))) i = _
      rw [b_or, b_and, h0, b_lbe _ hi, b_pbPl bk wh x n hi]
      rfl
    · show bt ((pbN bk wh x n).2.1 ||| (pbPl bk wh x n &&& lbe (pbTo bk wh n >>> (nI 1 &&& 31)))) i = _
      rw [b_or, b_and, h1, b_lbe _ hi, b_pbPl bk wh x n hi, b_sh0 _ (by omega)]
      rfl
    · show bt ((pbN bk wh x n).2.2.1 ||| (pbPl bk wh x n &&& lbe (pbTo bk wh n >>> (nI 2 &&& 31)))) i = _
      rw [b_or, b_and, h2, b_lbe _ hi, b_pbPl bk wh x n hi, b_sh0 _ (by omega)]
      rfl
    · show bt ((pbN bk wh x n).2.2.2 ||| (pbPl bk wh x n &&& lbe (pbTo bk wh n >>> (nI 3 &&& 31)))) i = _
      rw [b_or, b_and, h3, b_lbe _ hi, b_pbPl bk wh x n hi, b_sh0 _ (by omega)]
      rfl
/-- the number at a place of a block -/
def nibR (b : Nat → Int32) (pl : Nat) : Nat → Nat
  | 0 => 0
  | c + 1 => (2 * nibR b pl c) + bN (b (3 - c)) pl
theorem nibR_4 (b : Nat → Int32) (pl : Nat) : nibR b pl 4 = n4 (bt (b 0) pl) (bt (b 1) pl) (bt (b 2) pl) (bt (b 3) pl) := rfl
theorem nibR_lt (b : Nat → Int32) (pl : Nat) : nibR b pl 4 < 16 := by
  have h0 := bN_lt (b 0) pl
  have h1 := bN_lt (b 1) pl
  have h2 := bN_lt (b 2) pl
  have h3 := bN_lt (b 3) pl
  show 2 * (2 * (2 * (2 * 0 + bN (b 3) pl) + bN (b 2) pl) + bN (b 1) pl) + bN (b 0) pl < 16
  omega
def mAcc (bk wh : Nat) (b : Nat → Int32) (k : Nat) : Nat → Int32
  | 0 => nI 0
  | pl + 1 => mAcc bk wh b k pl ||| ((((boxV bk wh (nibR b pl 4)) >>> (nI k &&& 31)) &&& nI 1) <<< (nI pl &&& 31))
theorem b_mAcc (bk wh : Nat) (b : Nat → Int32) {k : Nat} (hk : k < 4) {i : Nat} (hi : i < 32) : ∀ n : Nat, n ≤ 32 → bt (mAcc bk wh b k n) i = (decide (i < n) && bt (boxV bk wh (nibR b i 4)) k) := by
  intro n
  induction n with
  | zero =>
    intro _
    rw [decide_eq_false (by omega), Bool.false_and]
    exact b_0 i
  | succ n ih =>
    intro hn
    show bt (mAcc bk wh b k n ||| ((((boxV bk wh (nibR b n 4)) >>> (nI k &&& 31)) &&& nI 1) <<< (nI n &&& 31))) i = _
    rw [b_or, ih (by omega), sh1 _ (by omega), b_shl n (by omega) _ hi]
    rcases Nat.lt_trichotomy i n with h | h | h
    · rw [decide_eq_true h, decide_eq_false (show ¬ n ≤ i by omega), decide_eq_true (show i < n + 1 by omega), Bool.false_and, Bool.or_false]
    · subst h
      rw [decide_eq_false (Nat.lt_irrefl i), decide_eq_true (Nat.le_refl i), decide_eq_true (Nat.lt_succ_self i), Nat.sub_self, Bool.false_and, Bool.false_or, Bool.true_and, Bool.true_and, b_nI _ (by omega)]
      unfold bN
      rcases bt (boxV bk wh (nibR b i 4)) k <;> rfl
    · rw [decide_eq_false (show ¬ i < n by omega), decide_eq_true (show n ≤ i by omega), decide_eq_false (show ¬ i < n + 1 by omega), Bool.false_and, Bool.false_or, Bool.true_and, b_nI _ (by omega)]
      obtain ⟨q, hq⟩ : ∃ q, i - n = q + 1 := ⟨i - n - 1, by omega⟩
      rw [hq]
      unfold bN
      split <;> simp [Nat.testBit_succ]
theorem pb_fin {bk wh : Nat} (hb : bk < 2) (hw : wh < 8) (b0 b1 b2 b3 : Bool) {k : Nat} (hk : k < 4) : pbB bk wh b0 b1 b2 b3 k 16 = bt (boxV bk wh (n4 b0 b1 b2 b3)) k := by
  rcases bk with _ | bk
  · exact pb_fin0 wh hw b0 b1 b2 b3 k hk
  · obtain rfl : bk = 0 := by omega
    exact pb_fin1 wh hw b0 b1 b2 b3 k hk
/-- the reference's box is the class's -/
theorem box_eq {bk wh : Nat} (hb : bk < 2) (hw : wh < 8) (b : Nat → Int32) : (mAcc bk wh b 0 32, mAcc bk wh b 1 32, mAcc bk wh b 2 32, mAcc bk wh b 3 32) = cBox bk wh (ld4 b 0) := by
  have hx : ∀ k, k < 4 → ∀ i, i < 32 → bt (mAcc bk wh b k 32) i = pbB bk wh (bt (b 0) i) (bt (b 1) i) (bt (b 2) i) (bt (b 3) i) k 16 := fun k hk i hi => by
    rw [b_mAcc bk wh b hk hi 32 (by omega), decide_eq_true hi, Bool.true_and, nibR_4, pb_fin hb hw _ _ _ _ hk]
  have e0 : mAcc bk wh b 0 32 = (cBox bk wh (ld4 b 0)).1 := b_ext fun i hi => (hx 0 (by omega) i hi).trans (b_pbN bk wh (ld4 b 0) hi 16).1.symm
  have e1 : mAcc bk wh b 1 32 = (cBox bk wh (ld4 b 0)).2.1 := b_ext fun i hi => (hx 1 (by omega) i hi).trans (b_pbN bk wh (ld4 b 0) hi 16).2.1.symm
  have e2 : mAcc bk wh b 2 32 = (cBox bk wh (ld4 b 0)).2.2.1 := b_ext fun i hi => (hx 2 (by omega) i hi).trans (b_pbN bk wh (ld4 b 0) hi 16).2.2.1.symm
  have e3 : mAcc bk wh b 3 32 = (cBox bk wh (ld4 b 0)).2.2.2 := b_ext fun i hi => (hx 3 (by omega) i hi).trans (b_pbN bk wh (ld4 b 0) hi 16).2.2.2.symm
  rw [e0, e1, e2, e3]
theorem iv_fin : ∀ wh, wh < 8 → ∀ v, v < 16 → cSrc wh (nI v) 16 < 16 ∧ TB (16 * wh + cSrc wh (nI v) 16) = nI v ∧ ∀ k, k < 16 → TB (16 * wh + k) = nI v → k = cSrc wh (nI v) 16 := by decide +kernel
