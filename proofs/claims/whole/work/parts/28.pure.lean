/-! ===== the class's functions and the reference's give the same ===== -/
def agr (F G : Nat → Int32) : Prop := ∀ i, 8 ≤ i → i < 140 → F i = G i
theorem agr_ld {F G : Nat → Int32} (h : agr F G) {r : Nat} (hr : r ≤ 32) : ld4 F (8 + 4 * r) = ld4 G (8 + 4 * r) := by
  unfold ld4
  rw [h _ (by omega) (by omega), h (8 + 4 * r + 1) (by omega) (by omega), h (8 + 4 * r + 2) (by omega) (by omega), h (8 + 4 * r + 3) (by omega) (by omega)]
theorem cEncR_congr {F G : Nat → Int32} (h : agr F G) (x : Qd) : ∀ r, r ≤ 32 → cEncR F x r = cEncR G x r := by
  intro r
  induction r with
  | zero => intro _; rfl
  | succ r ih =>
    intro hr
    show (if r < 31 then _ else _) = (if r < 31 then _ else _)
    rw [ih (by omega), agr_ld h (by omega)]
theorem cEnc_congr {F G : Nat → Int32} (h : agr F G) : cEnc F = cEnc G := by
  funext x
  unfold cEnc
  rw [cEncR_congr h x 32 (by omega), agr_ld h (by omega)]
theorem cDecR_congr {F G : Nat → Int32} (h : agr F G) (x : Qd) : ∀ k, k ≤ 32 → cDecR F x k = cDecR G x k := by
  intro k
  induction k with
  | zero =>
    intro _
    show x4 x (ld4 F (8 + 4 * 32)) = x4 x (ld4 G (8 + 4 * 32))
    rw [agr_ld h (by omega)]
  | succ k ih =>
    intro hk
    show x4 (cBox 1 ((31 - k) % 8) (if 31 - k < 31 then cUnmix (cDecR F x k) else cDecR F x k)) (ld4 F (8 + 4 * (31 - k))) = x4 (cBox 1 ((31 - k) % 8) (if 31 - k < 31 then cUnmix (cDecR G x k) else cDecR G x k)) (ld4 G (8 + 4 * (31 - k)))
    rw [ih (by omega), agr_ld h (by omega)]
theorem cDec_congr {F G : Nat → Int32} (h : agr F G) : cDec F = cDec G := by
  funext x
  exact cDecR_congr h x 32 (by omega)
theorem cEach_congr {F G : Nat → Int32} (h : agr F G) (bk : Nat) (f : Nat → Int32) (k : Nat) : cEach bk F f k = cEach bk G f k := by
  induction k with
  | zero => rfl
  | succ k ih =>
    show st4 (cEach bk F f k) (4 * k) (if bk = 0 then cEnc F (ld4 (cEach bk F f k) (4 * k)) else cDec F (ld4 (cEach bk F f k) (4 * k))) = st4 (cEach bk G f k) (4 * k) (if bk = 0 then cEnc G (ld4 (cEach bk G f k) (4 * k)) else cDec G (ld4 (cEach bk G f k) (4 * k)))
    rw [ih, cEnc_congr h, cDec_congr h]
theorem cChain_congr {F G : Nat → Int32} (h : agr F G) (S f : Nat → Int32) (k : Nat) : cChain F S f k = cChain G S f k := by
  induction k with
  | zero => rfl
  | succ k ih =>
    show st4 (cPrev S (cChain F S f k) k) (4 * k) (cEnc F (ld4 (cPrev S (cChain F S f k) k) (4 * k))) = st4 (cPrev S (cChain G S f k) k) (4 * k) (cEnc G (ld4 (cPrev S (cChain G S f k) k) (4 * k)))
    rw [ih, cEnc_congr h]
theorem slQ_congr {F G : Nat → Int32} (h : agr F G) (f : Nat → Int32) (k : Nat) : slQ F f k = slQ G f k := by
  induction k with
  | zero => rfl
  | succ k ih =>
    show cEnc F (x4 (ld4 f (4 * k)) (slQ F f k)) = cEnc G (x4 (ld4 f (4 * k)) (slQ G f k))
    rw [ih, cEnc_congr h]
theorem cIncF_congr {C E : Nat → Int32} : ∀ (n j : Nat) {C E : Nat → Int32}, j + n ≤ 4 → (∀ i, i < 4 → C i = E i) → ∀ i, i < 4 → cIncF C n j i = cIncF E n j i := by
  intro n
  induction n with
  | zero => intro j C E _ h i hi; exact h i hi
  | succ n ih =>
    intro j C E hj h i hi
    have hu : ∀ i, i < 4 → upd C j (C j + nI 1) i = upd E j (E j + nI 1) i := fun i hi => by
      unfold upd
      rw [h j (by omega), h i hi]
    show (if upd C j (C j + nI 1) j = 0 then cIncF (upd C j (C j + nI 1)) n (j + 1) else upd C j (C j + nI 1)) i = (if upd E j (E j + nI 1) j = 0 then cIncF (upd E j (E j + nI 1)) n (j + 1) else upd E j (E j + nI 1)) i
    rw [hu j (by omega)]
    by_cases hc : upd E j (E j + nI 1) j = 0
    · rw [if_pos hc, if_pos hc]
      exact ih (j + 1) (by omega) hu i hi
    · rw [if_neg hc, if_neg hc]
      exact hu i hi
theorem ld4_iff {C E : Nat → Int32} : ld4 C 0 = ld4 E 0 ↔ ∀ i, i < 4 → C i = E i := by
  constructor
  · intro h i hi
    have h0 : C 0 = E 0 := congrArg (fun q : Qd => q.1) h
    have h1 : C 1 = E 1 := congrArg (fun q : Qd => q.2.1) h
    have h2 : C 2 = E 2 := congrArg (fun q : Qd => q.2.2.1) h
    have h3 : C 3 = E 3 := congrArg (fun q : Qd => q.2.2.2) h
    rcases (show i = 0 ∨ i = 1 ∨ i = 2 ∨ i = 3 by omega) with rfl | rfl | rfl | rfl <;> assumption
  · intro h
    unfold ld4
    rw [h 0 (by omega), h (0 + 1) (by omega), h (0 + 2) (by omega), h (0 + 3) (by omega)]
theorem cCnt_congr {C E : Nat → Int32} (h : ld4 C 0 = ld4 E 0) (k : Nat) : ld4 (cCnt C k) 0 = ld4 (cCnt E k) 0 := by
  induction k with
  | zero => exact h
  | succ k ih => exact ld4_iff.mpr (cIncF_congr (C := C) (E := E) 4 0 (by omega) (ld4_iff.mp ih))
theorem cMT_congr {F G C E : Nat → Int32} (h : agr F G) (hC : ld4 C 0 = ld4 E 0) (f : Nat → Int32) (k : Nat) : cMT F C f k = cMT G E f k := by
  induction k with
  | zero => rfl
  | succ k ih =>
    show st4 (cMT F C f k) (4 * k) (x4 (ld4 (cMT F C f k) (4 * k)) (cEnc F (ld4 (cCnt C k) 0))) = st4 (cMT G E f k) (4 * k) (x4 (ld4 (cMT G E f k) (4 * k)) (cEnc G (ld4 (cCnt E k) 0)))
    rw [ih, cEnc_congr h, cCnt_congr hC]
/-! chained, back: from the end, from the start -/
theorem st4_in (f : Nat → Int32) (a : Nat) (x : Qd) {i : Nat} (hi : i < 4) : st4 f a x (a + i) = qs x i := by
  rcases (show i = 0 ∨ i = 1 ∨ i = 2 ∨ i = 3 by omega) with rfl | rfl | rfl | rfl <;> simp [st4, upd, qs]
theorem ld4_out (f : Nat → Int32) {a b : Nat} (x : Qd) (h : b + 4 ≤ a ∨ a + 4 ≤ b) : ld4 (st4 f a x) b = ld4 f b := by
  unfold ld4
  rw [st4_out f x (by omega), st4_out f x (by omega), st4_out f x (by omega), st4_out f x (by omega)]
def unV (F S f : Nat → Int32) (j : Nat) : Int32 := qs (x4 (cDec F (ld4 f (4 * (j / 4)))) (pvU S f (j / 4))) (j % 4)
theorem mUn_val (F S f : Nat → Int32) : ∀ k j, mUn F S f k j = if j < 4 * k then unV F S f j else f j := by
  intro k
  induction k with
  | zero => intro j; rw [if_neg (by omega)]; rfl
  | succ k ih =>
    intro j
    show st4 (mUn F S f k) (4 * k) (x4 (cDec F (ld4 f (4 * k))) (pvU S f k)) j = _
    by_cases h1 : j < 4 * k
    · rw [st4_out _ _ (by omega), ih, if_pos h1, if_pos (by omega)]
    · by_cases h2 : j < 4 * (k + 1)
      · rw [if_pos h2]
        obtain ⟨i, hi, rfl⟩ : ∃ i, i < 4 ∧ j = 4 * k + i := ⟨j - 4 * k, by omega, by omega⟩
        rw [st4_in _ _ _ hi]
        unfold unV
        rw [show (4 * k + i) / 4 = k from by omega, show (4 * k + i) % 4 = i from by omega]
      · rw [st4_out _ _ (by omega), ih, if_neg h1, if_neg h2]
theorem cUn_val (F S f : Nat → Int32) (nb : Nat) : ∀ i, i ≤ nb → ∀ j, cUn F S f nb i j = if 4 * (nb - i) ≤ j ∧ j < 4 * nb then unV F S f j else f j := by
  intro i
  induction i with
  | zero => intro _ j; rw [if_neg (by omega)]; rfl
  | succ i ih =>
    intro hi j
    obtain ⟨k, hk⟩ : ∃ k, nb - (i + 1) = k := ⟨_, rfl⟩
    have hg : ∀ b, b + 4 ≤ 4 * (nb - i) → ld4 (cUn F S f nb i) b = ld4 f b := fun b hb => by
      unfold ld4
      rw [ih (by omega), ih (by omega), ih (by omega), ih (by omega), if_neg (by omega), if_neg (by omega), if_neg (by omega), if_neg (by omega)]
    have hs : cUn F S f nb (i + 1) = st4 (cUn F S f nb i) (4 * k) (x4 (cDec F (ld4 f (4 * k))) (pvU S f k)) := by
      show cPrev S (st4 (cUn F S f nb i) (4 * (nb - (i + 1))) (cDec F (ld4 (cUn F S f nb i) (4 * (nb - (i + 1)))))) (nb - (i + 1)) = _
      rw [hk, hg (4 * k) (by omega)]
      rcases k with _ | k
      · show st4 (st4 (cUn F S f nb i) (4 * 0) _) 0 (x4 (ld4 (st4 (cUn F S f nb i) (4 * 0) _) 0) (ld4 S 0)) = _
        rw [show 4 * 0 = 0 from rfl, ld4_st4, st4_st4]
        rfl
      · show st4 (st4 (cUn F S f nb i) (4 * (k + 1)) _) (4 * (k + 1)) (x4 (ld4 (st4 (cUn F S f nb i) (4 * (k + 1)) _) (4 * (k + 1))) (ld4 (st4 (cUn F S f nb i) (4 * (k + 1)) _) (4 * k))) = _
        rw [ld4_st4, st4_st4, ld4_out _ _ (by omega), hg (4 * k) (by omega)]
        rfl
    rw [hs]
    by_cases h1 : j < 4 * k ∨ 4 * k + 4 ≤ j
    · rw [st4_out _ _ h1, ih (by omega)]
      by_cases h2 : 4 * (nb - i) ≤ j ∧ j < 4 * nb
      · rw [if_pos h2, if_pos (by omega)]
      · rw [if_neg h2, if_neg (by omega)]
    · obtain ⟨q, hq, rfl⟩ : ∃ q, q < 4 ∧ j = 4 * k + q := ⟨j - 4 * k, by omega, by omega⟩
      rw [st4_in _ _ _ hq, if_pos (by omega)]
      unfold unV
      rw [show (4 * k + q) / 4 = k from by omega, show (4 * k + q) % 4 = q from by omega]
theorem un_eq {F G : Nat → Int32} (h : agr F G) (S f : Nat → Int32) (nb : Nat) : cUn F S f nb nb = mUn G S f nb := by
  funext j
  rw [cUn_val F S f nb nb (Nat.le_refl _), mUn_val]
  have hu : unV F S f j = unV G S f j := by unfold unV; rw [cDec_congr h]
  rw [hu, Nat.sub_self]
  by_cases h2 : j < 4 * nb
  · rw [if_pos (by omega), if_pos h2]
  · rw [if_neg (by omega), if_neg h2]
/-! the round keys -/
theorem cR1_lt (F K : Nat → Int32) (kb : Nat) : ∀ n i, i < n → cR1 F K kb n i = cKW K kb i 4 := by
  intro n
  induction n with
  | zero => intro i hi; omega
  | succ n ih =>
    intro i hi
    show upd (cR1 F K kb n) n (cKW K kb n 4) i = _
    unfold upd
    by_cases h : i = n
    · rw [if_pos h, h]
    · rw [if_neg h]
      exact ih i (by omega)
theorem cSp_congr {F G : Nat → Int32} (h : ∀ i, i < 8 → F i = G i) : ∀ n i, i < 8 + n → cSp F n i = cSp G n i := by
  intro n
  induction n with
  | zero => intro i hi; exact h i (by omega)
  | succ n ih =>
    intro i hi
    rw [← cSp_succ, ← cSp_succ]
    unfold upd
    by_cases hc : i = n + 8
    · rw [if_pos hc, if_pos hc, ih n (by omega), ih (n + 3) (by omega), ih (n + 5) (by omega), ih (n + 7) (by omega)]
    · rw [if_neg hc, if_neg hc]
      exact ih i (by omega)
theorem rk_eq {Wa Wb : Nat → Int32} (h : ∀ i, i < 140 → Wa i = Wb i) (Rn : Nat → Int32) : ∀ r, r ≤ 33 → (∀ j, j < 4 * r → cRk Wa r (8 + j) = mRd Rn Wb r j) ∧ ∀ i, 8 + 4 * r ≤ i → cRk Wa r i = Wa i := by
  intro r
  induction r with
  | zero => intro _; exact ⟨fun j hj => by omega, fun i _ => rfl⟩
  | succ r ih =>
    intro hr
    obtain ⟨h1, h2⟩ := ih (by omega)
    have hl : ld4 (cRk Wa r) (8 + 4 * r) = ld4 Wb (8 + 4 * r) := by
      unfold ld4
      rw [h2 _ (by omega), h2 _ (by omega), h2 _ (by omega), h2 _ (by omega), h _ (by omega), h _ (by omega), h _ (by omega), h _ (by omega)]
    have hs : cRk Wa (r + 1) = st4 (cRk Wa r) (8 + 4 * r) (cBox 0 ((35 - r) % 8) (ld4 Wb (8 + 4 * r))) := by
      show st4 (cRk Wa r) (8 + 4 * r) (cBox 0 ((35 - r) % 8) (ld4 (cRk Wa r) (8 + 4 * r))) = _
      rw [hl]
    refine ⟨fun j hj => ?_, fun i hi => ?_⟩
    · rw [hs]
      show _ = st4 (mRd Rn Wb r) (4 * r) (cBox 0 ((35 - r) % 8) (ld4 Wb (8 + 4 * r))) j
      by_cases hj2 : j < 4 * r
      · rw [st4_out _ _ (by omega), st4_out _ _ (by omega)]
        exact h1 j hj2
      · obtain ⟨q, hq, rfl⟩ : ∃ q, q < 4 ∧ j = 4 * r + q := ⟨j - 4 * r, by omega, by omega⟩
        rw [show 8 + (4 * r + q) = (8 + 4 * r) + q from by omega, st4_in _ _ _ hq, st4_in _ _ _ hq]
    · rw [hs, st4_out _ _ (by omega)]
      exact h2 i (by omega)
/-- made ready: the class's round keys are the reference's -/
theorem ready_agr (F Wo K Rn : Nat → Int32) (kb : Nat) : agr (cRk (cSp (cR1 F K kb 8) 132) 33) (shf (mRd Rn (cSp (cR1 Wo K kb 8) 132) 33)) := by
  intro i h8 h140
  have hw : ∀ i, i < 140 → cSp (cR1 F K kb 8) 132 i = cSp (cR1 Wo K kb 8) 132 i := fun i hi => cSp_congr (fun j hj => by rw [cR1_lt _ _ _ 8 j hj, cR1_lt _ _ _ 8 j hj]) 132 i (by omega)
  obtain ⟨q, rfl⟩ : ∃ q, i = 8 + q := ⟨i - 8, by omega⟩
  rw [(rk_eq hw Rn 33 (by omega)).1 q (by omega)]
  show _ = mRd Rn _ 33 (8 + q - 8)
  rw [show 8 + q - 8 = q from by omega]
