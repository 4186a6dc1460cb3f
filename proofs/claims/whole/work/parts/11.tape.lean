/-! the tape: each block alone, chained, counted, as the class does it -/
theorem xs_eq (f : Nat → Int32) {a b : Nat} (h : b + 4 ≤ a) : xbS f a b 4 = st4 f a (x4 (ld4 f a) (ld4 f b)) := by
  have e1 : ¬ b + 1 = a := by omega
  have e2 : ¬ b + 2 = a := by omega
  have e3 : ¬ b + 3 = a := by omega
  have e4 : ¬ b + 2 = a + 1 := by omega
  have e5 : ¬ b + 3 = a + 1 := by omega
  have e6 : ¬ b + 3 = a + 2 := by omega
  have e7 : ¬ b = a := by omega
  have e8 : ¬ b = a + 1 := by omega
  have e9 : ¬ b = a + 2 := by omega
  have e10 : ¬ b + 1 = a + 1 := by omega
  have e11 : ¬ b + 1 = a + 2 := by omega
  have e12 : ¬ b + 2 = a + 2 := by omega
  funext j
  simp [xbS, st4, upd, x4, ld4, *]
def cEach (bk : Nat) (F f : Nat → Int32) : Nat → Nat → Int32
  | 0 => f
  | k + 1 => st4 (cEach bk F f k) (4 * k) (if bk = 0 then cEnc F (ld4 (cEach bk F f k) (4 * k)) else cDec F (ld4 (cEach bk F f k) (4 * k)))
/-- the block k xored with the one before, the first one with the start -/
def cPrev (S f : Nat → Int32) : Nat → Nat → Int32
  | 0 => st4 f 0 (x4 (ld4 f 0) (ld4 S 0))
  | k + 1 => st4 f (4 * (k + 1)) (x4 (ld4 f (4 * (k + 1))) (ld4 f (4 * k)))
def cChain (F S f : Nat → Int32) : Nat → Nat → Int32
  | 0 => f
  | k + 1 => st4 (cPrev S (cChain F S f k) k) (4 * k) (cEnc F (ld4 (cPrev S (cChain F S f k) k) (4 * k)))
/-- back, i blocks from the end, of nb -/
def cUn (F S f : Nat → Int32) (nb : Nat) : Nat → Nat → Int32
  | 0 => f
  | i + 1 => cPrev S (st4 (cUn F S f nb i) (4 * (nb - (i + 1))) (cDec F (ld4 (cUn F S f nb i) (4 * (nb - (i + 1)))))) (nb - (i + 1))
theorem cUn_at (F S f : Nat → Int32) {nb j : Nat} (h : j < nb) : cUn F S f nb (nb - j) = cPrev S (st4 (cUn F S f nb (nb - (j + 1))) (4 * j) (cDec F (ld4 (cUn F S f nb (nb - (j + 1))) (4 * j)))) j := by
  obtain ⟨i, hi⟩ : ∃ i, nb - j = i + 1 := ⟨nb - j - 1, by omega⟩
  have e1 : nb - (j + 1) = i := by omega
  have e2 : nb - (i + 1) = j := by omega
  rw [hi, e1]
  show cPrev S (st4 (cUn F S f nb i) (4 * (nb - (i + 1))) (cDec F (ld4 (cUn F S f nb i) (4 * (nb - (i + 1)))))) (nb - (i + 1)) = _
  rw [e2]
theorem dec4 (x : Int32) : x + Int32.ofInt (-4) = x - nI 4 := by rw [Int32.sub_eq_add_neg]; rfl
theorem dec4n (j : Nat) : nI (4 * (j + 1)) - nI 4 = nI (4 * j) := by rw [pk_sub (by omega)]; congr 1
def cIncF : (Nat → Int32) → Nat → Nat → Nat → Int32
  | C, 0, _ => C
  | C, n + 1, j => if upd C j (C j + nI 1) j = 0 then cIncF (upd C j (C j + nI 1)) n (j + 1) else upd C j (C j + nI 1)
def cInc (C : Nat → Int32) : Nat → Int32 := cIncF C 4 0
theorem cIncF_z {C T : Nat → Int32} {j : Nat} (hj : j < 4) (h : cIncF C (4 - j) j = T) (c : upd C j (C j + nI 1) j = 0) : cIncF (upd C j (C j + nI 1)) (4 - (j + 1)) (j + 1) = T := by
  obtain ⟨q, hq⟩ : ∃ q, 4 - j = q + 1 := ⟨3 - j, by omega⟩
  have e1 : 4 - (j + 1) = q := by omega
  rw [hq] at h
  rw [e1, ← h]
  exact (if_pos c).symm
theorem cIncF_s {C T : Nat → Int32} {j : Nat} (hj : j < 4) (h : cIncF C (4 - j) j = T) (c : ¬ upd C j (C j + nI 1) j = 0) : upd C j (C j + nI 1) = T := by
  obtain ⟨q, hq⟩ : ∃ q, 4 - j = q + 1 := ⟨3 - j, by omega⟩
  rw [hq] at h
  rw [← h]
  exact (if_neg c).symm
def cCnt (C : Nat → Int32) : Nat → Nat → Int32
  | 0 => C
  | k + 1 => cInc (cCnt C k)
def cMR (F C R : Nat → Int32) : Nat → Nat → Int32
  | 0 => R
  | k + 1 => st4 (va_cpy (cCnt C k) (cMR F C R k) 0 0 4) 0 (cEnc F (ld4 (cCnt C k) 0))
def cMT (F C f : Nat → Int32) : Nat → Nat → Int32
  | 0 => f
  | k + 1 => st4 (cMT F C f k) (4 * k) (x4 (ld4 (cMT F C f k) (4 * k)) (cEnc F (ld4 (cCnt C k) 0)))
theorem ld4_cpy (f g : Nat → Int32) : ld4 (va_cpy f g 0 0 4) 0 = ld4 f 0 := by simp [ld4, va_cpy]
set_option maxRecDepth 100000 in
theorem in_X0_changeEachBlock : ∀ w ∈ wsX00, w ∈ wsX0_changeEachBlock := by decide +kernel
set_option maxHeartbeats 4000000 in
set_option maxRecDepth 100000 in
theorem c_X0_changeEachBlock0 (l : Launch) (D : va_G) (cI : ClassId) (tb : Nat) (sz : Nat) (h0 kw sc so tp ct sr : Nat) (kb kr : Int32) (nb : Nat) (F f : Nat → Int32) (hnb : nb ≤ 64) : Met l yX0_changeEachBlock wsX0_changeEachBlock ({ frames := 4, cells := 0, slots := 0, locals := 100 }) (va_Pc [.ref h0, .int (nI 0)] (fun U => PW D [(cI, .int)] [(h0, .inr (0, [.ref kw, .int kb, .int kr, .ref sc, .ref so, .ref tp, .int (nI (4 * nb)), .ref ct, .ref sr])), (sc, .inl (cI, 140, .inl F)), (tp, .inl (cI, 256, .inl f))] sz U ∧ bxs tb (va_A [(h0, .inr (0, [.ref kw, .int kb, .int kr, .ref sc, .ref so, .ref tp, .int (nI (4 * nb)), .ref ct, .ref sr])), (sc, .inl (cI, 140, .inl F)), (tp, .inl (cI, 256, .inl f))] sz) U U.heap)) (va_Qv (fun _ : Unit => True) (fun _ => BW D [(cI, .int)] (va_A [(h0, .inr (0, [.ref kw, .int kb, .int kr, .ref sc, .ref so, .ref tp, .int (nI (4 * nb)), .ref ct, .ref sr])), (sc, .inl (cI, 140, .inl F)), (tp, .inl (cI, 256, .inl f))] sz) [(h0, .inr (0, [.ref kw, .int kb, .int kr, .ref sc, .ref so, .ref tp, .int (nI (4 * nb)), .ref ct, .ref sr])), (sc, .inl (cI, 140, .inl F)), (tp, .inl (cI, 256, .inl (cEach 0 F f nb)))]) (va_A [(h0, .inr (0, [.ref kw, .int kb, .int kr, .ref sc, .ref so, .ref tp, .int (nI (4 * nb)), .ref ct, .ref sr])), (sc, .inl (cI, 140, .inl F)), (tp, .inl (cI, 256, .inl f))] sz)) 0 0 (va_A [(h0, .inr (0, [.ref kw, .int kb, .int kr, .ref sc, .ref so, .ref tp, .int (nI (4 * nb)), .ref ct, .ref sr])), (sc, .inl (cI, 140, .inl F)), (tp, .inl (cI, 256, .inl f))] sz) := by
  refine Met.ofW (cc := cX0_changeEachBlock) (maxL := 3) (ret := none) (by decide) rfl ?_
  intro p e s m args below meth c s₁ B hml hv
  obtain ⟨rfl, ⟨hsz, hP, hK, hD0⟩, hbx⟩ := hv
  have hx := B.exec
  have hb := B.bytes
  have hr := B.returns
  have hts := atoms_spec (ws := wsX0_changeEachBlock) B.pre
  have hown : s.vm.findClass RX0 = some m.cls := findClass_of_methodNamed B.named
  have hlocks := B.notSynchronized
  subst hsz
  have hD := hD0.self (sz := s.heap.size)
  have hinX0 := in_X0_changeEachBlock
  generalize hAe : va_A [(h0, .inr (0, [.ref kw, .int kb, .int kr, .ref sc, .ref so, .ref tp, .int (nI (4 * nb)), .ref ct, .ref sr])), (sc, .inl (cI, 140, .inl F)), (tp, .inl (cI, 256, .inl f))] s.heap.size = A at hbx hD ⊢
  have hA : ∀ q : Nat, s.heap.size ≤ q → A q := fun q h => by rw [← hAe]; exact Or.inr h
  have hS : va_S A s.heap s.heap [] := va_S.rf
  have hl := lv_entry ([.ref h0, .int (nI 0)]) (n := 3) (Nat.le_of_ble_eq_true rfl)
  rw [lg_entry_eq]
  generalize (lg_sl ([.ref h0, .int (nI 0)]) ++ List.replicate (3 - (lg_sl ([.ref h0, .int (nI 0)])).length) Slot.unset).toArray = ls at hl ⊢
  have hl : lv_has ls 3 [(0, .ref h0), (1, .int (nI 0))] := hl
  have lp : ∀ (fu : Nat) (k : Nat), k ≤ nb → nb + 1 ≤ k + fu → ∀ (H : Heap) (locs : List Loc), va_P D vwCl [(h0, .inr (0, [.ref kw, .int kb, .int kr, .ref sc, .ref so, .ref tp, .int (nI (4 * nb)), .ref ct, .ref sr])), (sc, .inl (cI, 140, .inl F)), (tp, .inl (cI, 256, .inl (cEach 0 F f k)))] H → va_D A [(h0, .inr (0, [.ref kw, .int kb, .int kr, .ref sc, .ref so, .ref tp, .int (nI (4 * nb)), .ref ct, .ref sr])), (sc, .inl (cI, 140, .inl F)), (tp, .inl (cI, 256, .inl (cEach 0 F f k)))] → va_S A s.heap H locs → ∀ (ls : Array Slot), lv_has ls 3 [(0, .ref h0), (1, .int (nI 0)), (2, .int (nI (4 * k)))] → W p l e ((headSpec wsX0_changeEachBlock ({ frames := 4, cells := 0, slots := 0, locals := 100 })).room) s m ([.ref h0, .int (nI 0)] : List Value).toArray below meth c H locs 0 0 (MQ below (va_Qv (fun _ : Unit => True) (fun _ => BW D [(cI, .int)] A [(h0, .inr (0, [.ref kw, .int kb, .int kr, .ref sc, .ref so, .ref tp, .int (nI (4 * nb)), .ref ct, .ref sr])), (sc, .inl (cI, 140, .inl F)), (tp, .inl (cI, 256, .inl (cEach 0 F f nb)))]) A) ([.ref h0, .int (nI 0)] : List Value).toArray s 0 0 (A)) (F0 m 2 ls []) := by
    intro fu
    induction fu with
      | zero => intro k hi hfu; exact absurd hfu (by omega)
      | succ fu ih =>
        intro k hi hfu H locs hP hD hS ls hl
        refine lv_iload_n hx hb dX0_changeEachBlock_2 rfl (lv_at hl 2 rfl) ?_
        refine lv_aload_n hx hb dX0_changeEachBlock_3 rfl (lv_at hl 0 rfl) ?_
        refine va_get (D := D) (ci := 0) (v := .int (nI (4 * nb))) (C := RX0) (T := TX0) (N := 9) hx hb hts hinX0 hown hK hP 0 rfl rfl 6 (by decide) (hts (.fieldLink RX0 36 "SlicedCipher" "tapeLength" "I") (by decide +kernel)) (fun _ h9 => h9) rfl dX0_changeEachBlock_4 ?_
        refine wk_geN (tgt := 41) hx hb (a := 4 * k) (b := 4 * nb) (by omega) (by omega) dX0_changeEachBlock_7 (by decide) (fun c7 => ?_) (fun c7 => ?_)
        · obtain rfl : k = nb := by omega
          exact W.vret hx hb hr (fun t ht hW => ⟨⟨(), rfl, trivial, by rw [ht]; exact hP, va_K.moved hW.alike hK, hD⟩, hS.F ht⟩) hS.2.2 dX0_changeEachBlock_41
        · refine lv_iload_n hx hb dX0_changeEachBlock_10 rfl (lv_at hl 1 rfl) ?_
          refine wk_eq0N (tgt := 26) hx hb (a := 0) (by decide) dX0_changeEachBlock_11 (by decide) (fun c11 => ?_) (fun c11 => absurd c11 (fun h => h rfl))
          refine lv_aload_n hx hb dX0_changeEachBlock_26 rfl (lv_at hl 0 rfl) ?_
          refine lv_aload_n hx hb dX0_changeEachBlock_27 rfl (lv_at hl 0 rfl) ?_
          refine va_get (D := D) (ci := 0) (v := .ref tp) (C := RX0) (T := TX0) (N := 9) hx hb hts hinX0 hown hK hP 0 rfl rfl 5 (by decide) (hts (.fieldLink RX0 19 "SlicedCipher" "tape" "[I") (by decide +kernel)) (fun _ h9 => h9) rfl dX0_changeEachBlock_28 ?_
          refine lv_iload_n hx hb dX0_changeEachBlock_31 rfl (lv_at hl 2 rfl) ?_
          refine wk_Vv (b := h0) (As := [.ref tp, .int (nI (4 * k))]) (rest := []) (wc := [(h0, .inr (0, [.ref kw, .int kb, .int kr, .ref sc, .ref so, .ref tp, .int (nI (4 * nb)), .ref ct, .ref sr])), (sc, .inl (cI, 140, .inl F)), (tp, .inl (cI, 256, .inl (cEach 0 F f k)))]) (wr := []) (w1 := [(h0, .inr (0, [.ref kw, .int kb, .int kr, .ref sc, .ref so, .ref tp, .int (nI (4 * nb)), .ref ct, .ref sr])), (sc, .inl (cI, 140, .inl F)), (tp, .inl (cI, 256, .inl (st4 (cEach 0 F f k) (4 * k) (cEnc F (ld4 (cEach 0 F f k) (4 * k))))))]) (w2 := [(h0, .inr (0, [.ref kw, .int kb, .int kr, .ref sc, .ref so, .ref tp, .int (nI (4 * nb)), .ref ct, .ref sr])), (sc, .inl (cI, 140, .inl F)), (tp, .inl (cI, 256, .inl (st4 (cEach 0 F f k) (4 * k) (cEnc F (ld4 (cEach 0 F f k) (4 * k))))))]) (ci := 0) (q0 := 0) ⟨hx, hb, hml, hown, hts⟩ (c_X0_encipher l D cI tb _ h0 kw sc so tp ct sr kb kr (nI (4 * nb)) tp (4 * k) 256 F (cEach 0 F f k) (by omega) (by decide)) (cwV 2 hts gX0_changeEachBlock_X0_encipher rfl rfl rfl (by decide +kernel) ⟨Nat.le_of_ble_eq_true rfl, Nat.le_of_ble_eq_true rfl⟩) (fun U g mk a h => bxs.call g mk a h) (fun hF U hU hW => hbx.give hS hF hU hW) hK hP hD hS hA rfl rfl [0, 1, 2] [] rfl (by decide) rfl (by decide) (by decide) [0, 1, 2] rfl (by decide) rfl hl.1 rfl (Nat.le_of_ble_eq_true rfl) dX0_changeEachBlock_32 ⟨Nat.zero_le _, Nat.zero_le _⟩ (fun H locs hP hD hS => ?_)
          refine lv_iinc (v := nI (4 * k + 4)) (lv' := [(2, .int (nI (4 * k + 4))), (0, .ref h0), (1, .int (nI 0))]) hx hb dX0_changeEachBlock_35 hl (k := 2) rfl (wk_inc (4 * k) (by decide)) (by decide) rfl (fun ls hl => ?_)
          refine lv_goto (tgt := 2) hx hb dX0_changeEachBlock_38 (by decide) ?_
          exact ih (k + 1) (by omega) (by omega) _ _ hP hD hS ls (lv_sub hl [1, 2, 0] rfl)
  refine lv_iconst (v := nI 0) hx hb dX0_changeEachBlock_0 (by decide) ?_
  refine lv_istore_n (lv' := [(2, .int (nI 0)), (0, .ref h0), (1, .int (nI 0))]) hx hb dX0_changeEachBlock_1 rfl hl (by decide) rfl (fun ls hl => ?_)
  exact lp (nb + 1) 0 (by omega) (by omega) _ _ hP hD hS ls (lv_sub hl [1, 2, 0] rfl)
set_option maxHeartbeats 4000000 in
set_option maxRecDepth 100000 in
theorem c_X0_changeEachBlock1 (l : Launch) (D : va_G) (cI : ClassId) (tb : Nat) (sz : Nat) (h0 kw sc so tp ct sr : Nat) (kb kr : Int32) (nb : Nat) (F f : Nat → Int32) (hnb : nb ≤ 64) : Met l yX0_changeEachBlock wsX0_changeEachBlock ({ frames := 4, cells := 0, slots := 0, locals := 100 }) (va_Pc [.ref h0, .int (nI 1)] (fun U => PW D [(cI, .int)] [(h0, .inr (0, [.ref kw, .int kb, .int kr, .ref sc, .ref so, .ref tp, .int (nI (4 * nb)), .ref ct, .ref sr])), (sc, .inl (cI, 140, .inl F)), (tp, .inl (cI, 256, .inl f))] sz U ∧ bxs tb (va_A [(h0, .inr (0, [.ref kw, .int kb, .int kr, .ref sc, .ref so, .ref tp, .int (nI (4 * nb)), .ref ct, .ref sr])), (sc, .inl (cI, 140, .inl F)), (tp, .inl (cI, 256, .inl f))] sz) U U.heap)) (va_Qv (fun _ : Unit => True) (fun _ => BW D [(cI, .int)] (va_A [(h0, .inr (0, [.ref kw, .int kb, .int kr, .ref sc, .ref so, .ref tp, .int (nI (4 * nb)), .ref ct, .ref sr])), (sc, .inl (cI, 140, .inl F)), (tp, .inl (cI, 256, .inl f))] sz) [(h0, .inr (0, [.ref kw, .int kb, .int kr, .ref sc, .ref so, .ref tp, .int (nI (4 * nb)), .ref ct, .ref sr])), (sc, .inl (cI, 140, .inl F)), (tp, .inl (cI, 256, .inl (cEach 1 F f nb)))]) (va_A [(h0, .inr (0, [.ref kw, .int kb, .int kr, .ref sc, .ref so, .ref tp, .int (nI (4 * nb)), .ref ct, .ref sr])), (sc, .inl (cI, 140, .inl F)), (tp, .inl (cI, 256, .inl f))] sz)) 0 0 (va_A [(h0, .inr (0, [.ref kw, .int kb, .int kr, .ref sc, .ref so, .ref tp, .int (nI (4 * nb)), .ref ct, .ref sr])), (sc, .inl (cI, 140, .inl F)), (tp, .inl (cI, 256, .inl f))] sz) := by
  refine Met.ofW (cc := cX0_changeEachBlock) (maxL := 3) (ret := none) (by decide) rfl ?_
  intro p e s m args below meth c s₁ B hml hv
  obtain ⟨rfl, ⟨hsz, hP, hK, hD0⟩, hbx⟩ := hv
  have hx := B.exec
  have hb := B.bytes
  have hr := B.returns
  have hts := atoms_spec (ws := wsX0_changeEachBlock) B.pre
  have hown : s.vm.findClass RX0 = some m.cls := findClass_of_methodNamed B.named
  have hlocks := B.notSynchronized
  subst hsz
  have hD := hD0.self (sz := s.heap.size)
  have hinX0 := in_X0_changeEachBlock
  generalize hAe : va_A [(h0, .inr (0, [.ref kw, .int kb, .int kr, .ref sc, .ref so, .ref tp, .int (nI (4 * nb)), .ref ct, .ref sr])), (sc, .inl (cI, 140, .inl F)), (tp, .inl (cI, 256, .inl f))] s.heap.size = A at hbx hD ⊢
  have hA : ∀ q : Nat, s.heap.size ≤ q → A q := fun q h => by rw [← hAe]; exact Or.inr h
  have hS : va_S A s.heap s.heap [] := va_S.rf
  have hl := lv_entry ([.ref h0, .int (nI 1)]) (n := 3) (Nat.le_of_ble_eq_true rfl)
  rw [lg_entry_eq]
  generalize (lg_sl ([.ref h0, .int (nI 1)]) ++ List.replicate (3 - (lg_sl ([.ref h0, .int (nI 1)])).length) Slot.unset).toArray = ls at hl ⊢
  have hl : lv_has ls 3 [(0, .ref h0), (1, .int (nI 1))] := hl
  have lp : ∀ (fu : Nat) (k : Nat), k ≤ nb → nb + 1 ≤ k + fu → ∀ (H : Heap) (locs : List Loc), va_P D vwCl [(h0, .inr (0, [.ref kw, .int kb, .int kr, .ref sc, .ref so, .ref tp, .int (nI (4 * nb)), .ref ct, .ref sr])), (sc, .inl (cI, 140, .inl F)), (tp, .inl (cI, 256, .inl (cEach 1 F f k)))] H → va_D A [(h0, .inr (0, [.ref kw, .int kb, .int kr, .ref sc, .ref so, .ref tp, .int (nI (4 * nb)), .ref ct, .ref sr])), (sc, .inl (cI, 140, .inl F)), (tp, .inl (cI, 256, .inl (cEach 1 F f k)))] → va_S A s.heap H locs → ∀ (ls : Array Slot), lv_has ls 3 [(0, .ref h0), (1, .int (nI 1)), (2, .int (nI (4 * k)))] → W p l e ((headSpec wsX0_changeEachBlock ({ frames := 4, cells := 0, slots := 0, locals := 100 })).room) s m ([.ref h0, .int (nI 1)] : List Value).toArray below meth c H locs 0 0 (MQ below (va_Qv (fun _ : Unit => True) (fun _ => BW D [(cI, .int)] A [(h0, .inr (0, [.ref kw, .int kb, .int kr, .ref sc, .ref so, .ref tp, .int (nI (4 * nb)), .ref ct, .ref sr])), (sc, .inl (cI, 140, .inl F)), (tp, .inl (cI, 256, .inl (cEach 1 F f nb)))]) A) ([.ref h0, .int (nI 1)] : List Value).toArray s 0 0 (A)) (F0 m 2 ls []) := by
    intro fu
    induction fu with
      | zero => intro k hi hfu; exact absurd hfu (by omega)
      | succ fu ih =>
        intro k hi hfu H locs hP hD hS ls hl
        refine lv_iload_n hx hb dX0_changeEachBlock_2 rfl (lv_at hl 2 rfl) ?_
        refine lv_aload_n hx hb dX0_changeEachBlock_3 rfl (lv_at hl 0 rfl) ?_
        refine va_get (D := D) (ci := 0) (v := .int (nI (4 * nb))) (C := RX0) (T := TX0) (N := 9) hx hb hts hinX0 hown hK hP 0 rfl rfl 6 (by decide) (hts (.fieldLink RX0 36 "SlicedCipher" "tapeLength" "I") (by decide +kernel)) (fun _ h9 => h9) rfl dX0_changeEachBlock_4 ?_
        refine wk_geN (tgt := 41) hx hb (a := 4 * k) (b := 4 * nb) (by omega) (by omega) dX0_changeEachBlock_7 (by decide) (fun c7 => ?_) (fun c7 => ?_)
        · obtain rfl : k = nb := by omega
          exact W.vret hx hb hr (fun t ht hW => ⟨⟨(), rfl, trivial, by rw [ht]; exact hP, va_K.moved hW.alike hK, hD⟩, hS.F ht⟩) hS.2.2 dX0_changeEachBlock_41
        · refine lv_iload_n hx hb dX0_changeEachBlock_10 rfl (lv_at hl 1 rfl) ?_
          refine wk_eq0N (tgt := 26) hx hb (a := 1) (by decide) dX0_changeEachBlock_11 (by decide) (fun c11 => absurd c11 (by decide)) (fun c11 => ?_)
          refine lv_aload_n hx hb dX0_changeEachBlock_14 rfl (lv_at hl 0 rfl) ?_
          refine lv_aload_n hx hb dX0_changeEachBlock_15 rfl (lv_at hl 0 rfl) ?_
          refine va_get (D := D) (ci := 0) (v := .ref tp) (C := RX0) (T := TX0) (N := 9) hx hb hts hinX0 hown hK hP 0 rfl rfl 5 (by decide) (hts (.fieldLink RX0 19 "SlicedCipher" "tape" "[I") (by decide +kernel)) (fun _ h9 => h9) rfl dX0_changeEachBlock_16 ?_
          refine lv_iload_n hx hb dX0_changeEachBlock_19 rfl (lv_at hl 2 rfl) ?_
          refine wk_Vv (b := h0) (As := [.ref tp, .int (nI (4 * k))]) (rest := []) (wc := [(h0, .inr (0, [.ref kw, .int kb, .int kr, .ref sc, .ref so, .ref tp, .int (nI (4 * nb)), .ref ct, .ref sr])), (sc, .inl (cI, 140, .inl F)), (tp, .inl (cI, 256, .inl (cEach 1 F f k)))]) (wr := []) (w1 := [(h0, .inr (0, [.ref kw, .int kb, .int kr, .ref sc, .ref so, .ref tp, .int (nI (4 * nb)), .ref ct, .ref sr])), (sc, .inl (cI, 140, .inl F)), (tp, .inl (cI, 256, .inl (st4 (cEach 1 F f k) (4 * k) (cDec F (ld4 (cEach 1 F f k) (4 * k))))))]) (w2 := [(h0, .inr (0, [.ref kw, .int kb, .int kr, .ref sc, .ref so, .ref tp, .int (nI (4 * nb)), .ref ct, .ref sr])), (sc, .inl (cI, 140, .inl F)), (tp, .inl (cI, 256, .inl (st4 (cEach 1 F f k) (4 * k) (cDec F (ld4 (cEach 1 F f k) (4 * k))))))]) (ci := 0) (q0 := 0) ⟨hx, hb, hml, hown, hts⟩ (c_X0_decipher l D cI tb _ h0 kw sc so tp ct sr kb kr (nI (4 * nb)) tp (4 * k) 256 F (cEach 1 F f k) (by omega) (by decide)) (cwV 2 hts gX0_changeEachBlock_X0_decipher rfl rfl rfl (by decide +kernel) ⟨Nat.le_of_ble_eq_true rfl, Nat.le_of_ble_eq_true rfl⟩) (fun U g mk a h => bxs.call g mk a h) (fun hF U hU hW => hbx.give hS hF hU hW) hK hP hD hS hA rfl rfl [0, 1, 2] [] rfl (by decide) rfl (by decide) (by decide) [0, 1, 2] rfl (by decide) rfl hl.1 rfl (Nat.le_of_ble_eq_true rfl) dX0_changeEachBlock_20 ⟨Nat.zero_le _, Nat.zero_le _⟩ (fun H locs hP hD hS => ?_)
          refine lv_goto (tgt := 35) hx hb dX0_changeEachBlock_23 (by decide) ?_
          refine lv_iinc (v := nI (4 * k + 4)) (lv' := [(2, .int (nI (4 * k + 4))), (0, .ref h0), (1, .int (nI 1))]) hx hb dX0_changeEachBlock_35 hl (k := 2) rfl (wk_inc (4 * k) (by decide)) (by decide) rfl (fun ls hl => ?_)
          refine lv_goto (tgt := 2) hx hb dX0_changeEachBlock_38 (by decide) ?_
          exact ih (k + 1) (by omega) (by omega) _ _ hP hD hS ls (lv_sub hl [1, 2, 0] rfl)
  refine lv_iconst (v := nI 0) hx hb dX0_changeEachBlock_0 (by decide) ?_
  refine lv_istore_n (lv' := [(2, .int (nI 0)), (0, .ref h0), (1, .int (nI 1))]) hx hb dX0_changeEachBlock_1 rfl hl (by decide) rfl (fun ls hl => ?_)
  exact lp (nb + 1) 0 (by omega) (by omega) _ _ hP hD hS ls (lv_sub hl [1, 2, 0] rfl)
set_option maxRecDepth 100000 in
theorem in_X0_xorWithOneBefore : ∀ w ∈ wsX00, w ∈ wsX0_xorWithOneBefore := by decide +kernel
set_option maxHeartbeats 4000000 in
set_option maxRecDepth 100000 in
theorem c_X0_xorWithOneBefore (l : Launch) (D : va_G) (cI : ClassId) (sz : Nat) (h0 kw sc so tp ct sr : Nat) (kb kr : Int32) (nb : Nat) (k : Nat) (S f : Nat → Int32) (hk : k < 64) : Met l yX0_xorWithOneBefore wsX0_xorWithOneBefore ({ frames := 1, cells := 0, slots := 0, locals := 24 }) (va_Pc [.ref h0, .int (nI (4 * k))] (fun U => PW D [(cI, .int)] [(h0, .inr (0, [.ref kw, .int kb, .int kr, .ref sc, .ref so, .ref tp, .int (nI (4 * nb)), .ref ct, .ref sr])), (so, .inl (cI, 4, .inl S)), (tp, .inl (cI, 256, .inl f))] sz U ∧ True)) (va_Qv (fun _ : Unit => True) (fun _ => BW D [(cI, .int)] (va_A [(h0, .inr (0, [.ref kw, .int kb, .int kr, .ref sc, .ref so, .ref tp, .int (nI (4 * nb)), .ref ct, .ref sr])), (so, .inl (cI, 4, .inl S)), (tp, .inl (cI, 256, .inl f))] sz) [(h0, .inr (0, [.ref kw, .int kb, .int kr, .ref sc, .ref so, .ref tp, .int (nI (4 * nb)), .ref ct, .ref sr])), (so, .inl (cI, 4, .inl S)), (tp, .inl (cI, 256, .inl (cPrev S f k)))]) (va_A [(h0, .inr (0, [.ref kw, .int kb, .int kr, .ref sc, .ref so, .ref tp, .int (nI (4 * nb)), .ref ct, .ref sr])), (so, .inl (cI, 4, .inl S)), (tp, .inl (cI, 256, .inl f))] sz)) 0 0 (va_A [(h0, .inr (0, [.ref kw, .int kb, .int kr, .ref sc, .ref so, .ref tp, .int (nI (4 * nb)), .ref ct, .ref sr])), (so, .inl (cI, 4, .inl S)), (tp, .inl (cI, 256, .inl f))] sz) := by
  refine Met.ofW (cc := cX0_xorWithOneBefore) (maxL := 2) (ret := none) (by decide) rfl ?_
  intro p e s m args below meth c s₁ B hml hv
  obtain ⟨rfl, ⟨hsz, hP, hK, hD0⟩, -⟩ := hv
  have hx := B.exec
  have hb := B.bytes
  have hr := B.returns
  have hts := atoms_spec (ws := wsX0_xorWithOneBefore) B.pre
  have hown : s.vm.findClass RX0 = some m.cls := findClass_of_methodNamed B.named
  have hlocks := B.notSynchronized
  subst hsz
  have hD := hD0.self (sz := s.heap.size)
  have hinX0 := in_X0_xorWithOneBefore
  generalize hAe : va_A [(h0, .inr (0, [.ref kw, .int kb, .int kr, .ref sc, .ref so, .ref tp, .int (nI (4 * nb)), .ref ct, .ref sr])), (so, .inl (cI, 4, .inl S)), (tp, .inl (cI, 256, .inl f))] s.heap.size = A at hD ⊢
  have hA : ∀ q : Nat, s.heap.size ≤ q → A q := fun q h => by rw [← hAe]; exact Or.inr h
  have hS : va_S A s.heap s.heap [] := va_S.rf
  have hl := lv_entry ([.ref h0, .int (nI (4 * k))]) (n := 2) (Nat.le_of_ble_eq_true rfl)
  rw [lg_entry_eq]
  generalize (lg_sl ([.ref h0, .int (nI (4 * k))]) ++ List.replicate (2 - (lg_sl ([.ref h0, .int (nI (4 * k))])).length) Slot.unset).toArray = ls at hl ⊢
  have hl : lv_has ls 2 [(0, .ref h0), (1, .int (nI (4 * k)))] := hl
  refine lv_iload_n hx hb dX0_xorWithOneBefore_0 rfl (lv_at hl 1 rfl) ?_
  refine wk_ne0N (tgt := 20) hx hb (a := 4 * k) (by omega) dX0_xorWithOneBefore_1 (by decide) (fun c1 => ?_) (fun c1 => ?_)
  · obtain ⟨j, rfl⟩ : ∃ j, k = j + 1 := ⟨k - 1, by omega⟩
    refine lv_aload_n hx hb dX0_xorWithOneBefore_20 rfl (lv_at hl 0 rfl) ?_
    refine va_get (D := D) (ci := 0) (v := .ref tp) (C := RX0) (T := TX0) (N := 9) hx hb hts hinX0 hown hK hP 0 rfl rfl 5 (by decide) (hts (.fieldLink RX0 19 "SlicedCipher" "tape" "[I") (by decide +kernel)) (fun _ h9 => h9) rfl dX0_xorWithOneBefore_21 ?_
    refine lv_iload_n hx hb dX0_xorWithOneBefore_24 rfl (lv_at hl 1 rfl) ?_
    refine lv_aload_n hx hb dX0_xorWithOneBefore_25 rfl (lv_at hl 0 rfl) ?_
    refine va_get (D := D) (ci := 0) (v := .ref tp) (C := RX0) (T := TX0) (N := 9) hx hb hts hinX0 hown hK hP 0 rfl rfl 5 (by decide) (hts (.fieldLink RX0 19 "SlicedCipher" "tape" "[I") (by decide +kernel)) (fun _ h9 => h9) rfl dX0_xorWithOneBefore_26 ?_
    refine lv_iload_n hx hb dX0_xorWithOneBefore_29 rfl (lv_at hl 1 rfl) ?_
    refine lv_iconst (v := nI 4) hx hb dX0_xorWithOneBefore_30 (by decide) ?_
    refine wk_isubN hx hb (a := 4 * (j + 1)) (b := 4) (by omega) dX0_xorWithOneBefore_31 ?_
    refine wk_Sv (As := [.ref tp, .int (nI (4 * (j + 1))), .ref tp, .int (nI ((4 * (j + 1)) - 4))]) (rest := []) (wc := [(tp, .inl (cI, 256, .inl f))]) (wr := [(h0, .inr (0, [.ref kw, .int kb, .int kr, .ref sc, .ref so, .ref tp, .int (nI (4 * nb)), .ref ct, .ref sr])), (so, .inl (cI, 4, .inl S))]) (w1 := [(tp, .inl (cI, 256, .inl (xbS f (4 * (j + 1)) (4 * (j + 1) - 4) 4)))]) (w2 := [(h0, .inr (0, [.ref kw, .int kb, .int kr, .ref sc, .ref so, .ref tp, .int (nI (4 * nb)), .ref ct, .ref sr])), (so, .inl (cI, 4, .inl S)), (tp, .inl (cI, 256, .inl (xbS f (4 * (j + 1)) (4 * (j + 1) - 4) 4)))]) ⟨hx, hb, hml, hown, hts⟩ (c_X0_xorBlockS l D cI _ tp (4 * (j + 1)) (4 * (j + 1) - 4) 256 f (by omega) (by omega) (by decide)) (va_cwS 4 hts gX0_xorWithOneBefore_X0_xorBlock rfl rfl rfl (by decide +kernel) ⟨Nat.le_of_ble_eq_true rfl, Nat.le_of_ble_eq_true rfl⟩) (fun _ _ _ _ h => h) (fun _ _ _ _ => trivial) hK hP hD hS hA [2] [0, 1] rfl (by decide) rfl (by decide) (by decide) [0, 1, 2] rfl (by decide) rfl hl.1 rfl (Nat.le_of_ble_eq_true rfl) dX0_xorWithOneBefore_32 ⟨Nat.zero_le _, Nat.zero_le _⟩ (fun H locs hP hD hS => ?_)
    rw [xs_eq f (by omega), show 4 * (j + 1) - 4 = 4 * j from by omega] at hP hD
    exact W.vret hx hb hr (fun t ht hW => ⟨⟨(), rfl, trivial, by rw [ht]; exact hP, va_K.moved hW.alike hK, hD⟩, hS.F ht⟩) hS.2.2 dX0_xorWithOneBefore_35
  · obtain rfl : k = 0 := by omega
    refine lv_aload_n hx hb dX0_xorWithOneBefore_4 rfl (lv_at hl 0 rfl) ?_
    refine va_get (D := D) (ci := 0) (v := .ref tp) (C := RX0) (T := TX0) (N := 9) hx hb hts hinX0 hown hK hP 0 rfl rfl 5 (by decide) (hts (.fieldLink RX0 19 "SlicedCipher" "tape" "[I") (by decide +kernel)) (fun _ h9 => h9) rfl dX0_xorWithOneBefore_5 ?_
    refine lv_iconst (v := nI 0) hx hb dX0_xorWithOneBefore_8 (by decide) ?_
    refine lv_aload_n hx hb dX0_xorWithOneBefore_9 rfl (lv_at hl 0 rfl) ?_
    refine va_get (D := D) (ci := 0) (v := .ref so) (C := RX0) (T := TX0) (N := 9) hx hb hts hinX0 hown hK hP 0 rfl rfl 4 (by decide) (hts (.fieldLink RX0 16 "SlicedCipher" "startWords" "[I") (by decide +kernel)) (fun _ h9 => h9) rfl dX0_xorWithOneBefore_10 ?_
    refine lv_iconst (v := nI 0) hx hb dX0_xorWithOneBefore_13 (by decide) ?_
    refine wk_Sv (As := [.ref tp, .int (nI 0), .ref so, .int (nI 0)]) (rest := []) (wc := [(tp, .inl (cI, 256, .inl f)), (so, .inl (cI, 4, .inl S))]) (wr := [(h0, .inr (0, [.ref kw, .int kb, .int kr, .ref sc, .ref so, .ref tp, .int (nI (4 * nb)), .ref ct, .ref sr]))]) (w1 := [(tp, .inl (cI, 256, .inl (xbF f 0 S 0 4))), (so, .inl (cI, 4, .inl S))]) (w2 := [(h0, .inr (0, [.ref kw, .int kb, .int kr, .ref sc, .ref so, .ref tp, .int (nI (4 * nb)), .ref ct, .ref sr])), (so, .inl (cI, 4, .inl S)), (tp, .inl (cI, 256, .inl (xbF f 0 S 0 4)))]) ⟨hx, hb, hml, hown, hts⟩ (c_X0_xorBlock l D cI _ tp 0 so 0 256 4 f S (by decide) (by decide) (by decide) (by decide)) (va_cwS 4 hts gX0_xorWithOneBefore_X0_xorBlock rfl rfl rfl (by decide +kernel) ⟨Nat.le_of_ble_eq_true rfl, Nat.le_of_ble_eq_true rfl⟩) (fun _ _ _ _ h => h) (fun _ _ _ _ => trivial) hK hP hD hS hA [2, 1] [0] rfl (by decide) rfl (by decide) (by decide) [0, 2, 1] rfl (by decide) rfl hl.1 rfl (Nat.le_of_ble_eq_true rfl) dX0_xorWithOneBefore_14 ⟨Nat.zero_le _, Nat.zero_le _⟩ (fun H locs hP hD hS => ?_)
    rw [xb_eq] at hP hD
    refine lv_goto (tgt := 35) hx hb dX0_xorWithOneBefore_17 (by decide) ?_
    exact W.vret hx hb hr (fun t ht hW => ⟨⟨(), rfl, trivial, by rw [ht]; exact hP, va_K.moved hW.alike hK, hD⟩, hS.F ht⟩) hS.2.2 dX0_xorWithOneBefore_35
set_option maxRecDepth 100000 in
theorem in_X0_chainTape : ∀ w ∈ wsX00, w ∈ wsX0_chainTape := by decide +kernel
set_option maxHeartbeats 4000000 in
set_option maxRecDepth 100000 in
theorem c_X0_chainTape (l : Launch) (D : va_G) (cI : ClassId) (tb : Nat) (sz : Nat) (h0 kw sc so tp ct sr : Nat) (kb kr : Int32) (nb : Nat) (F S f : Nat → Int32) (hnb : nb ≤ 64) : Met l yX0_chainTape wsX0_chainTape ({ frames := 4, cells := 0, slots := 0, locals := 100 }) (va_Pc [.ref h0] (fun U => PW D [(cI, .int)] [(h0, .inr (0, [.ref kw, .int kb, .int kr, .ref sc, .ref so, .ref tp, .int (nI (4 * nb)), .ref ct, .ref sr])), (sc, .inl (cI, 140, .inl F)), (so, .inl (cI, 4, .inl S)), (tp, .inl (cI, 256, .inl f))] sz U ∧ bxs tb (va_A [(h0, .inr (0, [.ref kw, .int kb, .int kr, .ref sc, .ref so, .ref tp, .int (nI (4 * nb)), .ref ct, .ref sr])), (sc, .inl (cI, 140, .inl F)), (so, .inl (cI, 4, .inl S)), (tp, .inl (cI, 256, .inl f))] sz) U U.heap)) (va_Qv (fun _ : Unit => True) (fun _ => BW D [(cI, .int)] (va_A [(h0, .inr (0, [.ref kw, .int kb, .int kr, .ref sc, .ref so, .ref tp, .int (nI (4 * nb)), .ref ct, .ref sr])), (sc, .inl (cI, 140, .inl F)), (so, .inl (cI, 4, .inl S)), (tp, .inl (cI, 256, .inl f))] sz) [(h0, .inr (0, [.ref kw, .int kb, .int kr, .ref sc, .ref so, .ref tp, .int (nI (4 * nb)), .ref ct, .ref sr])), (sc, .inl (cI, 140, .inl F)), (so, .inl (cI, 4, .inl S)), (tp, .inl (cI, 256, .inl (cChain F S f nb)))]) (va_A [(h0, .inr (0, [.ref kw, .int kb, .int kr, .ref sc, .ref so, .ref tp, .int (nI (4 * nb)), .ref ct, .ref sr])), (sc, .inl (cI, 140, .inl F)), (so, .inl (cI, 4, .inl S)), (tp, .inl (cI, 256, .inl f))] sz)) 0 0 (va_A [(h0, .inr (0, [.ref kw, .int kb, .int kr, .ref sc, .ref so, .ref tp, .int (nI (4 * nb)), .ref ct, .ref sr])), (sc, .inl (cI, 140, .inl F)), (so, .inl (cI, 4, .inl S)), (tp, .inl (cI, 256, .inl f))] sz) := by
  refine Met.ofW (cc := cX0_chainTape) (maxL := 2) (ret := none) (by decide) rfl ?_
  intro p e s m args below meth c s₁ B hml hv
  obtain ⟨rfl, ⟨hsz, hP, hK, hD0⟩, hbx⟩ := hv
  have hx := B.exec
  have hb := B.bytes
  have hr := B.returns
  have hts := atoms_spec (ws := wsX0_chainTape) B.pre
  have hown : s.vm.findClass RX0 = some m.cls := findClass_of_methodNamed B.named
  have hlocks := B.notSynchronized
  subst hsz
  have hD := hD0.self (sz := s.heap.size)
  have hinX0 := in_X0_chainTape
  generalize hAe : va_A [(h0, .inr (0, [.ref kw, .int kb, .int kr, .ref sc, .ref so, .ref tp, .int (nI (4 * nb)), .ref ct, .ref sr])), (sc, .inl (cI, 140, .inl F)), (so, .inl (cI, 4, .inl S)), (tp, .inl (cI, 256, .inl f))] s.heap.size = A at hbx hD ⊢
  have hA : ∀ q : Nat, s.heap.size ≤ q → A q := fun q h => by rw [← hAe]; exact Or.inr h
  have hS : va_S A s.heap s.heap [] := va_S.rf
  have hl := lv_entry ([.ref h0]) (n := 2) (Nat.le_of_ble_eq_true rfl)
  rw [lg_entry_eq]
  generalize (lg_sl ([.ref h0]) ++ List.replicate (2 - (lg_sl ([.ref h0])).length) Slot.unset).toArray = ls at hl ⊢
  have hl : lv_has ls 2 [(0, .ref h0)] := hl
  have lp : ∀ (fu : Nat) (k : Nat), k ≤ nb → nb + 1 ≤ k + fu → ∀ (H : Heap) (locs : List Loc), va_P D vwCl [(h0, .inr (0, [.ref kw, .int kb, .int kr, .ref sc, .ref so, .ref tp, .int (nI (4 * nb)), .ref ct, .ref sr])), (sc, .inl (cI, 140, .inl F)), (so, .inl (cI, 4, .inl S)), (tp, .inl (cI, 256, .inl (cChain F S f k)))] H → va_D A [(h0, .inr (0, [.ref kw, .int kb, .int kr, .ref sc, .ref so, .ref tp, .int (nI (4 * nb)), .ref ct, .ref sr])), (sc, .inl (cI, 140, .inl F)), (so, .inl (cI, 4, .inl S)), (tp, .inl (cI, 256, .inl (cChain F S f k)))] → va_S A s.heap H locs → ∀ (ls : Array Slot), lv_has ls 2 [(0, .ref h0), (1, .int (nI (4 * k)))] → W p l e ((headSpec wsX0_chainTape ({ frames := 4, cells := 0, slots := 0, locals := 100 })).room) s m ([.ref h0] : List Value).toArray below meth c H locs 0 0 (MQ below (va_Qv (fun _ : Unit => True) (fun _ => BW D [(cI, .int)] A [(h0, .inr (0, [.ref kw, .int kb, .int kr, .ref sc, .ref so, .ref tp, .int (nI (4 * nb)), .ref ct, .ref sr])), (sc, .inl (cI, 140, .inl F)), (so, .inl (cI, 4, .inl S)), (tp, .inl (cI, 256, .inl (cChain F S f nb)))]) A) ([.ref h0] : List Value).toArray s 0 0 (A)) (F0 m 2 ls []) := by
    intro fu
    induction fu with
      | zero => intro k hi hfu; exact absurd hfu (by omega)
      | succ fu ih =>
        intro k hi hfu H locs hP hD hS ls hl
        refine lv_iload_n hx hb dX0_chainTape_2 rfl (lv_at hl 1 rfl) ?_
        refine lv_aload_n hx hb dX0_chainTape_3 rfl (lv_at hl 0 rfl) ?_
        refine va_get (D := D) (ci := 0) (v := .int (nI (4 * nb))) (C := RX0) (T := TX0) (N := 9) hx hb hts hinX0 hown hK hP 0 rfl rfl 6 (by decide) (hts (.fieldLink RX0 36 "SlicedCipher" "tapeLength" "I") (by decide +kernel)) (fun _ h9 => h9) rfl dX0_chainTape_4 ?_
        refine wk_geN (tgt := 30) hx hb (a := 4 * k) (b := 4 * nb) (by omega) (by omega) dX0_chainTape_7 (by decide) (fun c7 => ?_) (fun c7 => ?_)
        · obtain rfl : k = nb := by omega
          exact W.vret hx hb hr (fun t ht hW => ⟨⟨(), rfl, trivial, by rw [ht]; exact hP, va_K.moved hW.alike hK, hD⟩, hS.F ht⟩) hS.2.2 dX0_chainTape_30
        · refine lv_aload_n hx hb dX0_chainTape_10 rfl (lv_at hl 0 rfl) ?_
          refine lv_iload_n hx hb dX0_chainTape_11 rfl (lv_at hl 1 rfl) ?_
          refine wk_Vv (b := h0) (As := [.int (nI (4 * k))]) (rest := []) (wc := [(h0, .inr (0, [.ref kw, .int kb, .int kr, .ref sc, .ref so, .ref tp, .int (nI (4 * nb)), .ref ct, .ref sr])), (so, .inl (cI, 4, .inl S)), (tp, .inl (cI, 256, .inl (cChain F S f k)))]) (wr := [(sc, .inl (cI, 140, .inl F))]) (w1 := [(h0, .inr (0, [.ref kw, .int kb, .int kr, .ref sc, .ref so, .ref tp, .int (nI (4 * nb)), .ref ct, .ref sr])), (so, .inl (cI, 4, .inl S)), (tp, .inl (cI, 256, .inl (cPrev S (cChain F S f k) k)))]) (w2 := [(h0, .inr (0, [.ref kw, .int kb, .int kr, .ref sc, .ref so, .ref tp, .int (nI (4 * nb)), .ref ct, .ref sr])), (sc, .inl (cI, 140, .inl F)), (so, .inl (cI, 4, .inl S)), (tp, .inl (cI, 256, .inl (cPrev S (cChain F S f k) k)))]) (ci := 0) (q0 := 0) ⟨hx, hb, hml, hown, hts⟩ (c_X0_xorWithOneBefore l D cI _ h0 kw sc so tp ct sr kb kr nb k S (cChain F S f k) (by omega)) (cwV 1 hts gX0_chainTape_X0_xorWithOneBefore rfl rfl rfl (by decide +kernel) ⟨Nat.le_of_ble_eq_true rfl, Nat.le_of_ble_eq_true rfl⟩) (fun _ _ _ _ h => h) (fun _ _ _ _ => trivial) hK hP hD hS hA rfl rfl [0, 2, 3] [1] rfl (by decide) rfl (by decide) (by decide) [1, 0, 2, 3] rfl (by decide) rfl hl.1 rfl (Nat.le_of_ble_eq_true rfl) dX0_chainTape_12 ⟨Nat.zero_le _, Nat.zero_le _⟩ (fun H locs hP hD hS => ?_)
          refine lv_aload_n hx hb dX0_chainTape_15 rfl (lv_at hl 0 rfl) ?_
          refine lv_aload_n hx hb dX0_chainTape_16 rfl (lv_at hl 0 rfl) ?_
          refine va_get (D := D) (ci := 0) (v := .ref tp) (C := RX0) (T := TX0) (N := 9) hx hb hts hinX0 hown hK hP 0 rfl rfl 5 (by decide) (hts (.fieldLink RX0 19 "SlicedCipher" "tape" "[I") (by decide +kernel)) (fun _ h9 => h9) rfl dX0_chainTape_17 ?_
          refine lv_iload_n hx hb dX0_chainTape_20 rfl (lv_at hl 1 rfl) ?_
          refine wk_Vv (b := h0) (As := [.ref tp, .int (nI (4 * k))]) (rest := []) (wc := [(h0, .inr (0, [.ref kw, .int kb, .int kr, .ref sc, .ref so, .ref tp, .int (nI (4 * nb)), .ref ct, .ref sr])), (sc, .inl (cI, 140, .inl F)), (tp, .inl (cI, 256, .inl (cPrev S (cChain F S f k) k)))]) (wr := [(so, .inl (cI, 4, .inl S))]) (w1 := [(h0, .inr (0, [.ref kw, .int kb, .int kr, .ref sc, .ref so, .ref tp, .int (nI (4 * nb)), .ref ct, .ref sr])), (sc, .inl (cI, 140, .inl F)), (tp, .inl (cI, 256, .inl (st4 (cPrev S (cChain F S f k) k) (4 * k) (cEnc F (ld4 (cPrev S (cChain F S f k) k) (4 * k))))))]) (w2 := [(h0, .inr (0, [.ref kw, .int kb, .int kr, .ref sc, .ref so, .ref tp, .int (nI (4 * nb)), .ref ct, .ref sr])), (sc, .inl (cI, 140, .inl F)), (so, .inl (cI, 4, .inl S)), (tp, .inl (cI, 256, .inl (st4 (cPrev S (cChain F S f k) k) (4 * k) (cEnc F (ld4 (cPrev S (cChain F S f k) k) (4 * k))))))]) (ci := 0) (q0 := 0) ⟨hx, hb, hml, hown, hts⟩ (c_X0_encipher l D cI tb _ h0 kw sc so tp ct sr kb kr (nI (4 * nb)) tp (4 * k) 256 F (cPrev S (cChain F S f k) k) (by omega) (by decide)) (cwV 2 hts gX0_chainTape_X0_encipher rfl rfl rfl (by decide +kernel) ⟨Nat.le_of_ble_eq_true rfl, Nat.le_of_ble_eq_true rfl⟩) (fun U g mk a h => bxs.call g mk a h) (fun hF U hU hW => hbx.give hS hF hU hW) hK hP hD hS hA rfl rfl [0, 1, 3] [2] rfl (by decide) rfl (by decide) (by decide) [1, 2, 0, 3] rfl (by decide) rfl hl.1 rfl (Nat.le_of_ble_eq_true rfl) dX0_chainTape_21 ⟨Nat.zero_le _, Nat.zero_le _⟩ (fun H locs hP hD hS => ?_)
          refine lv_iinc (v := nI (4 * k + 4)) (lv' := [(1, .int (nI (4 * k + 4))), (0, .ref h0)]) hx hb dX0_chainTape_24 hl (k := 1) rfl (wk_inc (4 * k) (by decide)) (by decide) rfl (fun ls hl => ?_)
          refine lv_goto (tgt := 2) hx hb dX0_chainTape_27 (by decide) ?_
          exact ih (k + 1) (by omega) (by omega) _ _ hP hD hS ls (lv_sub hl [1, 0] rfl)
  refine lv_iconst (v := nI 0) hx hb dX0_chainTape_0 (by decide) ?_
  refine lv_istore_n (lv' := [(1, .int (nI 0)), (0, .ref h0)]) hx hb dX0_chainTape_1 rfl hl (by decide) rfl (fun ls hl => ?_)
  exact lp (nb + 1) 0 (by omega) (by omega) _ _ hP hD hS ls (lv_sub hl [1, 0] rfl)
set_option maxRecDepth 100000 in
theorem in_X0_unchainTape : ∀ w ∈ wsX00, w ∈ wsX0_unchainTape := by decide +kernel
set_option maxHeartbeats 4000000 in
set_option maxRecDepth 100000 in
theorem c_X0_unchainTape (l : Launch) (D : va_G) (cI : ClassId) (tb : Nat) (sz : Nat) (h0 kw sc so tp ct sr : Nat) (kb kr : Int32) (nb : Nat) (F S f : Nat → Int32) (hnb : nb ≤ 64) : Met l yX0_unchainTape wsX0_unchainTape ({ frames := 4, cells := 0, slots := 0, locals := 100 }) (va_Pc [.ref h0] (fun U => PW D [(cI, .int)] [(h0, .inr (0, [.ref kw, .int kb, .int kr, .ref sc, .ref so, .ref tp, .int (nI (4 * nb)), .ref ct, .ref sr])), (sc, .inl (cI, 140, .inl F)), (so, .inl (cI, 4, .inl S)), (tp, .inl (cI, 256, .inl f))] sz U ∧ bxs tb (va_A [(h0, .inr (0, [.ref kw, .int kb, .int kr, .ref sc, .ref so, .ref tp, .int (nI (4 * nb)), .ref ct, .ref sr])), (sc, .inl (cI, 140, .inl F)), (so, .inl (cI, 4, .inl S)), (tp, .inl (cI, 256, .inl f))] sz) U U.heap)) (va_Qv (fun _ : Unit => True) (fun _ => BW D [(cI, .int)] (va_A [(h0, .inr (0, [.ref kw, .int kb, .int kr, .ref sc, .ref so, .ref tp, .int (nI (4 * nb)), .ref ct, .ref sr])), (sc, .inl (cI, 140, .inl F)), (so, .inl (cI, 4, .inl S)), (tp, .inl (cI, 256, .inl f))] sz) [(h0, .inr (0, [.ref kw, .int kb, .int kr, .ref sc, .ref so, .ref tp, .int (nI (4 * nb)), .ref ct, .ref sr])), (sc, .inl (cI, 140, .inl F)), (so, .inl (cI, 4, .inl S)), (tp, .inl (cI, 256, .inl (cUn F S f nb nb)))]) (va_A [(h0, .inr (0, [.ref kw, .int kb, .int kr, .ref sc, .ref so, .ref tp, .int (nI (4 * nb)), .ref ct, .ref sr])), (sc, .inl (cI, 140, .inl F)), (so, .inl (cI, 4, .inl S)), (tp, .inl (cI, 256, .inl f))] sz)) 0 0 (va_A [(h0, .inr (0, [.ref kw, .int kb, .int kr, .ref sc, .ref so, .ref tp, .int (nI (4 * nb)), .ref ct, .ref sr])), (sc, .inl (cI, 140, .inl F)), (so, .inl (cI, 4, .inl S)), (tp, .inl (cI, 256, .inl f))] sz) := by
  refine Met.ofW (cc := cX0_unchainTape) (maxL := 2) (ret := none) (by decide) rfl ?_
  intro p e s m args below meth c s₁ B hml hv
  obtain ⟨rfl, ⟨hsz, hP, hK, hD0⟩, hbx⟩ := hv
  have hx := B.exec
  have hb := B.bytes
  have hr := B.returns
  have hts := atoms_spec (ws := wsX0_unchainTape) B.pre
  have hown : s.vm.findClass RX0 = some m.cls := findClass_of_methodNamed B.named
  have hlocks := B.notSynchronized
  subst hsz
  have hD := hD0.self (sz := s.heap.size)
  have hinX0 := in_X0_unchainTape
  generalize hAe : va_A [(h0, .inr (0, [.ref kw, .int kb, .int kr, .ref sc, .ref so, .ref tp, .int (nI (4 * nb)), .ref ct, .ref sr])), (sc, .inl (cI, 140, .inl F)), (so, .inl (cI, 4, .inl S)), (tp, .inl (cI, 256, .inl f))] s.heap.size = A at hbx hD ⊢
  have hA : ∀ q : Nat, s.heap.size ≤ q → A q := fun q h => by rw [← hAe]; exact Or.inr h
  have hS : va_S A s.heap s.heap [] := va_S.rf
  have hl := lv_entry ([.ref h0]) (n := 2) (Nat.le_of_ble_eq_true rfl)
  rw [lg_entry_eq]
  generalize (lg_sl ([.ref h0]) ++ List.replicate (2 - (lg_sl ([.ref h0])).length) Slot.unset).toArray = ls at hl ⊢
  have hl : lv_has ls 2 [(0, .ref h0)] := hl
  have lp : ∀ (fu : Nat) (j : Nat), j ≤ nb → j + 1 ≤ fu → ∀ (H : Heap) (locs : List Loc), va_P D vwCl [(h0, .inr (0, [.ref kw, .int kb, .int kr, .ref sc, .ref so, .ref tp, .int (nI (4 * nb)), .ref ct, .ref sr])), (sc, .inl (cI, 140, .inl F)), (so, .inl (cI, 4, .inl S)), (tp, .inl (cI, 256, .inl (cUn F S f nb (nb - j))))] H → va_D A [(h0, .inr (0, [.ref kw, .int kb, .int kr, .ref sc, .ref so, .ref tp, .int (nI (4 * nb)), .ref ct, .ref sr])), (sc, .inl (cI, 140, .inl F)), (so, .inl (cI, 4, .inl S)), (tp, .inl (cI, 256, .inl (cUn F S f nb (nb - j))))] → va_S A s.heap H locs → ∀ (ls : Array Slot), lv_has ls 2 [(0, .ref h0), (1, .int (nI (4 * j) - nI 4))] → W p l e ((headSpec wsX0_unchainTape ({ frames := 4, cells := 0, slots := 0, locals := 100 })).room) s m ([.ref h0] : List Value).toArray below meth c H locs 0 0 (MQ below (va_Qv (fun _ : Unit => True) (fun _ => BW D [(cI, .int)] A [(h0, .inr (0, [.ref kw, .int kb, .int kr, .ref sc, .ref so, .ref tp, .int (nI (4 * nb)), .ref ct, .ref sr])), (sc, .inl (cI, 140, .inl F)), (so, .inl (cI, 4, .inl S)), (tp, .inl (cI, 256, .inl (cUn F S f nb nb)))]) A) ([.ref h0] : List Value).toArray s 0 0 (A)) (F0 m 7 ls []) := by
    intro fu
    induction fu with
      | zero => intro j hi hfu; exact absurd hfu (by omega)
      | succ fu ih =>
        intro j hi hfu H locs hP hD hS ls hl
        rcases j with _ | j
        · refine lv_iload_n hx hb dX0_unchainTape_7 rfl (lv_at hl 1 rfl) ?_
          refine lv_if_lt (tgt := 31) hx hb dX0_unchainTape_8 (by decide) (fun c8 => ?_) (fun c8 => absurd c8 (by decide))
          exact W.vret hx hb hr (fun t ht hW => ⟨⟨(), rfl, trivial, by rw [ht]; exact hP, va_K.moved hW.alike hK, hD⟩, hS.F ht⟩) hS.2.2 dX0_unchainTape_31
        · rw [dec4n j] at hl
          refine lv_iload_n hx hb dX0_unchainTape_7 rfl (lv_at hl 1 rfl) ?_
          refine lv_if_lt (tgt := 31) hx hb dX0_unchainTape_8 (by decide) (fun c8 => absurd c8 (nI_pos (by omega))) (fun c8 => ?_)
          refine lv_aload_n hx hb dX0_unchainTape_11 rfl (lv_at hl 0 rfl) ?_
          refine lv_aload_n hx hb dX0_unchainTape_12 rfl (lv_at hl 0 rfl) ?_
          refine va_get (D := D) (ci := 0) (v := .ref tp) (C := RX0) (T := TX0) (N := 9) hx hb hts hinX0 hown hK hP 0 rfl rfl 5 (by decide) (hts (.fieldLink RX0 19 "SlicedCipher" "tape" "[I") (by decide +kernel)) (fun _ h9 => h9) rfl dX0_unchainTape_13 ?_
          refine lv_iload_n hx hb dX0_unchainTape_16 rfl (lv_at hl 1 rfl) ?_
          refine wk_Vv (b := h0) (As := [.ref tp, .int (nI (4 * j))]) (rest := []) (wc := [(h0, .inr (0, [.ref kw, .int kb, .int kr, .ref sc, .ref so, .ref tp, .int (nI (4 * nb)), .ref ct, .ref sr])), (sc, .inl (cI, 140, .inl F)), (tp, .inl (cI, 256, .inl (cUn F S f nb (nb - (j + 1)))))]) (wr := [(so, .inl (cI, 4, .inl S))]) (w1 := [(h0, .inr (0, [.ref kw, .int kb, .int kr, .ref sc, .ref so, .ref tp, .int (nI (4 * nb)), .ref ct, .ref sr])), (sc, .inl (cI, 140, .inl F)), (tp, .inl (cI, 256, .inl (st4 (cUn F S f nb (nb - (j + 1))) (4 * j) (cDec F (ld4 (cUn F S f nb (nb - (j + 1))) (4 * j))))))]) (w2 := [(h0, .inr (0, [.ref kw, .int kb, .int kr, .ref sc, .ref so, .ref tp, .int (nI (4 * nb)), .ref ct, .ref sr])), (sc, .inl (cI, 140, .inl F)), (so, .inl (cI, 4, .inl S)), (tp, .inl (cI, 256, .inl (st4 (cUn F S f nb (nb - (j + 1))) (4 * j) (cDec F (ld4 (cUn F S f nb (nb - (j + 1))) (4 * j))))))]) (ci := 0) (q0 := 0) ⟨hx, hb, hml, hown, hts⟩ (c_X0_decipher l D cI tb _ h0 kw sc so tp ct sr kb kr (nI (4 * nb)) tp (4 * j) 256 F (cUn F S f nb (nb - (j + 1))) (by omega) (by decide)) (cwV 2 hts gX0_unchainTape_X0_decipher rfl rfl rfl (by decide +kernel) ⟨Nat.le_of_ble_eq_true rfl, Nat.le_of_ble_eq_true rfl⟩) (fun U g mk a h => bxs.call g mk a h) (fun hF U hU hW => hbx.give hS hF hU hW) hK hP hD hS hA rfl rfl [0, 1, 3] [2] rfl (by decide) rfl (by decide) (by decide) [1, 2, 0, 3] rfl (by decide) rfl hl.1 rfl (Nat.le_of_ble_eq_true rfl) dX0_unchainTape_17 ⟨Nat.zero_le _, Nat.zero_le _⟩ (fun H locs hP hD hS => ?_)
          refine lv_aload_n hx hb dX0_unchainTape_20 rfl (lv_at hl 0 rfl) ?_
          refine lv_iload_n hx hb dX0_unchainTape_21 rfl (lv_at hl 1 rfl) ?_
          refine wk_Vv (b := h0) (As := [.int (nI (4 * j))]) (rest := []) (wc := [(h0, .inr (0, [.ref kw, .int kb, .int kr, .ref sc, .ref so, .ref tp, .int (nI (4 * nb)), .ref ct, .ref sr])), (so, .inl (cI, 4, .inl S)), (tp, .inl (cI, 256, .inl (st4 (cUn F S f nb (nb - (j + 1))) (4 * j) (cDec F (ld4 (cUn F S f nb (nb - (j + 1))) (4 * j))))))]) (wr := [(sc, .inl (cI, 140, .inl F))]) (w1 := [(h0, .inr (0, [.ref kw, .int kb, .int kr, .ref sc, .ref so, .ref tp, .int (nI (4 * nb)), .ref ct, .ref sr])), (so, .inl (cI, 4, .inl S)), (tp, .inl (cI, 256, .inl (cPrev S (st4 (cUn F S f nb (nb - (j + 1))) (4 * j) (cDec F (ld4 (cUn F S f nb (nb - (j + 1))) (4 * j)))) j)))]) (w2 := [(h0, .inr (0, [.ref kw, .int kb, .int kr, .ref sc, .ref so, .ref tp, .int (nI (4 * nb)), .ref ct, .ref sr])), (sc, .inl (cI, 140, .inl F)), (so, .inl (cI, 4, .inl S)), (tp, .inl (cI, 256, .inl (cPrev S (st4 (cUn F S f nb (nb - (j + 1))) (4 * j) (cDec F (ld4 (cUn F S f nb (nb - (j + 1))) (4 * j)))) j)))]) (ci := 0) (q0 := 0) ⟨hx, hb, hml, hown, hts⟩ (c_X0_xorWithOneBefore l D cI _ h0 kw sc so tp ct sr kb kr nb j S (st4 (cUn F S f nb (nb - (j + 1))) (4 * j) (cDec F (ld4 (cUn F S f nb (nb - (j + 1))) (4 * j)))) (by omega)) (cwV 1 hts gX0_unchainTape_X0_xorWithOneBefore rfl rfl rfl (by decide +kernel) ⟨Nat.le_of_ble_eq_true rfl, Nat.le_of_ble_eq_true rfl⟩) (fun _ _ _ _ h => h) (fun _ _ _ _ => trivial) hK hP hD hS hA rfl rfl [0, 2, 3] [1] rfl (by decide) rfl (by decide) (by decide) [1, 0, 2, 3] rfl (by decide) rfl hl.1 rfl (Nat.le_of_ble_eq_true rfl) dX0_unchainTape_22 ⟨Nat.zero_le _, Nat.zero_le _⟩ (fun H locs hP hD hS => ?_)
          refine lv_iinc (v := nI (4 * j) - nI 4) (lv' := [(1, .int (nI (4 * j) - nI 4)), (0, .ref h0)]) hx hb dX0_unchainTape_25 hl (k := 1) rfl (dec4 _) (by decide) rfl (fun ls hl => ?_)
          refine lv_goto (tgt := 7) hx hb dX0_unchainTape_28 (by decide) ?_
          rw [← cUn_at F S f (by omega)] at hP hD
          exact ih j (by omega) (by omega) _ _ hP hD hS ls (lv_sub hl [1, 0] rfl)
  refine lv_aload_n hx hb dX0_unchainTape_0 rfl (lv_at hl 0 rfl) ?_
  refine va_get (D := D) (ci := 0) (v := .int (nI (4 * nb))) (C := RX0) (T := TX0) (N := 9) hx hb hts hinX0 hown hK hP 0 rfl rfl 6 (by decide) (hts (.fieldLink RX0 36 "SlicedCipher" "tapeLength" "I") (by decide +kernel)) (fun _ h9 => h9) rfl dX0_unchainTape_1 ?_
  refine lv_iconst (v := nI 4) hx hb dX0_unchainTape_4 (by decide) ?_
  refine lv_isub hx hb dX0_unchainTape_5 ?_
  refine lv_istore_n (lv' := [(1, .int ((nI (4 * nb)) - (nI 4))), (0, .ref h0)]) hx hb dX0_unchainTape_6 rfl hl (by decide) rfl (fun ls hl => ?_)
  exact lp (nb + 1) nb (by omega) (by omega) _ _ (by rw [Nat.sub_self]; exact hP) (by rw [Nat.sub_self]; exact hD) hS ls (lv_sub hl [1, 0] rfl)
