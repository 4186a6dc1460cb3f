/-! the key's bytes and words, the spread, the round keys, as the class makes them -/
def cKB (K : Nat → Int32) (kb n : Nat) : Int32 := if n < kb then (((K (n / 4)).toUInt32 >>> ((nI (8 * (n % 4))).toUInt32 &&& Int32.toUInt32 31)).toInt32) &&& nI 255 else if n = kb then nI 1 else nI 0
def cKW (K : Nat → Int32) (kb wd : Nat) : Nat → Int32
  | 0 => nI 0
  | i + 1 => cKW K kb wd i ||| (cKB K kb ((4 * wd) + i) <<< (nI (8 * i) &&& 31))
def cSp (F : Nat → Int32) : Nat → Nat → Int32
  | 0 => F
  | i + 1 => upd (cSp F i) (i + 8) (rotL ((((((cSp F i ((i + 8) - 8)) ^^^ (cSp F i ((i + 8) - 5))) ^^^ (cSp F i ((i + 8) - 3))) ^^^ (cSp F i ((i + 8) - 1))) ^^^ (-1640531527)) ^^^ nI i) (nI 11))
def cR1 (F K : Nat → Int32) (kb : Nat) : Nat → Nat → Int32
  | 0 => F
  | i + 1 => upd (cR1 F K kb i) i (cKW K kb i 4)
def cRk (F : Nat → Int32) : Nat → Nat → Int32
  | 0 => F
  | r + 1 => st4 (cRk F r) (8 + 4 * r) (cBox 0 ((35 - r) % 8) (ld4 (cRk F r) (8 + 4 * r)))
def cSrc (wh : Nat) (v : Int32) : Nat → Nat
  | 0 => 0
  | i + 1 => if TB ((wh * 16) + i) = v then i else cSrc wh v i
set_option maxRecDepth 100000 in
theorem in_X0_paddedKeyByte : ∀ w ∈ wsX00, w ∈ wsX0_paddedKeyByte := by decide +kernel
set_option maxHeartbeats 4000000 in
set_option maxRecDepth 100000 in
theorem c_X0_paddedKeyByte (l : Launch) (D : va_G) (cI : ClassId) (sz : Nat) (h0 kw sc so tp ct sr : Nat) (kr tl : Int32) (kb : Nat) (n : Nat) (K : Nat → Int32) (h1 : n < 32) (h2 : kb ≤ 32) : Met l yX0_paddedKeyByte wsX0_paddedKeyByte ({ frames := 0, cells := 0, slots := 0, locals := 0 }) (va_Pc [.ref h0, .int (nI n)] (fun U => PW D [(cI, .int)] [(h0, .inr (0, [.ref kw, .int (nI kb), .int kr, .ref sc, .ref so, .ref tp, .int tl, .ref ct, .ref sr])), (kw, .inl (cI, 8, .inl K))] sz U ∧ True)) (vp_Si (fun r9 => r9 = cKB K kb n)) 0 0 (fun _ => False) := by
  refine Met.ofW (cc := cX0_paddedKeyByte) (maxL := 2) (ret := (some .int)) (by decide) rfl ?_
  intro p e s m args below meth c s₁ B hml hv
  obtain ⟨rfl, ⟨hsz, hP, hK, hD0⟩, -⟩ := hv
  have hx := B.exec
  have hb := B.bytes
  have hr := B.returns
  have hts := atoms_spec (ws := wsX0_paddedKeyByte) B.pre
  have hown : s.vm.findClass RX0 = some m.cls := findClass_of_methodNamed B.named
  have hlocks := B.notSynchronized
  subst hsz
  have hD := hD0.self (sz := s.heap.size)
  have hinX0 := in_X0_paddedKeyByte
  generalize hAe : va_A [(h0, .inr (0, [.ref kw, .int (nI kb), .int kr, .ref sc, .ref so, .ref tp, .int tl, .ref ct, .ref sr])), (kw, .inl (cI, 8, .inl K))] s.heap.size = A at hD
  have hA : ∀ q : Nat, s.heap.size ≤ q → A q := fun q h => by rw [← hAe]; exact Or.inr h
  have hS : va_S A s.heap s.heap [] := va_S.rf
  have hl := lv_entry ([.ref h0, .int (nI n)]) (n := 2) (Nat.le_of_ble_eq_true rfl)
  rw [lg_entry_eq]
  generalize (lg_sl ([.ref h0, .int (nI n)]) ++ List.replicate (2 - (lg_sl ([.ref h0, .int (nI n)])).length) Slot.unset).toArray = ls at hl ⊢
  have hl : lv_has ls 2 [(0, .ref h0), (1, .int (nI n))] := hl
  refine lv_iload_n hx hb dX0_paddedKeyByte_0 rfl (lv_at hl 1 rfl) ?_
  refine lv_aload_n hx hb dX0_paddedKeyByte_1 rfl (lv_at hl 0 rfl) ?_
  refine va_get (D := D) (ci := 0) (v := .int (nI kb)) (C := RX0) (T := TX0) (N := 9) hx hb hts hinX0 hown hK hP 0 rfl rfl 1 (by decide) (hts (.fieldLink RX0 28 "SlicedCipher" "keyBytes" "I") (by decide +kernel)) (fun _ h9 => h9) rfl dX0_paddedKeyByte_2 ?_
  refine wk_geN (tgt := 28) hx hb (a := n) (b := kb) (by omega) (by omega) dX0_paddedKeyByte_5 (by decide) (fun c5 => ?_) (fun c5 => ?_)
  · refine lv_iload_n hx hb dX0_paddedKeyByte_28 rfl (lv_at hl 1 rfl) ?_
    refine lv_aload_n hx hb dX0_paddedKeyByte_29 rfl (lv_at hl 0 rfl) ?_
    refine va_get (D := D) (ci := 0) (v := .int (nI kb)) (C := RX0) (T := TX0) (N := 9) hx hb hts hinX0 hown hK hP 0 rfl rfl 1 (by decide) (hts (.fieldLink RX0 28 "SlicedCipher" "keyBytes" "I") (by decide +kernel)) (fun _ h9 => h9) rfl dX0_paddedKeyByte_30 ?_
    refine wk_neN (tgt := 40) hx hb (a := n) (b := kb) (by omega) (by omega) dX0_paddedKeyByte_33 (by decide) (fun c33 => ?_) (fun c33 => ?_)
    · refine lv_iconst (v := nI 0) hx hb dX0_paddedKeyByte_40 (by decide) ?_
      exact W.iret (v := nI 0) hx hb hr (fun t ht hW => ⟨_, rfl, by unfold cKB; rw [if_neg (Nat.not_lt.mpr c5), if_neg c33], ht⟩) (fun q h => absurd h List.not_mem_nil) dX0_paddedKeyByte_41
    · refine lv_iconst (v := nI 1) hx hb dX0_paddedKeyByte_36 (by decide) ?_
      refine lv_goto (tgt := 41) hx hb dX0_paddedKeyByte_37 (by decide) ?_
      exact W.iret (v := nI 1) hx hb hr (fun t ht hW => ⟨_, rfl, by unfold cKB; rw [if_neg (Nat.not_lt.mpr c5), if_pos c33], ht⟩) (fun q h => absurd h List.not_mem_nil) dX0_paddedKeyByte_41
  · refine lv_aload_n hx hb dX0_paddedKeyByte_8 rfl (lv_at hl 0 rfl) ?_
    refine va_get (D := D) (ci := 0) (v := .ref kw) (C := RX0) (T := TX0) (N := 9) hx hb hts hinX0 hown hK hP 0 rfl rfl 0 (by decide) (hts (.fieldLink RX0 9 "SlicedCipher" "keyWords" "[I") (by decide +kernel)) (fun _ h9 => h9) rfl dX0_paddedKeyByte_9 ?_
    refine lv_iload_n hx hb dX0_paddedKeyByte_12 rfl (lv_at hl 1 rfl) ?_
    refine lv_iconst (v := nI 4) hx hb dX0_paddedKeyByte_13 (by decide) ?_
    refine wk_idivN hx hb (a := n) (b := 4) (by omega) (by decide) (by decide) dX0_paddedKeyByte_14 ?_
    refine wk_iald hx hb hK hP 1 0 rfl rfl (k := n / 4) (by omega) (by decide) dX0_paddedKeyByte_15 ?_
    refine lv_bipush (v := nI 8) hx hb dX0_paddedKeyByte_16 (by decide) ?_
    refine lv_iload_n hx hb dX0_paddedKeyByte_18 rfl (lv_at hl 1 rfl) ?_
    refine lv_iconst (v := nI 4) hx hb dX0_paddedKeyByte_19 (by decide) ?_
    refine wk_iremN hx hb (a := n) (b := 4) (by omega) (by decide) (by decide) dX0_paddedKeyByte_20 ?_
    refine wk_imulN hx hb (a := 8) (b := n % 4) dX0_paddedKeyByte_21 ?_
    refine lv_iushr (v := ((K (n / 4)).toUInt32 >>> ((nI (8 * (n % 4))).toUInt32 &&& Int32.toUInt32 31)).toInt32) hx hb dX0_paddedKeyByte_22 rfl ?_
    refine lv_sipush (v := nI 255) hx hb dX0_paddedKeyByte_23 (by decide) ?_
    refine lv_iand hx hb dX0_paddedKeyByte_26 ?_
    exact W.iret (v := (((K (n / 4)).toUInt32 >>> ((nI (8 * (n % 4))).toUInt32 &&& Int32.toUInt32 31)).toInt32) &&& (nI 255)) hx hb hr (fun t ht hW => ⟨_, rfl, (if_pos c5).symm, ht⟩) (fun q h => absurd h List.not_mem_nil) dX0_paddedKeyByte_27
set_option maxRecDepth 100000 in
theorem in_X0_paddedKeyWord : ∀ w ∈ wsX00, w ∈ wsX0_paddedKeyWord := by decide +kernel
set_option maxHeartbeats 4000000 in
set_option maxRecDepth 100000 in
theorem c_X0_paddedKeyWord (l : Launch) (D : va_G) (cI : ClassId) (sz : Nat) (h0 kw sc so tp ct sr : Nat) (kr tl : Int32) (kb : Nat) (wd : Nat) (K : Nat → Int32) (h1 : wd < 8) (h2 : kb ≤ 32) : Met l yX0_paddedKeyWord wsX0_paddedKeyWord ({ frames := 1, cells := 0, slots := 0, locals := 21 }) (va_Pc [.ref h0, .int (nI wd)] (fun U => PW D [(cI, .int)] [(h0, .inr (0, [.ref kw, .int (nI kb), .int kr, .ref sc, .ref so, .ref tp, .int tl, .ref ct, .ref sr])), (kw, .inl (cI, 8, .inl K))] sz U ∧ True)) (vp_Si (fun r9 => r9 = cKW K kb wd 4)) 0 0 (fun _ => False) := by
  refine Met.ofW (cc := cX0_paddedKeyWord) (maxL := 4) (ret := (some .int)) (by decide) rfl ?_
  intro p e s m args below meth c s₁ B hml hv
  obtain ⟨rfl, ⟨hsz, hP, hK, hD0⟩, -⟩ := hv
  have hx := B.exec
  have hb := B.bytes
  have hr := B.returns
  have hts := atoms_spec (ws := wsX0_paddedKeyWord) B.pre
  have hown : s.vm.findClass RX0 = some m.cls := findClass_of_methodNamed B.named
  have hlocks := B.notSynchronized
  subst hsz
  have hD := hD0.self (sz := s.heap.size)
  have hinX0 := in_X0_paddedKeyWord
  generalize hAe : va_A [(h0, .inr (0, [.ref kw, .int (nI kb), .int kr, .ref sc, .ref so, .ref tp, .int tl, .ref ct, .ref sr])), (kw, .inl (cI, 8, .inl K))] s.heap.size = A at hD
  have hA : ∀ q : Nat, s.heap.size ≤ q → A q := fun q h => by rw [← hAe]; exact Or.inr h
  have hS : va_S A s.heap s.heap [] := va_S.rf
  have hl := lv_entry ([.ref h0, .int (nI wd)]) (n := 4) (Nat.le_of_ble_eq_true rfl)
  rw [lg_entry_eq]
  generalize (lg_sl ([.ref h0, .int (nI wd)]) ++ List.replicate (4 - (lg_sl ([.ref h0, .int (nI wd)])).length) Slot.unset).toArray = ls at hl ⊢
  have hl : lv_has ls 4 [(0, .ref h0), (1, .int (nI wd))] := hl
  have lp : ∀ (fu : Nat) (i : Nat), i ≤ 4 → 4 + 1 ≤ i + fu → ∀ (ls : Array Slot), lv_has ls 4 [(0, .ref h0), (1, .int (nI wd)), (2, .int (cKW K kb wd i)), (3, .int (nI i))] → W p l e ((headSpec wsX0_paddedKeyWord ({ frames := 1, cells := 0, slots := 0, locals := 21 })).room) s m ([.ref h0, .int (nI wd)] : List Value).toArray below meth c s.heap [] 0 0 (MQ below (vp_Si (fun r9 => r9 = cKW K kb wd 4)) ([.ref h0, .int (nI wd)] : List Value).toArray s 0 0 (fun _ => False)) (F0 m 4 ls []) := by
    intro fu
    induction fu with
      | zero => intro i hi hfu; exact absurd hfu (by omega)
      | succ fu ih =>
        intro i hi hfu ls hl
        refine lv_iload_n hx hb dX0_paddedKeyWord_4 rfl (lv_at hl 3 rfl) ?_
        refine lv_iconst (v := nI 4) hx hb dX0_paddedKeyWord_5 (by decide) ?_
        refine wk_geN (tgt := 32) hx hb (a := i) (b := 4) (by omega) (by decide) dX0_paddedKeyWord_6 (by decide) (fun c6 => ?_) (fun c6 => ?_)
        · obtain rfl : i = 4 := by omega
          refine lv_iload_n hx hb dX0_paddedKeyWord_32 rfl (lv_at hl 2 rfl) ?_
          exact W.iret (v := cKW K kb wd 4) hx hb hr (fun t ht hW => ⟨_, rfl, rfl, ht⟩) (fun q h => absurd h List.not_mem_nil) dX0_paddedKeyWord_33
        · refine lv_iload_n hx hb dX0_paddedKeyWord_9 rfl (lv_at hl 2 rfl) ?_
          refine lv_aload_n hx hb dX0_paddedKeyWord_10 rfl (lv_at hl 0 rfl) ?_
          refine lv_iconst (v := nI 4) hx hb dX0_paddedKeyWord_11 (by decide) ?_
          refine lv_iload_n hx hb dX0_paddedKeyWord_12 rfl (lv_at hl 1 rfl) ?_
          refine wk_imulN hx hb (a := 4) (b := wd) dX0_paddedKeyWord_13 ?_
          refine lv_iload_n hx hb dX0_paddedKeyWord_14 rfl (lv_at hl 3 rfl) ?_
          refine wk_iaddN hx hb (a := 4 * wd) (b := i) dX0_paddedKeyWord_15 ?_
          refine wk_Vi (b := h0) (As := [.int (nI ((4 * wd) + i))]) (rest := [.int (cKW K kb wd i)]) (wc := [(h0, .inr (0, [.ref kw, .int (nI kb), .int kr, .ref sc, .ref so, .ref tp, .int tl, .ref ct, .ref sr])), (kw, .inl (cI, 8, .inl K))]) (ci := 0) (q0 := 0) ⟨hx, hb, hml, hown, hts⟩ (c_X0_paddedKeyByte l D cI _ h0 kw sc so tp ct sr kr tl kb ((4 * wd) + i) K (by omega) h2) (cwV 1 hts gX0_paddedKeyWord_X0_paddedKeyByte rfl rfl rfl (by decide +kernel) ⟨Nat.le_of_ble_eq_true rfl, Nat.le_of_ble_eq_true rfl⟩) (fun _ _ _ _ h => h) (fun _ _ _ => trivial) hK hP hD rfl rfl [0, 1] rfl (by decide) rfl hl.1 rfl (Nat.le_of_ble_eq_true rfl) dX0_paddedKeyWord_16 ⟨Nat.zero_le _, Nat.zero_le _⟩ (fun z9 hz9 => ?_)
          refine wk_i (y := cKB K kb ((4 * wd) + i)) hz9 ?_
          refine lv_bipush (v := nI 8) hx hb dX0_paddedKeyWord_19 (by decide) ?_
          refine lv_iload_n hx hb dX0_paddedKeyWord_21 rfl (lv_at hl 3 rfl) ?_
          refine wk_imulN hx hb (a := 8) (b := i) dX0_paddedKeyWord_22 ?_
          refine lv_ishl hx hb dX0_paddedKeyWord_23 ?_
          refine lv_ior hx hb dX0_paddedKeyWord_24 ?_
          refine wk_i (y := cKW K kb wd (i + 1)) (rfl) ?_
          refine lv_istore_n (lv' := [(2, .int (cKW K kb wd (i + 1))), (0, .ref h0), (1, .int (nI wd)), (3, .int (nI i))]) hx hb dX0_paddedKeyWord_25 rfl hl (by decide) rfl (fun ls hl => ?_)
          refine lv_iinc (v := nI (i + 1)) (lv' := [(3, .int (nI (i + 1))), (2, .int (cKW K kb wd (i + 1))), (0, .ref h0), (1, .int (nI wd))]) hx hb dX0_paddedKeyWord_26 hl (k := 3) rfl (wk_inc i (by decide)) (by decide) rfl (fun ls hl => ?_)
          refine lv_goto (tgt := 4) hx hb dX0_paddedKeyWord_29 (by decide) ?_
          exact ih (i + 1) (by omega) (by omega) ls (lv_sub hl [2, 3, 1, 0] rfl)
  refine lv_iconst (v := nI 0) hx hb dX0_paddedKeyWord_0 (by decide) ?_
  refine lv_istore_n (lv' := [(2, .int (nI 0)), (0, .ref h0), (1, .int (nI wd))]) hx hb dX0_paddedKeyWord_1 rfl hl (by decide) rfl (fun ls hl => ?_)
  refine lv_iconst (v := nI 0) hx hb dX0_paddedKeyWord_2 (by decide) ?_
  refine lv_istore_n (lv' := [(3, .int (nI 0)), (2, .int (nI 0)), (0, .ref h0), (1, .int (nI wd))]) hx hb dX0_paddedKeyWord_3 rfl hl (by decide) rfl (fun ls hl => ?_)
  exact lp 5 0 (by omega) (by omega) ls (lv_sub hl [2, 3, 1, 0] rfl)
set_option maxRecDepth 100000 in
theorem in_X0_spreadKey : ∀ w ∈ wsX00, w ∈ wsX0_spreadKey := by decide +kernel
set_option maxHeartbeats 4000000 in
set_option maxRecDepth 100000 in
theorem c_X0_spreadKey (l : Launch) (D : va_G) (cI : ClassId) (sz : Nat) (h0 kw sc so tp ct sr : Nat) (kb kr tl : Int32) (F : Nat → Int32) : Met l yX0_spreadKey wsX0_spreadKey ({ frames := 1, cells := 0, slots := 0, locals := 21 }) (va_Pc [.ref h0] (fun U => PW D [(cI, .int)] [(h0, .inr (0, [.ref kw, .int kb, .int kr, .ref sc, .ref so, .ref tp, .int tl, .ref ct, .ref sr])), (sc, .inl (cI, 140, .inl F))] sz U ∧ True)) (va_Qv (fun _ : Unit => True) (fun _ => BW D [(cI, .int)] (va_A [(h0, .inr (0, [.ref kw, .int kb, .int kr, .ref sc, .ref so, .ref tp, .int tl, .ref ct, .ref sr])), (sc, .inl (cI, 140, .inl F))] sz) [(h0, .inr (0, [.ref kw, .int kb, .int kr, .ref sc, .ref so, .ref tp, .int tl, .ref ct, .ref sr])), (sc, .inl (cI, 140, .inl (cSp F 132)))]) (va_A [(h0, .inr (0, [.ref kw, .int kb, .int kr, .ref sc, .ref so, .ref tp, .int tl, .ref ct, .ref sr])), (sc, .inl (cI, 140, .inl F))] sz)) 0 0 (va_A [(h0, .inr (0, [.ref kw, .int kb, .int kr, .ref sc, .ref so, .ref tp, .int tl, .ref ct, .ref sr])), (sc, .inl (cI, 140, .inl F))] sz) := by
  refine Met.ofW (cc := cX0_spreadKey) (maxL := 4) (ret := none) (by decide) rfl ?_
  intro p e s m args below meth c s₁ B hml hv
  obtain ⟨rfl, ⟨hsz, hP, hK, hD0⟩, -⟩ := hv
  have hx := B.exec
  have hb := B.bytes
  have hr := B.returns
  have hts := atoms_spec (ws := wsX0_spreadKey) B.pre
  have hown : s.vm.findClass RX0 = some m.cls := findClass_of_methodNamed B.named
  have hlocks := B.notSynchronized
  subst hsz
  have hD := hD0.self (sz := s.heap.size)
  have hinX0 := in_X0_spreadKey
  generalize hAe : va_A [(h0, .inr (0, [.ref kw, .int kb, .int kr, .ref sc, .ref so, .ref tp, .int tl, .ref ct, .ref sr])), (sc, .inl (cI, 140, .inl F))] s.heap.size = A at hD ⊢
  have hA : ∀ q : Nat, s.heap.size ≤ q → A q := fun q h => by rw [← hAe]; exact Or.inr h
  have hS : va_S A s.heap s.heap [] := va_S.rf
  have hl := lv_entry ([.ref h0]) (n := 4) (Nat.le_of_ble_eq_true rfl)
  rw [lg_entry_eq]
  generalize (lg_sl ([.ref h0]) ++ List.replicate (4 - (lg_sl ([.ref h0])).length) Slot.unset).toArray = ls at hl ⊢
  have hl : lv_has ls 4 [(0, .ref h0)] := hl
  have lp : ∀ (fu : Nat) (i : Nat), i ≤ 132 → 132 + 1 ≤ i + fu → ∀ (H : Heap) (locs : List Loc), va_P D vwCl [(h0, .inr (0, [.ref kw, .int kb, .int kr, .ref sc, .ref so, .ref tp, .int tl, .ref ct, .ref sr])), (sc, .inl (cI, 140, .inl (cSp F i)))] H → va_D A [(h0, .inr (0, [.ref kw, .int kb, .int kr, .ref sc, .ref so, .ref tp, .int tl, .ref ct, .ref sr])), (sc, .inl (cI, 140, .inl (cSp F i)))] → va_S A s.heap H locs → ∀ (ls : Array Slot), lv_has ls 4 [(0, .ref h0), (1, .int (nI i))] → W p l e ((headSpec wsX0_spreadKey ({ frames := 1, cells := 0, slots := 0, locals := 21 })).room) s m ([.ref h0] : List Value).toArray below meth c H locs 0 0 (MQ below (va_Qv (fun _ : Unit => True) (fun _ => BW D [(cI, .int)] A [(h0, .inr (0, [.ref kw, .int kb, .int kr, .ref sc, .ref so, .ref tp, .int tl, .ref ct, .ref sr])), (sc, .inl (cI, 140, .inl (cSp F 132)))]) A) ([.ref h0] : List Value).toArray s 0 0 (A)) (F0 m 2 ls []) := by
    intro fu
    induction fu with
      | zero => intro i hi hfu; exact absurd hfu (by omega)
      | succ fu ih =>
        intro i hi hfu H locs hP hD hS ls hl
        refine lv_iload_n hx hb dX0_spreadKey_2 rfl (lv_at hl 1 rfl) ?_
        refine lv_sipush (v := nI 132) hx hb dX0_spreadKey_3 (by decide) ?_
        refine wk_geN (tgt := 74) hx hb (a := i) (b := 132) (by omega) (by decide) dX0_spreadKey_6 (by decide) (fun c6 => ?_) (fun c6 => ?_)
        · obtain rfl : i = 132 := by omega
          exact W.vret hx hb hr (fun t ht hW => ⟨⟨(), rfl, trivial, by rw [ht]; exact hP, va_K.moved hW.alike hK, hD⟩, hS.F ht⟩) hS.2.2 dX0_spreadKey_74
        · refine lv_iload_n hx hb dX0_spreadKey_9 rfl (lv_at hl 1 rfl) ?_
          refine lv_bipush (v := nI 8) hx hb dX0_spreadKey_10 (by decide) ?_
          refine wk_iaddN hx hb (a := i) (b := 8) dX0_spreadKey_12 ?_
          refine lv_istore_n (lv' := [(2, .int (nI (i + 8))), (0, .ref h0), (1, .int (nI i))]) hx hb dX0_spreadKey_13 rfl hl (by decide) rfl (fun ls hl => ?_)
          refine lv_aload_n hx hb dX0_spreadKey_14 rfl (lv_at hl 1 rfl) ?_
          refine va_get (D := D) (ci := 0) (v := .ref sc) (C := RX0) (T := TX0) (N := 9) hx hb hts hinX0 hown hK hP 0 rfl rfl 3 (by decide) (hts (.fieldLink RX0 13 "SlicedCipher" "schedule" "[I") (by decide +kernel)) (fun _ h9 => h9) rfl dX0_spreadKey_15 ?_
          refine lv_iload_n hx hb dX0_spreadKey_18 rfl (lv_at hl 0 rfl) ?_
          refine lv_bipush (v := nI 8) hx hb dX0_spreadKey_19 (by decide) ?_
          refine wk_isubN hx hb (a := i + 8) (b := 8) (by omega) dX0_spreadKey_21 ?_
          refine wk_iald hx hb hK hP 1 0 rfl rfl (k := (i + 8) - 8) (by omega) (by decide) dX0_spreadKey_22 ?_
          refine lv_aload_n hx hb dX0_spreadKey_23 rfl (lv_at hl 1 rfl) ?_
          refine va_get (D := D) (ci := 0) (v := .ref sc) (C := RX0) (T := TX0) (N := 9) hx hb hts hinX0 hown hK hP 0 rfl rfl 3 (by decide) (hts (.fieldLink RX0 13 "SlicedCipher" "schedule" "[I") (by decide +kernel)) (fun _ h9 => h9) rfl dX0_spreadKey_24 ?_
          refine lv_iload_n hx hb dX0_spreadKey_27 rfl (lv_at hl 0 rfl) ?_
          refine lv_iconst (v := nI 5) hx hb dX0_spreadKey_28 (by decide) ?_
          refine wk_isubN hx hb (a := i + 8) (b := 5) (by omega) dX0_spreadKey_29 ?_
          refine wk_iald hx hb hK hP 1 0 rfl rfl (k := (i + 8) - 5) (by omega) (by decide) dX0_spreadKey_30 ?_
          refine lv_ixor hx hb dX0_spreadKey_31 ?_
          refine lv_aload_n hx hb dX0_spreadKey_32 rfl (lv_at hl 1 rfl) ?_
          refine va_get (D := D) (ci := 0) (v := .ref sc) (C := RX0) (T := TX0) (N := 9) hx hb hts hinX0 hown hK hP 0 rfl rfl 3 (by decide) (hts (.fieldLink RX0 13 "SlicedCipher" "schedule" "[I") (by decide +kernel)) (fun _ h9 => h9) rfl dX0_spreadKey_33 ?_
          refine lv_iload_n hx hb dX0_spreadKey_36 rfl (lv_at hl 0 rfl) ?_
          refine lv_iconst (v := nI 3) hx hb dX0_spreadKey_37 (by decide) ?_
          refine wk_isubN hx hb (a := i + 8) (b := 3) (by omega) dX0_spreadKey_38 ?_
          refine wk_iald hx hb hK hP 1 0 rfl rfl (k := (i + 8) - 3) (by omega) (by decide) dX0_spreadKey_39 ?_
          refine lv_ixor hx hb dX0_spreadKey_40 ?_
          refine lv_aload_n hx hb dX0_spreadKey_41 rfl (lv_at hl 1 rfl) ?_
          refine va_get (D := D) (ci := 0) (v := .ref sc) (C := RX0) (T := TX0) (N := 9) hx hb hts hinX0 hown hK hP 0 rfl rfl 3 (by decide) (hts (.fieldLink RX0 13 "SlicedCipher" "schedule" "[I") (by decide +kernel)) (fun _ h9 => h9) rfl dX0_spreadKey_42 ?_
          refine lv_iload_n hx hb dX0_spreadKey_45 rfl (lv_at hl 0 rfl) ?_
          refine lv_iconst (v := nI 1) hx hb dX0_spreadKey_46 (by decide) ?_
          refine wk_isubN hx hb (a := i + 8) (b := 1) (by omega) dX0_spreadKey_47 ?_
          refine wk_iald hx hb hK hP 1 0 rfl rfl (k := (i + 8) - 1) (by omega) (by decide) dX0_spreadKey_48 ?_
          refine lv_ixor hx hb dX0_spreadKey_49 ?_
          refine lv_istore_n (lv' := [(3, .int (((((cSp F i) ((i + 8) - 8)) ^^^ ((cSp F i) ((i + 8) - 5))) ^^^ ((cSp F i) ((i + 8) - 3))) ^^^ ((cSp F i) ((i + 8) - 1)))), (2, .int (nI (i + 8))), (0, .ref h0), (1, .int (nI i))]) hx hb dX0_spreadKey_50 rfl hl (by decide) rfl (fun ls hl => ?_)
          refine lv_aload_n hx hb dX0_spreadKey_51 rfl (lv_at hl 2 rfl) ?_
          refine va_get (D := D) (ci := 0) (v := .ref sc) (C := RX0) (T := TX0) (N := 9) hx hb hts hinX0 hown hK hP 0 rfl rfl 3 (by decide) (hts (.fieldLink RX0 13 "SlicedCipher" "schedule" "[I") (by decide +kernel)) (fun _ h9 => h9) rfl dX0_spreadKey_52 ?_
          refine lv_iload_n hx hb dX0_spreadKey_55 rfl (lv_at hl 1 rfl) ?_
          refine lv_iload_n hx hb dX0_spreadKey_56 rfl (lv_at hl 0 rfl) ?_
          refine lv_ldc (v := -1640531527) hx hb hown (hts (.constant RX0 132 (-1640531527)) (by decide +kernel)) dX0_spreadKey_57 ?_
          refine lv_ixor hx hb dX0_spreadKey_59 ?_
          refine lv_iload_n hx hb dX0_spreadKey_60 rfl (lv_at hl 3 rfl) ?_
          refine lv_ixor hx hb dX0_spreadKey_61 ?_
          refine lv_bipush (v := nI 11) hx hb dX0_spreadKey_62 (by decide) ?_
          refine wk_Sp (v := rotL (((((((cSp F i) ((i + 8) - 8)) ^^^ ((cSp F i) ((i + 8) - 5))) ^^^ ((cSp F i) ((i + 8) - 3))) ^^^ ((cSp F i) ((i + 8) - 1))) ^^^ ((-1640531527))) ^^^ (nI i)) (nI 11)) (As := [.int (((((((cSp F i) ((i + 8) - 8)) ^^^ ((cSp F i) ((i + 8) - 5))) ^^^ ((cSp F i) ((i + 8) - 3))) ^^^ ((cSp F i) ((i + 8) - 1))) ^^^ ((-1640531527))) ^^^ (nI i)), .int (nI 11)]) (rest := [.int (nI (i + 8)), .ref sc]) ⟨hx, hb, hml, hown, hts⟩ (c_J6_rotateLeft l (((((((cSp F i) ((i + 8) - 8)) ^^^ ((cSp F i) ((i + 8) - 5))) ^^^ ((cSp F i) ((i + 8) - 3))) ^^^ ((cSp F i) ((i + 8) - 1))) ^^^ ((-1640531527))) ^^^ (nI i)) (nI 11)) (va_cwS 2 hts gX0_spreadKey_J6_rotateLeft_7cf53 rfl rfl rfl (by decide +kernel) ⟨Nat.le_of_ble_eq_true rfl, Nat.le_of_ble_eq_true rfl⟩) rfl hl.1 rfl (Nat.le_of_ble_eq_true rfl) dX0_spreadKey_64 ⟨Nat.zero_le _, Nat.zero_le _⟩ ?_
          refine wk_iast hx hb hK hP hD hS 1 0 rfl rfl (k := i + 8) (x := rotL (((((((cSp F i) ((i + 8) - 8)) ^^^ ((cSp F i) ((i + 8) - 5))) ^^^ ((cSp F i) ((i + 8) - 3))) ^^^ ((cSp F i) ((i + 8) - 1))) ^^^ ((-1640531527))) ^^^ (nI i)) (nI 11)) (by omega) (by decide) dX0_spreadKey_67 (fun H locs hP hD hS => ?_)
          have hP : va_P D vwCl [(h0, .inr (0, [.ref kw, .int kb, .int kr, .ref sc, .ref so, .ref tp, .int tl, .ref ct, .ref sr])), (sc, .inl (cI, 140, .inl (upd (cSp F i) (i + 8) (rotL (((((((cSp F i) ((i + 8) - 8)) ^^^ ((cSp F i) ((i + 8) - 5))) ^^^ ((cSp F i) ((i + 8) - 3))) ^^^ ((cSp F i) ((i + 8) - 1))) ^^^ ((-1640531527))) ^^^ (nI i)) (nI 11)))))] H := hP
          have hD : va_D A [(h0, .inr (0, [.ref kw, .int kb, .int kr, .ref sc, .ref so, .ref tp, .int tl, .ref ct, .ref sr])), (sc, .inl (cI, 140, .inl (upd (cSp F i) (i + 8) (rotL (((((((cSp F i) ((i + 8) - 8)) ^^^ ((cSp F i) ((i + 8) - 5))) ^^^ ((cSp F i) ((i + 8) - 3))) ^^^ ((cSp F i) ((i + 8) - 1))) ^^^ ((-1640531527))) ^^^ (nI i)) (nI 11)))))] := hD
          refine lv_iinc (v := nI (i + 1)) (lv' := [(1, .int (nI (i + 1))), (3, .int (((((cSp F i) ((i + 8) - 8)) ^^^ ((cSp F i) ((i + 8) - 5))) ^^^ ((cSp F i) ((i + 8) - 3))) ^^^ ((cSp F i) ((i + 8) - 1)))), (2, .int (nI (i + 8))), (0, .ref h0)]) hx hb dX0_spreadKey_68 hl (k := 3) rfl (wk_inc i (by decide)) (by decide) rfl (fun ls hl => ?_)
          refine lv_goto (tgt := 2) hx hb dX0_spreadKey_71 (by decide) ?_
          exact ih (i + 1) (by omega) (by omega) _ _ hP hD hS ls (lv_sub hl [3, 0] rfl)
  refine lv_iconst (v := nI 0) hx hb dX0_spreadKey_0 (by decide) ?_
  refine lv_istore_n (lv' := [(1, .int (nI 0)), (0, .ref h0)]) hx hb dX0_spreadKey_1 rfl hl (by decide) rfl (fun ls hl => ?_)
  exact lp 133 0 (by omega) (by omega) _ _ hP hD hS ls (lv_sub hl [1, 0] rfl)
set_option maxRecDepth 100000 in
theorem in_X0_ready : ∀ w ∈ wsX00, w ∈ wsX0_ready := by decide +kernel
set_option maxHeartbeats 4000000 in
set_option maxRecDepth 100000 in
theorem c_X0_ready (l : Launch) (D : va_G) (cI : ClassId) (tb : Nat) (sz : Nat) (h0 kw sc so tp ct sr : Nat) (kr tl : Int32) (kb : Nat) (K F : Nat → Int32) (h2 : kb ≤ 32) : Met l yX0_ready wsX0_ready ({ frames := 3, cells := 0, slots := 0, locals := 77 }) (va_Pc [.ref h0] (fun U => PW D [(cI, .int)] [(h0, .inr (0, [.ref kw, .int (nI kb), .int kr, .ref sc, .ref so, .ref tp, .int tl, .ref ct, .ref sr])), (kw, .inl (cI, 8, .inl K)), (sc, .inl (cI, 140, .inl F))] sz U ∧ bxs tb (va_A [(h0, .inr (0, [.ref kw, .int (nI kb), .int kr, .ref sc, .ref so, .ref tp, .int tl, .ref ct, .ref sr])), (kw, .inl (cI, 8, .inl K)), (sc, .inl (cI, 140, .inl F))] sz) U U.heap)) (va_Qv (fun _ : Unit => True) (fun _ => BW D [(cI, .int)] (va_A [(h0, .inr (0, [.ref kw, .int (nI kb), .int kr, .ref sc, .ref so, .ref tp, .int tl, .ref ct, .ref sr])), (kw, .inl (cI, 8, .inl K)), (sc, .inl (cI, 140, .inl F))] sz) [(h0, .inr (0, [.ref kw, .int (nI kb), .int (nI 1), .ref sc, .ref so, .ref tp, .int tl, .ref ct, .ref sr])), (kw, .inl (cI, 8, .inl K)), (sc, .inl (cI, 140, .inl (cRk (cSp (cR1 F K kb 8) 132) 33)))]) (va_A [(h0, .inr (0, [.ref kw, .int (nI kb), .int kr, .ref sc, .ref so, .ref tp, .int tl, .ref ct, .ref sr])), (kw, .inl (cI, 8, .inl K)), (sc, .inl (cI, 140, .inl F))] sz)) 0 0 (va_A [(h0, .inr (0, [.ref kw, .int (nI kb), .int kr, .ref sc, .ref so, .ref tp, .int tl, .ref ct, .ref sr])), (kw, .inl (cI, 8, .inl K)), (sc, .inl (cI, 140, .inl F))] sz) := by
  refine Met.ofW (cc := cX0_ready) (maxL := 2) (ret := none) (by decide) rfl ?_
  intro p e s m args below meth c s₁ B hml hv
  obtain ⟨rfl, ⟨hsz, hP, hK, hD0⟩, hbx⟩ := hv
  have hx := B.exec
  have hb := B.bytes
  have hr := B.returns
  have hts := atoms_spec (ws := wsX0_ready) B.pre
  have hown : s.vm.findClass RX0 = some m.cls := findClass_of_methodNamed B.named
  have hlocks := B.notSynchronized
  subst hsz
  have hD := hD0.self (sz := s.heap.size)
  have hinX0 := in_X0_ready
  generalize hAe : va_A [(h0, .inr (0, [.ref kw, .int (nI kb), .int kr, .ref sc, .ref so, .ref tp, .int tl, .ref ct, .ref sr])), (kw, .inl (cI, 8, .inl K)), (sc, .inl (cI, 140, .inl F))] s.heap.size = A at hbx hD ⊢
  have hA : ∀ q : Nat, s.heap.size ≤ q → A q := fun q h => by rw [← hAe]; exact Or.inr h
  have hS : va_S A s.heap s.heap [] := va_S.rf
  have hl := lv_entry ([.ref h0]) (n := 2) (Nat.le_of_ble_eq_true rfl)
  rw [lg_entry_eq]
  generalize (lg_sl ([.ref h0]) ++ List.replicate (2 - (lg_sl ([.ref h0])).length) Slot.unset).toArray = ls at hl ⊢
  have hl : lv_has ls 2 [(0, .ref h0)] := hl
  have lp2 : ∀ (fu : Nat) (r : Nat), r ≤ 33 → 33 + 1 ≤ r + fu → ∀ (H : Heap) (locs : List Loc), va_P D vwCl [(h0, .inr (0, [.ref kw, .int (nI kb), .int kr, .ref sc, .ref so, .ref tp, .int tl, .ref ct, .ref sr])), (kw, .inl (cI, 8, .inl K)), (sc, .inl (cI, 140, .inl (cRk (cSp (cR1 F K kb 8) 132) r)))] H → va_D A [(h0, .inr (0, [.ref kw, .int (nI kb), .int kr, .ref sc, .ref so, .ref tp, .int tl, .ref ct, .ref sr])), (kw, .inl (cI, 8, .inl K)), (sc, .inl (cI, 140, .inl (cRk (cSp (cR1 F K kb 8) 132) r)))] → va_S A s.heap H locs → ∀ (ls : Array Slot), lv_has ls 2 [(0, .ref h0), (1, .int (nI r))] → W p l e ((headSpec wsX0_ready ({ frames := 3, cells := 0, slots := 0, locals := 77 })).room) s m ([.ref h0] : List Value).toArray below meth c H locs 0 0 (MQ below (va_Qv (fun _ : Unit => True) (fun _ => BW D [(cI, .int)] A [(h0, .inr (0, [.ref kw, .int (nI kb), .int (nI 1), .ref sc, .ref so, .ref tp, .int tl, .ref ct, .ref sr])), (kw, .inl (cI, 8, .inl K)), (sc, .inl (cI, 140, .inl (cRk (cSp (cR1 F K kb 8) 132) 33)))]) A) ([.ref h0] : List Value).toArray s 0 0 (A)) (F0 m 31 ls []) := by
    intro fu
    induction fu with
      | zero => intro r hi hfu; exact absurd hfu (by omega)
      | succ fu ih =>
        intro r hi hfu H locs hP hD hS ls hl
        refine lv_iload_n hx hb dX0_ready_31 rfl (lv_at hl 1 rfl) ?_
        refine lv_bipush (v := nI 32) hx hb dX0_ready_32 (by decide) ?_
        refine wk_gtN (tgt := 63) hx hb (a := r) (b := 32) (by omega) (by decide) dX0_ready_34 (by decide) (fun c34 => ?_) (fun c34 => ?_)
        · obtain rfl : r = 33 := by omega
          refine lv_aload_n hx hb dX0_ready_63 rfl (lv_at hl 0 rfl) ?_
          refine lv_iconst (v := nI 1) hx hb dX0_ready_64 (by decide) ?_
          refine va_put (D := D) (ci := 0) (v := .int (nI 1)) (ty := .boolean) (C := RX0) (T := TX0) (N := 9) hx hb hts hinX0 tyX0 tyX0_ok nmX0 hown hK hP hD hS 0 rfl rfl 2 (by decide) (hts (.fieldLink RX0 32 "SlicedCipher" "keyIsReady" "Z") (by decide +kernel)) (fun _ h9 => h9) rfl (by decide +kernel) rfl rfl (Nat.le_of_ble_eq_true rfl) dX0_ready_65 (fun H locs hP hD hS => ?_)
          have hP : va_P D vwCl [(h0, .inr (0, [.ref kw, .int (nI kb), .int (nI 1), .ref sc, .ref so, .ref tp, .int tl, .ref ct, .ref sr])), (kw, .inl (cI, 8, .inl K)), (sc, .inl (cI, 140, .inl (cRk (cSp (cR1 F K kb 8) 132) 33)))] H := hP
          have hD : va_D A [(h0, .inr (0, [.ref kw, .int (nI kb), .int (nI 1), .ref sc, .ref so, .ref tp, .int tl, .ref ct, .ref sr])), (kw, .inl (cI, 8, .inl K)), (sc, .inl (cI, 140, .inl (cRk (cSp (cR1 F K kb 8) 132) 33)))] := hD
          exact W.vret hx hb hr (fun t ht hW => ⟨⟨(), rfl, trivial, by rw [ht]; exact hP, va_K.moved hW.alike hK, hD⟩, hS.F ht⟩) hS.2.2 dX0_ready_68
        · refine lv_aload_n hx hb dX0_ready_37 rfl (lv_at hl 0 rfl) ?_
          refine va_get (D := D) (ci := 0) (v := .ref sc) (C := RX0) (T := TX0) (N := 9) hx hb hts hinX0 hown hK hP 0 rfl rfl 3 (by decide) (hts (.fieldLink RX0 13 "SlicedCipher" "schedule" "[I") (by decide +kernel)) (fun _ h9 => h9) rfl dX0_ready_38 ?_
          refine lv_iload_n hx hb dX0_ready_41 rfl (lv_at hl 1 rfl) ?_
          refine wk_Sp (v := nI (8 + 4 * r)) (As := [.int (nI r)]) (rest := [.ref sc]) ⟨hx, hb, hml, hown, hts⟩ (c_X0_roundKeyAt l r) (va_cwS 1 hts gX0_ready_X0_roundKeyAt rfl rfl rfl (by decide +kernel) ⟨Nat.le_of_ble_eq_true rfl, Nat.le_of_ble_eq_true rfl⟩) rfl hl.1 rfl (Nat.le_of_ble_eq_true rfl) dX0_ready_42 ⟨Nat.zero_le _, Nat.zero_le _⟩ ?_
          refine lv_iconst (v := nI 3) hx hb dX0_ready_45 (by decide) ?_
          refine lv_iload_n hx hb dX0_ready_46 rfl (lv_at hl 1 rfl) ?_
          refine lv_isub hx hb dX0_ready_47 ?_
          refine lv_bipush (v := nI 8) hx hb dX0_ready_48 (by decide) ?_
          refine wk_Sp (v := nI ((35 - r) % 8)) (As := [.int ((nI 3) - (nI r)), .int (nI 8)]) (rest := [.int (nI (8 + 4 * r)), .ref sc]) ⟨hx, hb, hml, hown, hts⟩ (c_J9_floorMod l r (by omega)) (va_cwS 2 hts gX0_ready_J9_floorMod_7cf53 rfl rfl rfl (by decide +kernel) ⟨Nat.le_of_ble_eq_true rfl, Nat.le_of_ble_eq_true rfl⟩) rfl hl.1 rfl (Nat.le_of_ble_eq_true rfl) dX0_ready_50 ⟨Nat.zero_le _, Nat.zero_le _⟩ ?_
          refine lv_iconst (v := nI 0) hx hb dX0_ready_53 (by decide) ?_
          refine wk_Sv (As := [.ref sc, .int (nI (8 + 4 * r)), .int (nI ((35 - r) % 8)), .int (nI 0)]) (rest := []) (wc := [(sc, .inl (cI, 140, .inl (cRk (cSp (cR1 F K kb 8) 132) r)))]) (wr := [(h0, .inr (0, [.ref kw, .int (nI kb), .int kr, .ref sc, .ref so, .ref tp, .int tl, .ref ct, .ref sr])), (kw, .inl (cI, 8, .inl K))]) (w1 := [(sc, .inl (cI, 140, .inl (st4 (cRk (cSp (cR1 F K kb 8) 132) r) (8 + 4 * r) (cBox 0 ((35 - r) % 8) (ld4 (cRk (cSp (cR1 F K kb 8) 132) r) (8 + 4 * r))))))]) (w2 := [(h0, .inr (0, [.ref kw, .int (nI kb), .int kr, .ref sc, .ref so, .ref tp, .int tl, .ref ct, .ref sr])), (kw, .inl (cI, 8, .inl K)), (sc, .inl (cI, 140, .inl (st4 (cRk (cSp (cR1 F K kb 8) 132) r) (8 + 4 * r) (cBox 0 ((35 - r) % 8) (ld4 (cRk (cSp (cR1 F K kb 8) 132) r) (8 + 4 * r))))))]) ⟨hx, hb, hml, hown, hts⟩ (c_X0_passBox0 l D cI tb _ sc (8 + 4 * r) ((35 - r) % 8) 140 (cRk (cSp (cR1 F K kb 8) 132) r) (by omega) (Nat.mod_lt _ (by decide)) (by decide)) (va_cwS 4 hts gX0_ready_X0_passBox rfl rfl rfl (by decide +kernel) ⟨Nat.le_of_ble_eq_true rfl, Nat.le_of_ble_eq_true rfl⟩) (fun U g mk a h => bxs.call g mk a h) (fun hF U hU hW => hbx.give hS hF hU hW) hK hP hD hS hA [2] [0, 1] rfl (by decide) rfl (by decide) (by decide) [0, 1, 2] rfl (by decide) rfl hl.1 rfl (Nat.le_of_ble_eq_true rfl) dX0_ready_54 ⟨Nat.zero_le _, Nat.zero_le _⟩ (fun H locs hP hD hS => ?_)
          refine lv_iinc (v := nI (r + 1)) (lv' := [(1, .int (nI (r + 1))), (0, .ref h0)]) hx hb dX0_ready_57 hl (k := 1) rfl (wk_inc r (by decide)) (by decide) rfl (fun ls hl => ?_)
          refine lv_goto (tgt := 31) hx hb dX0_ready_60 (by decide) ?_
          exact ih (r + 1) (by omega) (by omega) _ _ hP hD hS ls (lv_sub hl [1, 0] rfl)
  have lp1 : ∀ (fu : Nat) (i : Nat), i ≤ 8 → 8 + 1 ≤ i + fu → ∀ (H : Heap) (locs : List Loc), va_P D vwCl [(h0, .inr (0, [.ref kw, .int (nI kb), .int kr, .ref sc, .ref so, .ref tp, .int tl, .ref ct, .ref sr])), (kw, .inl (cI, 8, .inl K)), (sc, .inl (cI, 140, .inl (cR1 F K kb i)))] H → va_D A [(h0, .inr (0, [.ref kw, .int (nI kb), .int kr, .ref sc, .ref so, .ref tp, .int tl, .ref ct, .ref sr])), (kw, .inl (cI, 8, .inl K)), (sc, .inl (cI, 140, .inl (cR1 F K kb i)))] → va_S A s.heap H locs → ∀ (ls : Array Slot), lv_has ls 2 [(0, .ref h0), (1, .int (nI i))] → W p l e ((headSpec wsX0_ready ({ frames := 3, cells := 0, slots := 0, locals := 77 })).room) s m ([.ref h0] : List Value).toArray below meth c H locs 0 0 (MQ below (va_Qv (fun _ : Unit => True) (fun _ => BW D [(cI, .int)] A [(h0, .inr (0, [.ref kw, .int (nI kb), .int (nI 1), .ref sc, .ref so, .ref tp, .int tl, .ref ct, .ref sr])), (kw, .inl (cI, 8, .inl K)), (sc, .inl (cI, 140, .inl (cRk (cSp (cR1 F K kb 8) 132) 33)))]) A) ([.ref h0] : List Value).toArray s 0 0 (A)) (F0 m 2 ls []) := by
    intro fu
    induction fu with
      | zero => intro i hi hfu; exact absurd hfu (by omega)
      | succ fu ih =>
        intro i hi hfu H locs hP hD hS ls hl
        refine lv_iload_n hx hb dX0_ready_2 rfl (lv_at hl 1 rfl) ?_
        refine lv_bipush (v := nI 8) hx hb dX0_ready_3 (by decide) ?_
        refine wk_geN (tgt := 25) hx hb (a := i) (b := 8) (by omega) (by decide) dX0_ready_5 (by decide) (fun c5 => ?_) (fun c5 => ?_)
        · obtain rfl : i = 8 := by omega
          refine lv_aload_n hx hb dX0_ready_25 rfl (lv_at hl 0 rfl) ?_
          refine wk_Vv (b := h0) (As := []) (rest := []) (wc := [(h0, .inr (0, [.ref kw, .int (nI kb), .int kr, .ref sc, .ref so, .ref tp, .int tl, .ref ct, .ref sr])), (sc, .inl (cI, 140, .inl (cR1 F K kb 8)))]) (wr := [(kw, .inl (cI, 8, .inl K))]) (w1 := [(h0, .inr (0, [.ref kw, .int (nI kb), .int kr, .ref sc, .ref so, .ref tp, .int tl, .ref ct, .ref sr])), (sc, .inl (cI, 140, .inl (cSp (cR1 F K kb 8) 132)))]) (w2 := [(h0, .inr (0, [.ref kw, .int (nI kb), .int kr, .ref sc, .ref so, .ref tp, .int tl, .ref ct, .ref sr])), (kw, .inl (cI, 8, .inl K)), (sc, .inl (cI, 140, .inl (cSp (cR1 F K kb 8) 132)))]) (ci := 0) (q0 := 0) ⟨hx, hb, hml, hown, hts⟩ (c_X0_spreadKey l D cI _ h0 kw sc so tp ct sr (nI kb) kr tl (cR1 F K kb 8)) (cwV 0 hts gX0_ready_X0_spreadKey rfl rfl rfl (by decide +kernel) ⟨Nat.le_of_ble_eq_true rfl, Nat.le_of_ble_eq_true rfl⟩) (fun _ _ _ _ h => h) (fun _ _ _ _ => trivial) hK hP hD hS hA rfl rfl [0, 2] [1] rfl (by decide) rfl (by decide) (by decide) [1, 0, 2] rfl (by decide) rfl hl.1 rfl (Nat.le_of_ble_eq_true rfl) dX0_ready_26 ⟨Nat.zero_le _, Nat.zero_le _⟩ (fun H locs hP hD hS => ?_)
          refine lv_iconst (v := nI 0) hx hb dX0_ready_29 (by decide) ?_
          refine lv_istore_n (lv' := [(1, .int (nI 0)), (0, .ref h0)]) hx hb dX0_ready_30 rfl hl (by decide) rfl (fun ls hl => ?_)
          exact lp2 34 0 (by omega) (by omega) _ _ hP hD hS ls (lv_sub hl [1, 0] rfl)
        · refine lv_aload_n hx hb dX0_ready_8 rfl (lv_at hl 0 rfl) ?_
          refine va_get (D := D) (ci := 0) (v := .ref sc) (C := RX0) (T := TX0) (N := 9) hx hb hts hinX0 hown hK hP 0 rfl rfl 3 (by decide) (hts (.fieldLink RX0 13 "SlicedCipher" "schedule" "[I") (by decide +kernel)) (fun _ h9 => h9) rfl dX0_ready_9 ?_
          refine lv_iload_n hx hb dX0_ready_12 rfl (lv_at hl 1 rfl) ?_
          refine lv_aload_n hx hb dX0_ready_13 rfl (lv_at hl 0 rfl) ?_
          refine lv_iload_n hx hb dX0_ready_14 rfl (lv_at hl 1 rfl) ?_
          refine wk_Vi (b := h0) (As := [.int (nI i)]) (rest := [.int (nI i), .ref sc]) (wc := [(h0, .inr (0, [.ref kw, .int (nI kb), .int kr, .ref sc, .ref so, .ref tp, .int tl, .ref ct, .ref sr])), (kw, .inl (cI, 8, .inl K))]) (ci := 0) (q0 := 0) ⟨hx, hb, hml, hown, hts⟩ (c_X0_paddedKeyWord l D cI _ h0 kw sc so tp ct sr kr tl kb i K (by omega) h2) (cwV 1 hts gX0_ready_X0_paddedKeyWord rfl rfl rfl (by decide +kernel) ⟨Nat.le_of_ble_eq_true rfl, Nat.le_of_ble_eq_true rfl⟩) (fun _ _ _ _ h => h) (fun _ _ _ => trivial) hK hP hD rfl rfl [0, 1] rfl (by decide) rfl hl.1 rfl (Nat.le_of_ble_eq_true rfl) dX0_ready_15 ⟨Nat.zero_le _, Nat.zero_le _⟩ (fun z9 hz9 => ?_)
          refine wk_i (y := cKW K kb i 4) hz9 ?_
          refine wk_iast hx hb hK hP hD hS 2 0 rfl rfl (k := i) (x := cKW K kb i 4) (by omega) (by decide) dX0_ready_18 (fun H locs hP hD hS => ?_)
          have hP : va_P D vwCl [(h0, .inr (0, [.ref kw, .int (nI kb), .int kr, .ref sc, .ref so, .ref tp, .int tl, .ref ct, .ref sr])), (kw, .inl (cI, 8, .inl K)), (sc, .inl (cI, 140, .inl (upd (cR1 F K kb i) i (cKW K kb i 4))))] H := hP
          have hD : va_D A [(h0, .inr (0, [.ref kw, .int (nI kb), .int kr, .ref sc, .ref so, .ref tp, .int tl, .ref ct, .ref sr])), (kw, .inl (cI, 8, .inl K)), (sc, .inl (cI, 140, .inl (upd (cR1 F K kb i) i (cKW K kb i 4))))] := hD
          refine lv_iinc (v := nI (i + 1)) (lv' := [(1, .int (nI (i + 1))), (0, .ref h0)]) hx hb dX0_ready_19 hl (k := 1) rfl (wk_inc i (by decide)) (by decide) rfl (fun ls hl => ?_)
          refine lv_goto (tgt := 2) hx hb dX0_ready_22 (by decide) ?_
          exact ih (i + 1) (by omega) (by omega) _ _ hP hD hS ls (lv_sub hl [1, 0] rfl)
  refine lv_iconst (v := nI 0) hx hb dX0_ready_0 (by decide) ?_
  refine lv_istore_n (lv' := [(1, .int (nI 0)), (0, .ref h0)]) hx hb dX0_ready_1 rfl hl (by decide) rfl (fun ls hl => ?_)
  exact lp1 9 0 (by omega) (by omega) _ _ hP hD hS ls (lv_sub hl [1, 0] rfl)
set_option maxHeartbeats 4000000 in
set_option maxRecDepth 100000 in
theorem c_X0_sourceInBox (l : Launch) (D : va_G) (cI : ClassId) (tb : Nat) (sz : Nat) (wh : Nat) (v : Int32) (h1 : wh < 8) : Met l yX0_sourceInBox wsX0_sourceInBox ({ frames := 0, cells := 0, slots := 0, locals := 0 }) (va_Pc [.int (nI wh), .int v] (fun U => PW D [(cI, .int)] [] sz U ∧ bxs tb (va_A [] sz) U U.heap)) (vp_Si (fun r9 => r9 = nI (cSrc wh v 16))) 0 0 (fun _ => False) := by
  refine Met.ofW (cc := cX0_sourceInBox) (maxL := 4) (ret := (some .int)) (by decide) rfl ?_
  intro p e s m args below meth c s₁ B hml hv
  obtain ⟨rfl, ⟨hsz, hP, hK, hD0⟩, hbx⟩ := hv
  have hx := B.exec
  have hb := B.bytes
  have hr := B.returns
  have hts := atoms_spec (ws := wsX0_sourceInBox) B.pre
  have hown : s.vm.findClass RX0 = some m.cls := findClass_of_methodNamed B.named
  have hlocks := B.notSynchronized
  subst hsz
  have hD := hD0.self (sz := s.heap.size)
  generalize hAe : va_A [] s.heap.size = A at hbx hD
  have hA : ∀ q : Nat, s.heap.size ≤ q → A q := fun q h => by rw [← hAe]; exact Or.inr h
  have hS : va_S A s.heap s.heap [] := va_S.rf
  have hl := lv_entry ([.int (nI wh), .int v]) (n := 4) (Nat.le_of_ble_eq_true rfl)
  rw [lg_entry_eq]
  generalize (lg_sl ([.int (nI wh), .int v]) ++ List.replicate (4 - (lg_sl ([.int (nI wh), .int v])).length) Slot.unset).toArray = ls at hl ⊢
  have hl : lv_has ls 4 [(0, .int (nI wh)), (1, .int v)] := hl
  have lp : ∀ (fu : Nat) (i : Nat), i ≤ 16 → 16 + 1 ≤ i + fu → ∀ (ls : Array Slot), lv_has ls 4 [(0, .int (nI wh)), (1, .int v), (2, .int (nI (cSrc wh v i))), (3, .int (nI i))] → W p l e ((headSpec wsX0_sourceInBox ({ frames := 0, cells := 0, slots := 0, locals := 0 })).room) s m ([.int (nI wh), .int v] : List Value).toArray below meth c s.heap [] 0 0 (MQ below (vp_Si (fun r9 => r9 = nI (cSrc wh v 16))) ([.int (nI wh), .int v] : List Value).toArray s 0 0 (fun _ => False)) (F0 m 4 ls []) := by
    intro fu
    induction fu with
      | zero => intro i hi hfu; exact absurd hfu (by omega)
      | succ fu ih =>
        intro i hi hfu ls hl
        refine lv_iload_n hx hb dX0_sourceInBox_4 rfl (lv_at hl 3 rfl) ?_
        refine lv_bipush (v := nI 16) hx hb dX0_sourceInBox_5 (by decide) ?_
        refine wk_geN (tgt := 32) hx hb (a := i) (b := 16) (by omega) (by decide) dX0_sourceInBox_7 (by decide) (fun c7 => ?_) (fun c7 => ?_)
        · obtain rfl : i = 16 := by omega
          refine lv_iload_n hx hb dX0_sourceInBox_32 rfl (lv_at hl 2 rfl) ?_
          exact W.iret (v := nI (cSrc wh v 16)) hx hb hr (fun t ht hW => ⟨_, rfl, rfl, ht⟩) (fun q h => absurd h List.not_mem_nil) dX0_sourceInBox_33
        · refine va_gets (C := "SlicedCipher") (n := "BOXES") (d := "[I") (v := .ref tb) hx hb hbx.1 hS hown (hts (.fieldLink RX0 83 "SlicedCipher" "BOXES" "[I") (by decide +kernel)) (fun _ h9 => h9) dX0_sourceInBox_10 ?_
          refine lv_iload_n hx hb dX0_sourceInBox_13 rfl (lv_at hl 0 rfl) ?_
          refine lv_bipush (v := nI 16) hx hb dX0_sourceInBox_14 (by decide) ?_
          refine wk_imulN hx hb (a := wh) (b := 16) dX0_sourceInBox_16 ?_
          refine lv_iload_n hx hb dX0_sourceInBox_17 rfl (lv_at hl 3 rfl) ?_
          refine wk_iaddN hx hb (a := wh * 16) (b := i) dX0_sourceInBox_18 ?_
          refine wk_tbl hx hb hbx.2 hS (k := (wh * 16) + i) (by omega) dX0_sourceInBox_19 ?_
          refine lv_iload_n hx hb dX0_sourceInBox_20 rfl (lv_at hl 1 rfl) ?_
          refine lv_icmp_ne (tgt := 26) hx hb dX0_sourceInBox_21 (by decide) (fun c21 => ?_) (fun c21 => ?_)
          · refine lv_iinc (v := nI (i + 1)) (lv' := [(3, .int (nI (i + 1))), (0, .int (nI wh)), (1, .int v), (2, .int (nI (cSrc wh v i)))]) hx hb dX0_sourceInBox_26 hl (k := 3) rfl (wk_inc i (by decide)) (by decide) rfl (fun ls hl => ?_)
            refine lv_goto (tgt := 4) hx hb dX0_sourceInBox_29 (by decide) ?_
            exact ih (i + 1) (by omega) (by omega) ls (by rw [show cSrc wh v (i + 1) = cSrc wh v i from if_neg c21]; exact lv_sub hl [1, 2, 3, 0] rfl)
          · refine lv_iload_n hx hb dX0_sourceInBox_24 rfl (lv_at hl 3 rfl) ?_
            refine lv_istore_n (lv' := [(2, .int (nI i)), (0, .int (nI wh)), (1, .int v), (3, .int (nI i))]) hx hb dX0_sourceInBox_25 rfl hl (by decide) rfl (fun ls hl => ?_)
            refine lv_iinc (v := nI (i + 1)) (lv' := [(3, .int (nI (i + 1))), (2, .int (nI i)), (0, .int (nI wh)), (1, .int v)]) hx hb dX0_sourceInBox_26 hl (k := 3) rfl (wk_inc i (by decide)) (by decide) rfl (fun ls hl => ?_)
            refine lv_goto (tgt := 4) hx hb dX0_sourceInBox_29 (by decide) ?_
            exact ih (i + 1) (by omega) (by omega) ls (by rw [show cSrc wh v (i + 1) = i from if_pos c21]; exact lv_sub hl [2, 3, 1, 0] rfl)
  refine lv_iconst (v := nI 0) hx hb dX0_sourceInBox_0 (by decide) ?_
  refine lv_istore_n (lv' := [(2, .int (nI 0)), (0, .int (nI wh)), (1, .int v)]) hx hb dX0_sourceInBox_1 rfl hl (by decide) rfl (fun ls hl => ?_)
  refine lv_iconst (v := nI 0) hx hb dX0_sourceInBox_2 (by decide) ?_
  refine lv_istore_n (lv' := [(3, .int (nI 0)), (2, .int (nI 0)), (0, .int (nI wh)), (1, .int v)]) hx hb dX0_sourceInBox_3 rfl hl (by decide) rfl (fun ls hl => ?_)
  exact lp 17 0 (by omega) (by omega) ls (lv_sub hl [2, 3, 1, 0] rfl)
