theorem x4_comm (x y : Qd) : x4 x y = x4 y x := by
  unfold x4
  rw [Int32.xor_comm x.1, Int32.xor_comm x.2.1, Int32.xor_comm x.2.2.1, Int32.xor_comm x.2.2.2]
set_option maxRecDepth 100000 in
theorem in_X0_needReadyKey : ∀ w ∈ wsX00, w ∈ wsX0_needReadyKey := by decide +kernel
set_option maxHeartbeats 4000000 in
set_option maxRecDepth 100000 in
theorem c_X0_needReadyKey1 (l : Launch) (D : va_G) (cI : ClassId) (sz : Nat) (h0 kw sc so tp ct sr : Nat) (kb tl : Int32) : Met l yX0_needReadyKey wsX0_needReadyKey ({ frames := 0, cells := 0, slots := 0, locals := 0 }) (va_Pc [.ref h0] (fun U => PW D [(cI, .int)] [(h0, .inr (0, [.ref kw, .int kb, .int (nI 1), .ref sc, .ref so, .ref tp, .int tl, .ref ct, .ref sr]))] sz U ∧ True)) (va_Qv (fun _ : Unit => True) (fun _ => BW D [(cI, .int)] (va_A [(h0, .inr (0, [.ref kw, .int kb, .int (nI 1), .ref sc, .ref so, .ref tp, .int tl, .ref ct, .ref sr]))] sz) [(h0, .inr (0, [.ref kw, .int kb, .int (nI 1), .ref sc, .ref so, .ref tp, .int tl, .ref ct, .ref sr]))]) (va_A [(h0, .inr (0, [.ref kw, .int kb, .int (nI 1), .ref sc, .ref so, .ref tp, .int tl, .ref ct, .ref sr]))] sz)) 0 0 (va_A [(h0, .inr (0, [.ref kw, .int kb, .int (nI 1), .ref sc, .ref so, .ref tp, .int tl, .ref ct, .ref sr]))] sz) := by
  refine Met.ofW (cc := cX0_needReadyKey) (maxL := 1) (ret := none) (by decide) rfl ?_
  intro p e s m args below meth c s₁ B hml hv
  obtain ⟨rfl, ⟨hsz, hP, hK, hD0⟩, -⟩ := hv
  have hx := B.exec
  have hb := B.bytes
  have hr := B.returns
  have hts := atoms_spec (ws := wsX0_needReadyKey) B.pre
  have hown : s.vm.findClass RX0 = some m.cls := findClass_of_methodNamed B.named
  have hlocks := B.notSynchronized
  subst hsz
  have hD := hD0.self (sz := s.heap.size)
  have hinX0 := in_X0_needReadyKey
  generalize hAe : va_A [(h0, .inr (0, [.ref kw, .int kb, .int (nI 1), .ref sc, .ref so, .ref tp, .int tl, .ref ct, .ref sr]))] s.heap.size = A at hD ⊢
  have hA : ∀ q : Nat, s.heap.size ≤ q → A q := fun q h => by rw [← hAe]; exact Or.inr h
  have hS : va_S A s.heap s.heap [] := va_S.rf
  have hl := lv_entry ([.ref h0]) (n := 1) (Nat.le_of_ble_eq_true rfl)
  rw [lg_entry_eq]
  generalize (lg_sl ([.ref h0]) ++ List.replicate (1 - (lg_sl ([.ref h0])).length) Slot.unset).toArray = ls at hl ⊢
  have hl : lv_has ls 1 [(0, .ref h0)] := hl
  refine lv_aload_n hx hb dX0_needReadyKey_0 rfl (lv_at hl 0 rfl) ?_
  refine va_get (D := D) (ci := 0) (v := .int (nI 1)) (C := RX0) (T := TX0) (N := 9) hx hb hts hinX0 hown hK hP 0 rfl rfl 2 (by decide) (hts (.fieldLink RX0 32 "SlicedCipher" "keyIsReady" "Z") (by decide +kernel)) (fun _ h9 => h9) rfl dX0_needReadyKey_1 ?_
  refine wk_ne0N (tgt := 17) hx hb (a := 1) (by decide) dX0_needReadyKey_4 (by decide) (fun c4 => ?_) (fun c4 => absurd c4 (by decide))
  exact W.vret hx hb hr (fun t ht hW => ⟨⟨(), rfl, trivial, by rw [ht]; exact hP, va_K.moved hW.alike hK, hD⟩, hS.F ht⟩) hS.2.2 dX0_needReadyKey_17
set_option maxRecDepth 100000 in
theorem in_X0_needWholeBlocks : ∀ w ∈ wsX00, w ∈ wsX0_needWholeBlocks := by decide +kernel
set_option maxHeartbeats 4000000 in
set_option maxRecDepth 100000 in
theorem c_X0_needWholeBlocks1 (l : Launch) (D : va_G) (cI : ClassId) (sz : Nat) (h0 kw sc so tp ct sr : Nat) (kb kr : Int32) (nb : Nat) (hnb : nb ≤ 64) : Met l yX0_needWholeBlocks wsX0_needWholeBlocks ({ frames := 0, cells := 0, slots := 0, locals := 0 }) (va_Pc [.ref h0] (fun U => PW D [(cI, .int)] [(h0, .inr (0, [.ref kw, .int kb, .int kr, .ref sc, .ref so, .ref tp, .int (nI (4 * nb)), .ref ct, .ref sr]))] sz U ∧ True)) (va_Qv (fun _ : Unit => True) (fun _ => BW D [(cI, .int)] (va_A [(h0, .inr (0, [.ref kw, .int kb, .int kr, .ref sc, .ref so, .ref tp, .int (nI (4 * nb)), .ref ct, .ref sr]))] sz) [(h0, .inr (0, [.ref kw, .int kb, .int kr, .ref sc, .ref so, .ref tp, .int (nI (4 * nb)), .ref ct, .ref sr]))]) (va_A [(h0, .inr (0, [.ref kw, .int kb, .int kr, .ref sc, .ref so, .ref tp, .int (nI (4 * nb)), .ref ct, .ref sr]))] sz)) 0 0 (va_A [(h0, .inr (0, [.ref kw, .int kb, .int kr, .ref sc, .ref so, .ref tp, .int (nI (4 * nb)), .ref ct, .ref sr]))] sz) := by
  refine Met.ofW (cc := cX0_needWholeBlocks) (maxL := 1) (ret := none) (by decide) rfl ?_
  intro p e s m args below meth c s₁ B hml hv
  obtain ⟨rfl, ⟨hsz, hP, hK, hD0⟩, -⟩ := hv
  have hx := B.exec
  have hb := B.bytes
  have hr := B.returns
  have hts := atoms_spec (ws := wsX0_needWholeBlocks) B.pre
  have hown : s.vm.findClass RX0 = some m.cls := findClass_of_methodNamed B.named
  have hlocks := B.notSynchronized
  subst hsz
  have hD := hD0.self (sz := s.heap.size)
  have hinX0 := in_X0_needWholeBlocks
  generalize hAe : va_A [(h0, .inr (0, [.ref kw, .int kb, .int kr, .ref sc, .ref so, .ref tp, .int (nI (4 * nb)), .ref ct, .ref sr]))] s.heap.size = A at hD ⊢
  have hA : ∀ q : Nat, s.heap.size ≤ q → A q := fun q h => by rw [← hAe]; exact Or.inr h
  have hS : va_S A s.heap s.heap [] := va_S.rf
  have hl := lv_entry ([.ref h0]) (n := 1) (Nat.le_of_ble_eq_true rfl)
  rw [lg_entry_eq]
  generalize (lg_sl ([.ref h0]) ++ List.replicate (1 - (lg_sl ([.ref h0])).length) Slot.unset).toArray = ls at hl ⊢
  have hl : lv_has ls 1 [(0, .ref h0)] := hl
  refine lv_aload_n hx hb dX0_needWholeBlocks_0 rfl (lv_at hl 0 rfl) ?_
  refine va_get (D := D) (ci := 0) (v := .int (nI (4 * nb))) (C := RX0) (T := TX0) (N := 9) hx hb hts hinX0 hown hK hP 0 rfl rfl 6 (by decide) (hts (.fieldLink RX0 36 "SlicedCipher" "tapeLength" "I") (by decide +kernel)) (fun _ h9 => h9) rfl dX0_needWholeBlocks_1 ?_
  refine lv_iconst (v := nI 4) hx hb dX0_needWholeBlocks_4 (by decide) ?_
  refine wk_iremN hx hb (a := 4 * nb) (b := 4) (by omega) (by decide) (by decide) dX0_needWholeBlocks_5 ?_
  refine wk_eq0N (tgt := 19) hx hb (a := (4 * nb) % 4) (by omega) dX0_needWholeBlocks_6 (by decide) (fun c6 => ?_) (fun c6 => absurd c6 (fun h => h (by omega)))
  exact W.vret hx hb hr (fun t ht hW => ⟨⟨(), rfl, trivial, by rw [ht]; exact hP, va_K.moved hW.alike hK, hD⟩, hS.F ht⟩) hS.2.2 dX0_needWholeBlocks_19
set_option maxRecDepth 100000 in
theorem in_X0_key : ∀ w ∈ wsX00, w ∈ wsX0_key := by decide +kernel
set_option maxHeartbeats 4000000 in
set_option maxRecDepth 100000 in
theorem c_X0_key1 (l : Launch) (D : va_G) (cI : ClassId) (sz : Nat) (h0 kw sc so tp ct sr : Nat) (kb kr tl : Int32) (k : Nat) (v : Int32) (K : Nat → Int32) (hk : k < 8) : Met l yX0_key wsX0_key ({ frames := 0, cells := 0, slots := 0, locals := 0 }) (va_Pc [.ref h0, .int (nI k), .int v] (fun U => PW D [(cI, .int)] [(h0, .inr (0, [.ref kw, .int kb, .int kr, .ref sc, .ref so, .ref tp, .int tl, .ref ct, .ref sr])), (kw, .inl (cI, 8, .inl K))] sz U ∧ True)) (va_Qv (fun _ : Unit => True) (fun _ => BW D [(cI, .int)] (va_A [(h0, .inr (0, [.ref kw, .int kb, .int kr, .ref sc, .ref so, .ref tp, .int tl, .ref ct, .ref sr])), (kw, .inl (cI, 8, .inl K))] sz) [(h0, .inr (0, [.ref kw, .int kb, .int (nI 0), .ref sc, .ref so, .ref tp, .int tl, .ref ct, .ref sr])), (kw, .inl (cI, 8, .inl (upd K k v)))]) (va_A [(h0, .inr (0, [.ref kw, .int kb, .int kr, .ref sc, .ref so, .ref tp, .int tl, .ref ct, .ref sr])), (kw, .inl (cI, 8, .inl K))] sz)) 0 0 (va_A [(h0, .inr (0, [.ref kw, .int kb, .int kr, .ref sc, .ref so, .ref tp, .int tl, .ref ct, .ref sr])), (kw, .inl (cI, 8, .inl K))] sz) := by
  refine Met.ofW (cc := cX0_key) (maxL := 3) (ret := none) (by decide) rfl ?_
  intro p e s m args below meth c s₁ B hml hv
  obtain ⟨rfl, ⟨hsz, hP, hK, hD0⟩, -⟩ := hv
  have hx := B.exec
  have hb := B.bytes
  have hr := B.returns
  have hts := atoms_spec (ws := wsX0_key) B.pre
  have hown : s.vm.findClass RX0 = some m.cls := findClass_of_methodNamed B.named
  have hlocks := B.notSynchronized
  subst hsz
  have hD := hD0.self (sz := s.heap.size)
  have hinX0 := in_X0_key
  generalize hAe : va_A [(h0, .inr (0, [.ref kw, .int kb, .int kr, .ref sc, .ref so, .ref tp, .int tl, .ref ct, .ref sr])), (kw, .inl (cI, 8, .inl K))] s.heap.size = A at hD ⊢
  have hA : ∀ q : Nat, s.heap.size ≤ q → A q := fun q h => by rw [← hAe]; exact Or.inr h
  have hS : va_S A s.heap s.heap [] := va_S.rf
  have hl := lv_entry ([.ref h0, .int (nI k), .int v]) (n := 3) (Nat.le_of_ble_eq_true rfl)
  rw [lg_entry_eq]
  generalize (lg_sl ([.ref h0, .int (nI k), .int v]) ++ List.replicate (3 - (lg_sl ([.ref h0, .int (nI k), .int v])).length) Slot.unset).toArray = ls at hl ⊢
  have hl : lv_has ls 3 [(0, .ref h0), (1, .int (nI k)), (2, .int v)] := hl
  refine lv_iload_n hx hb dX0_key_0 rfl (lv_at hl 1 rfl) ?_
  refine lv_if_lt (tgt := 10) hx hb dX0_key_1 (by decide) (fun c1 => absurd c1 (nI_pos (by omega))) (fun c1 => ?_)
  refine lv_iload_n hx hb dX0_key_4 rfl (lv_at hl 1 rfl) ?_
  refine lv_bipush (v := nI 8) hx hb dX0_key_5 (by decide) ?_
  refine wk_ltN (tgt := 20) hx hb (a := k) (b := 8) (by omega) (by decide) dX0_key_7 (by decide) (fun c7 => ?_) (fun c7 => absurd c7 (by omega))
  refine lv_aload_n hx hb dX0_key_20 rfl (lv_at hl 0 rfl) ?_
  refine va_get (D := D) (ci := 0) (v := .ref kw) (C := RX0) (T := TX0) (N := 9) hx hb hts hinX0 hown hK hP 0 rfl rfl 0 (by decide) (hts (.fieldLink RX0 9 "SlicedCipher" "keyWords" "[I") (by decide +kernel)) (fun _ h9 => h9) rfl dX0_key_21 ?_
  refine lv_iload_n hx hb dX0_key_24 rfl (lv_at hl 1 rfl) ?_
  refine lv_iload_n hx hb dX0_key_25 rfl (lv_at hl 2 rfl) ?_
  refine wk_iast hx hb hK hP hD hS 1 0 rfl rfl (k := k) (x := v) (by omega) (by decide) dX0_key_26 (fun H locs hP hD hS => ?_)
  have hP : va_P D vwCl [(h0, .inr (0, [.ref kw, .int kb, .int kr, .ref sc, .ref so, .ref tp, .int tl, .ref ct, .ref sr])), (kw, .inl (cI, 8, .inl (upd K k v)))] H := hP
  have hD : va_D A [(h0, .inr (0, [.ref kw, .int kb, .int kr, .ref sc, .ref so, .ref tp, .int tl, .ref ct, .ref sr])), (kw, .inl (cI, 8, .inl (upd K k v)))] := hD
  refine lv_aload_n hx hb dX0_key_27 rfl (lv_at hl 0 rfl) ?_
  refine lv_iconst (v := nI 0) hx hb dX0_key_28 (by decide) ?_
  refine va_put (D := D) (ci := 0) (v := .int (nI 0)) (ty := .boolean) (C := RX0) (T := TX0) (N := 9) hx hb hts hinX0 tyX0 tyX0_ok nmX0 hown hK hP hD hS 0 rfl rfl 2 (by decide) (hts (.fieldLink RX0 32 "SlicedCipher" "keyIsReady" "Z") (by decide +kernel)) (fun _ h9 => h9) rfl (by decide +kernel) rfl rfl (Nat.le_of_ble_eq_true rfl) dX0_key_29 (fun H locs hP hD hS => ?_)
  have hP : va_P D vwCl [(h0, .inr (0, [.ref kw, .int kb, .int (nI 0), .ref sc, .ref so, .ref tp, .int tl, .ref ct, .ref sr])), (kw, .inl (cI, 8, .inl (upd K k v)))] H := hP
  have hD : va_D A [(h0, .inr (0, [.ref kw, .int kb, .int (nI 0), .ref sc, .ref so, .ref tp, .int tl, .ref ct, .ref sr])), (kw, .inl (cI, 8, .inl (upd K k v)))] := hD
  exact W.vret hx hb hr (fun t ht hW => ⟨⟨(), rfl, trivial, by rw [ht]; exact hP, va_K.moved hW.alike hK, hD⟩, hS.F ht⟩) hS.2.2 dX0_key_32
set_option maxRecDepth 100000 in
theorem in_X0_size : ∀ w ∈ wsX00, w ∈ wsX0_size := by decide +kernel
set_option maxHeartbeats 4000000 in
set_option maxRecDepth 100000 in
theorem c_X0_size1 (l : Launch) (D : va_G) (cI : ClassId) (sz : Nat) (h0 kw sc so tp ct sr : Nat) (kb kr tl : Int32) (k : Nat) (hk : k ≤ 32) : Met l yX0_size wsX0_size ({ frames := 0, cells := 0, slots := 0, locals := 0 }) (va_Pc [.ref h0, .int (nI k)] (fun U => PW D [(cI, .int)] [(h0, .inr (0, [.ref kw, .int kb, .int kr, .ref sc, .ref so, .ref tp, .int tl, .ref ct, .ref sr]))] sz U ∧ True)) (va_Qv (fun _ : Unit => True) (fun _ => BW D [(cI, .int)] (va_A [(h0, .inr (0, [.ref kw, .int kb, .int kr, .ref sc, .ref so, .ref tp, .int tl, .ref ct, .ref sr]))] sz) [(h0, .inr (0, [.ref kw, .int (nI k), .int (nI 0), .ref sc, .ref so, .ref tp, .int tl, .ref ct, .ref sr]))]) (va_A [(h0, .inr (0, [.ref kw, .int kb, .int kr, .ref sc, .ref so, .ref tp, .int tl, .ref ct, .ref sr]))] sz)) 0 0 (va_A [(h0, .inr (0, [.ref kw, .int kb, .int kr, .ref sc, .ref so, .ref tp, .int tl, .ref ct, .ref sr]))] sz) := by
  refine Met.ofW (cc := cX0_size) (maxL := 2) (ret := none) (by decide) rfl ?_
  intro p e s m args below meth c s₁ B hml hv
  obtain ⟨rfl, ⟨hsz, hP, hK, hD0⟩, -⟩ := hv
  have hx := B.exec
  have hb := B.bytes
  have hr := B.returns
  have hts := atoms_spec (ws := wsX0_size) B.pre
  have hown : s.vm.findClass RX0 = some m.cls := findClass_of_methodNamed B.named
  have hlocks := B.notSynchronized
  subst hsz
  have hD := hD0.self (sz := s.heap.size)
  have hinX0 := in_X0_size
  generalize hAe : va_A [(h0, .inr (0, [.ref kw, .int kb, .int kr, .ref sc, .ref so, .ref tp, .int tl, .ref ct, .ref sr]))] s.heap.size = A at hD ⊢
  have hA : ∀ q : Nat, s.heap.size ≤ q → A q := fun q h => by rw [← hAe]; exact Or.inr h
  have hS : va_S A s.heap s.heap [] := va_S.rf
  have hl := lv_entry ([.ref h0, .int (nI k)]) (n := 2) (Nat.le_of_ble_eq_true rfl)
  rw [lg_entry_eq]
  generalize (lg_sl ([.ref h0, .int (nI k)]) ++ List.replicate (2 - (lg_sl ([.ref h0, .int (nI k)])).length) Slot.unset).toArray = ls at hl ⊢
  have hl : lv_has ls 2 [(0, .ref h0), (1, .int (nI k))] := hl
  refine lv_iload_n hx hb dX0_size_0 rfl (lv_at hl 1 rfl) ?_
  refine lv_if_lt (tgt := 10) hx hb dX0_size_1 (by decide) (fun c1 => absurd c1 (nI_pos (by omega))) (fun c1 => ?_)
  refine lv_iload_n hx hb dX0_size_4 rfl (lv_at hl 1 rfl) ?_
  refine lv_bipush (v := nI 32) hx hb dX0_size_5 (by decide) ?_
  refine wk_leN (tgt := 20) hx hb (a := k) (b := 32) (by omega) (by decide) dX0_size_7 (by decide) (fun c7 => ?_) (fun c7 => absurd c7 (by omega))
  refine lv_aload_n hx hb dX0_size_20 rfl (lv_at hl 0 rfl) ?_
  refine lv_iload_n hx hb dX0_size_21 rfl (lv_at hl 1 rfl) ?_
  refine va_put (D := D) (ci := 0) (v := .int (nI k)) (ty := .int) (C := RX0) (T := TX0) (N := 9) hx hb hts hinX0 tyX0 tyX0_ok nmX0 hown hK hP hD hS 0 rfl rfl 1 (by decide) (hts (.fieldLink RX0 28 "SlicedCipher" "keyBytes" "I") (by decide +kernel)) (fun _ h9 => h9) rfl (by decide +kernel) rfl rfl (Nat.le_of_ble_eq_true rfl) dX0_size_22 (fun H locs hP hD hS => ?_)
  have hP : va_P D vwCl [(h0, .inr (0, [.ref kw, .int (nI k), .int kr, .ref sc, .ref so, .ref tp, .int tl, .ref ct, .ref sr]))] H := hP
  have hD : va_D A [(h0, .inr (0, [.ref kw, .int (nI k), .int kr, .ref sc, .ref so, .ref tp, .int tl, .ref ct, .ref sr]))] := hD
  refine lv_aload_n hx hb dX0_size_25 rfl (lv_at hl 0 rfl) ?_
  refine lv_iconst (v := nI 0) hx hb dX0_size_26 (by decide) ?_
  refine va_put (D := D) (ci := 0) (v := .int (nI 0)) (ty := .boolean) (C := RX0) (T := TX0) (N := 9) hx hb hts hinX0 tyX0 tyX0_ok nmX0 hown hK hP hD hS 0 rfl rfl 2 (by decide) (hts (.fieldLink RX0 32 "SlicedCipher" "keyIsReady" "Z") (by decide +kernel)) (fun _ h9 => h9) rfl (by decide +kernel) rfl rfl (Nat.le_of_ble_eq_true rfl) dX0_size_27 (fun H locs hP hD hS => ?_)
  have hP : va_P D vwCl [(h0, .inr (0, [.ref kw, .int (nI k), .int (nI 0), .ref sc, .ref so, .ref tp, .int tl, .ref ct, .ref sr]))] H := hP
  have hD : va_D A [(h0, .inr (0, [.ref kw, .int (nI k), .int (nI 0), .ref sc, .ref so, .ref tp, .int tl, .ref ct, .ref sr]))] := hD
  exact W.vret hx hb hr (fun t ht hW => ⟨⟨(), rfl, trivial, by rw [ht]; exact hP, va_K.moved hW.alike hK, hD⟩, hS.F ht⟩) hS.2.2 dX0_size_30
set_option maxRecDepth 100000 in
theorem in_X0_round : ∀ w ∈ wsX00, w ∈ wsX0_round := by decide +kernel
set_option maxHeartbeats 4000000 in
set_option maxRecDepth 100000 in
theorem c_X0_round1 (l : Launch) (D : va_G) (cI : ClassId) (sz : Nat) (h0 kw sc so tp ct sr : Nat) (kb tl : Int32) (r j : Nat) (F : Nat → Int32) (hr : r ≤ 32) (hj : j ≤ 3) : Met l yX0_round wsX0_round ({ frames := 1, cells := 0, slots := 0, locals := 20 }) (va_Pc [.ref h0, .int (nI r), .int (nI j)] (fun U => PW D [(cI, .int)] [(h0, .inr (0, [.ref kw, .int kb, .int (nI 1), .ref sc, .ref so, .ref tp, .int tl, .ref ct, .ref sr])), (sc, .inl (cI, 140, .inl F))] sz U ∧ True)) (va_Qi (fun r9 (u : Nat → Nat → Int32) => r9 = F (8 + 4 * r + j)) (fun u => BW D [(cI, .int)] (va_A [(h0, .inr (0, [.ref kw, .int kb, .int (nI 1), .ref sc, .ref so, .ref tp, .int tl, .ref ct, .ref sr])), (sc, .inl (cI, 140, .inl F))] sz) [(h0, .inr (0, [.ref kw, .int kb, .int (nI 1), .ref sc, .ref so, .ref tp, .int tl, .ref ct, .ref sr])), (sc, .inl (cI, 140, .inl F))]) (va_A [(h0, .inr (0, [.ref kw, .int kb, .int (nI 1), .ref sc, .ref so, .ref tp, .int tl, .ref ct, .ref sr])), (sc, .inl (cI, 140, .inl F))] sz)) 0 0 (va_A [(h0, .inr (0, [.ref kw, .int kb, .int (nI 1), .ref sc, .ref so, .ref tp, .int tl, .ref ct, .ref sr])), (sc, .inl (cI, 140, .inl F))] sz) := by
  refine Met.ofW (cc := cX0_round) (maxL := 3) (ret := (some .int)) (by decide) rfl ?_
  intro p e s m args below meth c s₁ B hml hv
  obtain ⟨rfl, ⟨hsz, hP, hK, hD0⟩, -⟩ := hv
  have hx := B.exec
  have hb := B.bytes
  have hr := B.returns
  have hts := atoms_spec (ws := wsX0_round) B.pre
  have hown : s.vm.findClass RX0 = some m.cls := findClass_of_methodNamed B.named
  have hlocks := B.notSynchronized
  subst hsz
  have hD := hD0.self (sz := s.heap.size)
  have hinX0 := in_X0_round
  generalize hAe : va_A [(h0, .inr (0, [.ref kw, .int kb, .int (nI 1), .ref sc, .ref so, .ref tp, .int tl, .ref ct, .ref sr])), (sc, .inl (cI, 140, .inl F))] s.heap.size = A at hD ⊢
  have hA : ∀ q : Nat, s.heap.size ≤ q → A q := fun q h => by rw [← hAe]; exact Or.inr h
  have hS : va_S A s.heap s.heap [] := va_S.rf
  have hl := lv_entry ([.ref h0, .int (nI r), .int (nI j)]) (n := 3) (Nat.le_of_ble_eq_true rfl)
  rw [lg_entry_eq]
  generalize (lg_sl ([.ref h0, .int (nI r), .int (nI j)]) ++ List.replicate (3 - (lg_sl ([.ref h0, .int (nI r), .int (nI j)])).length) Slot.unset).toArray = ls at hl ⊢
  have hl : lv_has ls 3 [(0, .ref h0), (1, .int (nI r)), (2, .int (nI j))] := hl
  refine lv_iload_n hx hb dX0_round_0 rfl (lv_at hl 1 rfl) ?_
  refine lv_if_lt (tgt := 19) hx hb dX0_round_1 (by decide) (fun c1 => absurd c1 (nI_pos (by omega))) (fun c1 => ?_)
  refine lv_iload_n hx hb dX0_round_4 rfl (lv_at hl 1 rfl) ?_
  refine lv_bipush (v := nI 32) hx hb dX0_round_5 (by decide) ?_
  refine wk_gtN (tgt := 19) hx hb (a := r) (b := 32) (by omega) (by decide) dX0_round_7 (by decide) (fun c7 => absurd c7 (by omega)) (fun c7 => ?_)
  refine lv_iload_n hx hb dX0_round_10 rfl (lv_at hl 2 rfl) ?_
  refine lv_if_lt (tgt := 19) hx hb dX0_round_11 (by decide) (fun c11 => absurd c11 (nI_pos (by omega))) (fun c11 => ?_)
  refine lv_iload_n hx hb dX0_round_14 rfl (lv_at hl 2 rfl) ?_
  refine lv_iconst (v := nI 4) hx hb dX0_round_15 (by decide) ?_
  refine wk_ltN (tgt := 29) hx hb (a := j) (b := 4) (by omega) (by decide) dX0_round_16 (by decide) (fun c16 => ?_) (fun c16 => absurd c16 (by omega))
  refine lv_aload_n hx hb dX0_round_29 rfl (lv_at hl 0 rfl) ?_
  refine wk_Vv (b := h0) (As := []) (rest := []) (wc := [(h0, .inr (0, [.ref kw, .int kb, .int (nI 1), .ref sc, .ref so, .ref tp, .int tl, .ref ct, .ref sr]))]) (wr := [(sc, .inl (cI, 140, .inl F))]) (w1 := [(h0, .inr (0, [.ref kw, .int kb, .int (nI 1), .ref sc, .ref so, .ref tp, .int tl, .ref ct, .ref sr]))]) (w2 := [(h0, .inr (0, [.ref kw, .int kb, .int (nI 1), .ref sc, .ref so, .ref tp, .int tl, .ref ct, .ref sr])), (sc, .inl (cI, 140, .inl F))]) (ci := 0) (q0 := 0) ⟨hx, hb, hml, hown, hts⟩ (c_X0_needReadyKey1 l D cI _ h0 kw sc so tp ct sr kb tl) (cwV 0 hts gX0_round_X0_needReadyKey rfl rfl rfl (by decide +kernel) ⟨Nat.le_of_ble_eq_true rfl, Nat.le_of_ble_eq_true rfl⟩) (fun _ _ _ _ h => h) (fun _ _ _ _ => trivial) hK hP hD hS hA rfl rfl [0] [1] rfl (by decide) rfl (by decide) (by decide) [1, 0] rfl (by decide) rfl hl.1 rfl (Nat.le_of_ble_eq_true rfl) dX0_round_30 ⟨Nat.zero_le _, Nat.zero_le _⟩ (fun H locs hP hD hS => ?_)
  refine lv_aload_n hx hb dX0_round_33 rfl (lv_at hl 0 rfl) ?_
  refine va_get (D := D) (ci := 0) (v := .ref sc) (C := RX0) (T := TX0) (N := 9) hx hb hts hinX0 hown hK hP 0 rfl rfl 3 (by decide) (hts (.fieldLink RX0 13 "SlicedCipher" "schedule" "[I") (by decide +kernel)) (fun _ h9 => h9) rfl dX0_round_34 ?_
  refine lv_iload_n hx hb dX0_round_37 rfl (lv_at hl 1 rfl) ?_
  refine wk_Sp (v := nI (8 + 4 * r)) (As := [.int (nI r)]) (rest := [.ref sc]) ⟨hx, hb, hml, hown, hts⟩ (c_X0_roundKeyAt l r) (va_cwS 1 hts gX0_round_X0_roundKeyAt rfl rfl rfl (by decide +kernel) ⟨Nat.le_of_ble_eq_true rfl, Nat.le_of_ble_eq_true rfl⟩) rfl hl.1 rfl (Nat.le_of_ble_eq_true rfl) dX0_round_38 ⟨Nat.zero_le _, Nat.zero_le _⟩ ?_
  refine lv_iload_n hx hb dX0_round_41 rfl (lv_at hl 2 rfl) ?_
  refine wk_iaddN hx hb (a := 8 + 4 * r) (b := j) dX0_round_42 ?_
  refine wk_iald hx hb hK hP 1 0 rfl rfl (k := (8 + 4 * r) + j) (by omega) (by decide) dX0_round_43 ?_
  exact W.iret (v := F ((8 + 4 * r) + j)) hx hb hr (fun t ht hW => ⟨⟨_, (fun _ _ => 0), rfl, rfl, by rw [ht]; exact hP, va_K.moved hW.alike hK, hD⟩, hS.F ht⟩) hS.2.2 dX0_round_44
set_option maxHeartbeats 4000000 in
set_option maxRecDepth 100000 in
theorem c_X0_boxF (l : Launch) (D : va_G) (cI : ClassId) (tb : Nat) (sz : Nat) (h0 kw sc so tp ct sr : Nat) (kb kr tl : Int32) (wh v : Nat) (hw : wh < 8) (hv : v < 16) : Met l yX0_box wsX0_box ({ frames := 1, cells := 0, slots := 0, locals := 23 }) (va_Pc [.ref h0, .int (nI wh), .int (nI v), .int (nI 0)] (fun U => PW D [(cI, .int)] [(h0, .inr (0, [.ref kw, .int kb, .int kr, .ref sc, .ref so, .ref tp, .int tl, .ref ct, .ref sr]))] sz U ∧ bxs tb (va_A [(h0, .inr (0, [.ref kw, .int kb, .int kr, .ref sc, .ref so, .ref tp, .int tl, .ref ct, .ref sr]))] sz) U U.heap)) (vp_Si (fun r9 => r9 = TB (16 * wh + v))) 0 0 (fun _ => False) := by
  refine Met.ofW (cc := cX0_box) (maxL := 4) (ret := (some .int)) (by decide) rfl ?_
  intro p e s m args below meth c s₁ B hml hv
  obtain ⟨rfl, ⟨hsz, hP, hK, hD0⟩, hbx⟩ := hv
  have hx := B.exec
  have hb := B.bytes
  have hr := B.returns
  have hts := atoms_spec (ws := wsX0_box) B.pre
  have hown : s.vm.findClass RX0 = some m.cls := findClass_of_methodNamed B.named
  have hlocks := B.notSynchronized
  subst hsz
  have hD := hD0.self (sz := s.heap.size)
  generalize hAe : va_A [(h0, .inr (0, [.ref kw, .int kb, .int kr, .ref sc, .ref so, .ref tp, .int tl, .ref ct, .ref sr]))] s.heap.size = A at hbx hD
  have hA : ∀ q : Nat, s.heap.size ≤ q → A q := fun q h => by rw [← hAe]; exact Or.inr h
  have hS : va_S A s.heap s.heap [] := va_S.rf
  have hl := lv_entry ([.ref h0, .int (nI wh), .int (nI v), .int (nI 0)]) (n := 4) (Nat.le_of_ble_eq_true rfl)
  rw [lg_entry_eq]
  generalize (lg_sl ([.ref h0, .int (nI wh), .int (nI v), .int (nI 0)]) ++ List.replicate (4 - (lg_sl ([.ref h0, .int (nI wh), .int (nI v), .int (nI 0)])).length) Slot.unset).toArray = ls at hl ⊢
  have hl : lv_has ls 4 [(0, .ref h0), (1, .int (nI wh)), (2, .int (nI v)), (3, .int (nI 0))] := hl
  refine lv_iload_n hx hb dX0_box_0 rfl (lv_at hl 1 rfl) ?_
  refine lv_if_lt (tgt := 10) hx hb dX0_box_1 (by decide) (fun c1 => absurd c1 (nI_pos (by omega))) (fun c1 => ?_)
  refine lv_iload_n hx hb dX0_box_4 rfl (lv_at hl 1 rfl) ?_
  refine lv_bipush (v := nI 8) hx hb dX0_box_5 (by decide) ?_
  refine wk_ltN (tgt := 20) hx hb (a := wh) (b := 8) (by omega) (by decide) dX0_box_7 (by decide) (fun c7 => ?_) (fun c7 => absurd c7 (by omega))
  refine lv_iload_n hx hb dX0_box_20 rfl (lv_at hl 2 rfl) ?_
  refine lv_if_lt (tgt := 30) hx hb dX0_box_21 (by decide) (fun c21 => absurd c21 (nI_pos (by omega))) (fun c21 => ?_)
  refine lv_iload_n hx hb dX0_box_24 rfl (lv_at hl 2 rfl) ?_
  refine lv_bipush (v := nI 16) hx hb dX0_box_25 (by decide) ?_
  refine wk_ltN (tgt := 40) hx hb (a := v) (b := 16) (by omega) (by decide) dX0_box_27 (by decide) (fun c27 => ?_) (fun c27 => absurd c27 (by omega))
  refine lv_iload_n hx hb dX0_box_40 rfl (lv_at hl 3 rfl) ?_
  refine wk_eq0N (tgt := 52) hx hb (a := 0) (by decide) dX0_box_41 (by decide) (fun c41 => ?_) (fun c41 => absurd c41 (fun h => h rfl))
  refine va_gets (C := "SlicedCipher") (n := "BOXES") (d := "[I") (v := .ref tb) hx hb hbx.1 hS hown (hts (.fieldLink RX0 83 "SlicedCipher" "BOXES" "[I") (by decide +kernel)) (fun _ h9 => h9) dX0_box_52 ?_
  refine lv_iload_n hx hb dX0_box_55 rfl (lv_at hl 1 rfl) ?_
  refine lv_bipush (v := nI 16) hx hb dX0_box_56 (by decide) ?_
  refine wk_imulN hx hb (a := wh) (b := 16) dX0_box_58 ?_
  refine lv_iload_n hx hb dX0_box_59 rfl (lv_at hl 2 rfl) ?_
  refine wk_iaddN hx hb (a := wh * 16) (b := v) dX0_box_60 ?_
  refine wk_tbl hx hb hbx.2 hS (k := (wh * 16) + v) (by omega) dX0_box_61 ?_
  exact W.iret (v := TB ((wh * 16) + v)) hx hb hr (fun t ht hW => ⟨_, rfl, TB_c wh v, ht⟩) (fun q h => absurd h List.not_mem_nil) dX0_box_62
set_option maxHeartbeats 4000000 in
set_option maxRecDepth 100000 in
theorem c_X0_boxB (l : Launch) (D : va_G) (cI : ClassId) (tb : Nat) (sz : Nat) (h0 kw sc so tp ct sr : Nat) (kb kr tl : Int32) (wh v : Nat) (bb : Int32) (hw : wh < 8) (hv : v < 16) (hbb : ¬ bb = 0) : Met l yX0_box wsX0_box ({ frames := 1, cells := 0, slots := 0, locals := 23 }) (va_Pc [.ref h0, .int (nI wh), .int (nI v), .int bb] (fun U => PW D [(cI, .int)] [(h0, .inr (0, [.ref kw, .int kb, .int kr, .ref sc, .ref so, .ref tp, .int tl, .ref ct, .ref sr]))] sz U ∧ bxs tb (va_A [(h0, .inr (0, [.ref kw, .int kb, .int kr, .ref sc, .ref so, .ref tp, .int tl, .ref ct, .ref sr]))] sz) U U.heap)) (vp_Si (fun r9 => r9 = nI (cSrc wh (nI v) 16))) 0 0 (fun _ => False) := by
  refine Met.ofW (cc := cX0_box) (maxL := 4) (ret := (some .int)) (by decide) rfl ?_
  intro p e s m args below meth c s₁ B hml hv
  obtain ⟨rfl, ⟨hsz, hP, hK, hD0⟩, hbx⟩ := hv
  have hx := B.exec
  have hb := B.bytes
  have hr := B.returns
  have hts := atoms_spec (ws := wsX0_box) B.pre
  have hown : s.vm.findClass RX0 = some m.cls := findClass_of_methodNamed B.named
  have hlocks := B.notSynchronized
  subst hsz
  have hD := hD0.self (sz := s.heap.size)
  generalize hAe : va_A [(h0, .inr (0, [.ref kw, .int kb, .int kr, .ref sc, .ref so, .ref tp, .int tl, .ref ct, .ref sr]))] s.heap.size = A at hbx hD
  have hA : ∀ q : Nat, s.heap.size ≤ q → A q := fun q h => by rw [← hAe]; exact Or.inr h
  have hS : va_S A s.heap s.heap [] := va_S.rf
  have hl := lv_entry ([.ref h0, .int (nI wh), .int (nI v), .int bb]) (n := 4) (Nat.le_of_ble_eq_true rfl)
  rw [lg_entry_eq]
  generalize (lg_sl ([.ref h0, .int (nI wh), .int (nI v), .int bb]) ++ List.replicate (4 - (lg_sl ([.ref h0, .int (nI wh), .int (nI v), .int bb])).length) Slot.unset).toArray = ls at hl ⊢
  have hl : lv_has ls 4 [(0, .ref h0), (1, .int (nI wh)), (2, .int (nI v)), (3, .int bb)] := hl
  refine lv_iload_n hx hb dX0_box_0 rfl (lv_at hl 1 rfl) ?_
  refine lv_if_lt (tgt := 10) hx hb dX0_box_1 (by decide) (fun c1 => absurd c1 (nI_pos (by omega))) (fun c1 => ?_)
  refine lv_iload_n hx hb dX0_box_4 rfl (lv_at hl 1 rfl) ?_
  refine lv_bipush (v := nI 8) hx hb dX0_box_5 (by decide) ?_
  refine wk_ltN (tgt := 20) hx hb (a := wh) (b := 8) (by omega) (by decide) dX0_box_7 (by decide) (fun c7 => ?_) (fun c7 => absurd c7 (by omega))
  refine lv_iload_n hx hb dX0_box_20 rfl (lv_at hl 2 rfl) ?_
  refine lv_if_lt (tgt := 30) hx hb dX0_box_21 (by decide) (fun c21 => absurd c21 (nI_pos (by omega))) (fun c21 => ?_)
  refine lv_iload_n hx hb dX0_box_24 rfl (lv_at hl 2 rfl) ?_
  refine lv_bipush (v := nI 16) hx hb dX0_box_25 (by decide) ?_
  refine wk_ltN (tgt := 40) hx hb (a := v) (b := 16) (by omega) (by decide) dX0_box_27 (by decide) (fun c27 => ?_) (fun c27 => absurd c27 (by omega))
  refine lv_iload_n hx hb dX0_box_40 rfl (lv_at hl 3 rfl) ?_
  refine lv_if_eq (tgt := 52) hx hb dX0_box_41 (by decide) (fun c41 => absurd c41 (hbb)) (fun c41 => ?_)
  refine lv_iload_n hx hb dX0_box_44 rfl (lv_at hl 1 rfl) ?_
  refine lv_iload_n hx hb dX0_box_45 rfl (lv_at hl 2 rfl) ?_
  refine wk_Si (As := [.int (nI wh), .int (nI v)]) (rest := []) (wc := []) ⟨hx, hb, hml, hown, hts⟩ (c_X0_sourceInBox l D cI tb _ wh (nI v) hw) (va_cwS 2 hts gX0_box_X0_sourceInBox rfl rfl rfl (by decide +kernel) ⟨Nat.le_of_ble_eq_true rfl, Nat.le_of_ble_eq_true rfl⟩) (fun U g mk a h => bxs.call g mk a h) (fun U hU hW => hbx.give hS (va_free hD hS hA [] rfl) hU hW) hK hP hD [] rfl (by decide) rfl hl.1 rfl (Nat.le_of_ble_eq_true rfl) dX0_box_46 ⟨Nat.zero_le _, Nat.zero_le _⟩ (fun z9 hz9 => ?_)
  refine wk_i (y := nI (cSrc wh (nI v) 16)) hz9 ?_
  refine lv_goto (tgt := 62) hx hb dX0_box_49 (by decide) ?_
  exact W.iret (v := nI (cSrc wh (nI v) 16)) hx hb hr (fun t ht hW => ⟨_, rfl, rfl, ht⟩) (fun q h => absurd h List.not_mem_nil) dX0_box_62
set_option maxRecDepth 100000 in
theorem in_X0_start : ∀ w ∈ wsX00, w ∈ wsX0_start := by decide +kernel
set_option maxHeartbeats 4000000 in
set_option maxRecDepth 100000 in
theorem c_X0_start1 (l : Launch) (D : va_G) (cI : ClassId) (sz : Nat) (h0 kw sc so tp ct sr : Nat) (kb kr tl : Int32) (k : Nat) (v : Int32) (S : Nat → Int32) (hk : k < 4) : Met l yX0_start wsX0_start ({ frames := 0, cells := 0, slots := 0, locals := 0 }) (va_Pc [.ref h0, .int (nI k), .int v] (fun U => PW D [(cI, .int)] [(h0, .inr (0, [.ref kw, .int kb, .int kr, .ref sc, .ref so, .ref tp, .int tl, .ref ct, .ref sr])), (so, .inl (cI, 4, .inl S))] sz U ∧ True)) (va_Qv (fun _ : Unit => True) (fun _ => BW D [(cI, .int)] (va_A [(h0, .inr (0, [.ref kw, .int kb, .int kr, .ref sc, .ref so, .ref tp, .int tl, .ref ct, .ref sr])), (so, .inl (cI, 4, .inl S))] sz) [(h0, .inr (0, [.ref kw, .int kb, .int kr, .ref sc, .ref so, .ref tp, .int tl, .ref ct, .ref sr])), (so, .inl (cI, 4, .inl (upd S k v)))]) (va_A [(h0, .inr (0, [.ref kw, .int kb, .int kr, .ref sc, .ref so, .ref tp, .int tl, .ref ct, .ref sr])), (so, .inl (cI, 4, .inl S))] sz)) 0 0 (va_A [(h0, .inr (0, [.ref kw, .int kb, .int kr, .ref sc, .ref so, .ref tp, .int tl, .ref ct, .ref sr])), (so, .inl (cI, 4, .inl S))] sz) := by
  refine Met.ofW (cc := cX0_start) (maxL := 3) (ret := none) (by decide) rfl ?_
  intro p e s m args below meth c s₁ B hml hv
  obtain ⟨rfl, ⟨hsz, hP, hK, hD0⟩, -⟩ := hv
  have hx := B.exec
  have hb := B.bytes
  have hr := B.returns
  have hts := atoms_spec (ws := wsX0_start) B.pre
  have hown : s.vm.findClass RX0 = some m.cls := findClass_of_methodNamed B.named
  have hlocks := B.notSynchronized
  subst hsz
  have hD := hD0.self (sz := s.heap.size)
  have hinX0 := in_X0_start
  generalize hAe : va_A [(h0, .inr (0, [.ref kw, .int kb, .int kr, .ref sc, .ref so, .ref tp, .int tl, .ref ct, .ref sr])), (so, .inl (cI, 4, .inl S))] s.heap.size = A at hD ⊢
  have hA : ∀ q : Nat, s.heap.size ≤ q → A q := fun q h => by rw [← hAe]; exact Or.inr h
  have hS : va_S A s.heap s.heap [] := va_S.rf
  have hl := lv_entry ([.ref h0, .int (nI k), .int v]) (n := 3) (Nat.le_of_ble_eq_true rfl)
  rw [lg_entry_eq]
  generalize (lg_sl ([.ref h0, .int (nI k), .int v]) ++ List.replicate (3 - (lg_sl ([.ref h0, .int (nI k), .int v])).length) Slot.unset).toArray = ls at hl ⊢
  have hl : lv_has ls 3 [(0, .ref h0), (1, .int (nI k)), (2, .int v)] := hl
  refine lv_iload_n hx hb dX0_start_0 rfl (lv_at hl 1 rfl) ?_
  refine lv_if_lt (tgt := 9) hx hb dX0_start_1 (by decide) (fun c1 => absurd c1 (nI_pos (by omega))) (fun c1 => ?_)
  refine lv_iload_n hx hb dX0_start_4 rfl (lv_at hl 1 rfl) ?_
  refine lv_iconst (v := nI 4) hx hb dX0_start_5 (by decide) ?_
  refine wk_ltN (tgt := 19) hx hb (a := k) (b := 4) (by omega) (by decide) dX0_start_6 (by decide) (fun c6 => ?_) (fun c6 => absurd c6 (by omega))
  refine lv_aload_n hx hb dX0_start_19 rfl (lv_at hl 0 rfl) ?_
  refine va_get (D := D) (ci := 0) (v := .ref so) (C := RX0) (T := TX0) (N := 9) hx hb hts hinX0 hown hK hP 0 rfl rfl 4 (by decide) (hts (.fieldLink RX0 16 "SlicedCipher" "startWords" "[I") (by decide +kernel)) (fun _ h9 => h9) rfl dX0_start_20 ?_
  refine lv_iload_n hx hb dX0_start_23 rfl (lv_at hl 1 rfl) ?_
  refine lv_iload_n hx hb dX0_start_24 rfl (lv_at hl 2 rfl) ?_
  refine wk_iast hx hb hK hP hD hS 1 0 rfl rfl (k := k) (x := v) (by omega) (by decide) dX0_start_25 (fun H locs hP hD hS => ?_)
  have hP : va_P D vwCl [(h0, .inr (0, [.ref kw, .int kb, .int kr, .ref sc, .ref so, .ref tp, .int tl, .ref ct, .ref sr])), (so, .inl (cI, 4, .inl (upd S k v)))] H := hP
  have hD : va_D A [(h0, .inr (0, [.ref kw, .int kb, .int kr, .ref sc, .ref so, .ref tp, .int tl, .ref ct, .ref sr])), (so, .inl (cI, 4, .inl (upd S k v)))] := hD
  exact W.vret hx hb hr (fun t ht hW => ⟨⟨(), rfl, trivial, by rw [ht]; exact hP, va_K.moved hW.alike hK, hD⟩, hS.F ht⟩) hS.2.2 dX0_start_26
set_option maxRecDepth 100000 in
theorem in_X0_put : ∀ w ∈ wsX00, w ∈ wsX0_put := by decide +kernel
set_option maxHeartbeats 4000000 in
set_option maxRecDepth 100000 in
theorem c_X0_put1 (l : Launch) (D : va_G) (cI : ClassId) (sz : Nat) (h0 kw sc so tp ct sr : Nat) (kb kr : Int32) (sz0 : Nat) (xa xb xc xd : Int32) (f : Nat → Int32) (hz : sz0 ≤ 252) : Met l yX0_put wsX0_put ({ frames := 0, cells := 0, slots := 0, locals := 0 }) (va_Pc [.ref h0, .int xa, .int xb, .int xc, .int xd] (fun U => PW D [(cI, .int)] [(h0, .inr (0, [.ref kw, .int kb, .int kr, .ref sc, .ref so, .ref tp, .int (nI sz0), .ref ct, .ref sr])), (tp, .inl (cI, 256, .inl f))] sz U ∧ True)) (va_Qi (fun r9 (u : Nat → Nat → Int32) => r9 = nI (sz0 + 4)) (fun u => BW D [(cI, .int)] (va_A [(h0, .inr (0, [.ref kw, .int kb, .int kr, .ref sc, .ref so, .ref tp, .int (nI sz0), .ref ct, .ref sr])), (tp, .inl (cI, 256, .inl f))] sz) [(h0, .inr (0, [.ref kw, .int kb, .int kr, .ref sc, .ref so, .ref tp, .int (nI (sz0 + 4)), .ref ct, .ref sr])), (tp, .inl (cI, 256, .inl (st4 f sz0 (xa, xb, xc, xd))))]) (va_A [(h0, .inr (0, [.ref kw, .int kb, .int kr, .ref sc, .ref so, .ref tp, .int (nI sz0), .ref ct, .ref sr])), (tp, .inl (cI, 256, .inl f))] sz)) 0 0 (va_A [(h0, .inr (0, [.ref kw, .int kb, .int kr, .ref sc, .ref so, .ref tp, .int (nI sz0), .ref ct, .ref sr])), (tp, .inl (cI, 256, .inl f))] sz) := by
  refine Met.ofW (cc := cX0_put) (maxL := 5) (ret := (some .int)) (by decide) rfl ?_
  intro p e s m args below meth c s₁ B hml hv
  obtain ⟨rfl, ⟨hsz, hP, hK, hD0⟩, -⟩ := hv
  have hx := B.exec
  have hb := B.bytes
  have hr := B.returns
  have hts := atoms_spec (ws := wsX0_put) B.pre
  have hown : s.vm.findClass RX0 = some m.cls := findClass_of_methodNamed B.named
  have hlocks := B.notSynchronized
  subst hsz
  have hD := hD0.self (sz := s.heap.size)
  have hinX0 := in_X0_put
  generalize hAe : va_A [(h0, .inr (0, [.ref kw, .int kb, .int kr, .ref sc, .ref so, .ref tp, .int (nI sz0), .ref ct, .ref sr])), (tp, .inl (cI, 256, .inl f))] s.heap.size = A at hD ⊢
  have hA : ∀ q : Nat, s.heap.size ≤ q → A q := fun q h => by rw [← hAe]; exact Or.inr h
  have hS : va_S A s.heap s.heap [] := va_S.rf
  have hl := lv_entry ([.ref h0, .int xa, .int xb, .int xc, .int xd]) (n := 5) (Nat.le_of_ble_eq_true rfl)
  rw [lg_entry_eq]
  generalize (lg_sl ([.ref h0, .int xa, .int xb, .int xc, .int xd]) ++ List.replicate (5 - (lg_sl ([.ref h0, .int xa, .int xb, .int xc, .int xd])).length) Slot.unset).toArray = ls at hl ⊢
  have hl : lv_has ls 5 [(0, .ref h0), (1, .int xa), (2, .int xb), (3, .int xc), (4, .int xd)] := hl
  refine lv_aload_n hx hb dX0_put_0 rfl (lv_at hl 0 rfl) ?_
  refine va_get (D := D) (ci := 0) (v := .int (nI sz0)) (C := RX0) (T := TX0) (N := 9) hx hb hts hinX0 hown hK hP 0 rfl rfl 6 (by decide) (hts (.fieldLink RX0 36 "SlicedCipher" "tapeLength" "I") (by decide +kernel)) (fun _ h9 => h9) rfl dX0_put_1 ?_
  refine lv_iconst (v := nI 4) hx hb dX0_put_4 (by decide) ?_
  refine wk_iaddN hx hb (a := sz0) (b := 4) dX0_put_5 ?_
  refine lv_sipush (v := nI 256) hx hb dX0_put_6 (by decide) ?_
  refine wk_leN (tgt := 22) hx hb (a := sz0 + 4) (b := 256) (by omega) (by decide) dX0_put_9 (by decide) (fun c9 => ?_) (fun c9 => absurd c9 (by omega))
  refine lv_aload_n hx hb dX0_put_22 rfl (lv_at hl 0 rfl) ?_
  refine va_get (D := D) (ci := 0) (v := .ref tp) (C := RX0) (T := TX0) (N := 9) hx hb hts hinX0 hown hK hP 0 rfl rfl 5 (by decide) (hts (.fieldLink RX0 19 "SlicedCipher" "tape" "[I") (by decide +kernel)) (fun _ h9 => h9) rfl dX0_put_23 ?_
  refine lv_aload_n hx hb dX0_put_26 rfl (lv_at hl 0 rfl) ?_
  refine va_get (D := D) (ci := 0) (v := .int (nI sz0)) (C := RX0) (T := TX0) (N := 9) hx hb hts hinX0 hown hK hP 0 rfl rfl 6 (by decide) (hts (.fieldLink RX0 36 "SlicedCipher" "tapeLength" "I") (by decide +kernel)) (fun _ h9 => h9) rfl dX0_put_27 ?_
  refine lv_iload_n hx hb dX0_put_30 rfl (lv_at hl 1 rfl) ?_
  refine wk_iast hx hb hK hP hD hS 1 0 rfl rfl (k := sz0) (x := xa) (by omega) (by decide) dX0_put_31 (fun H locs hP hD hS => ?_)
  have hP : va_P D vwCl [(h0, .inr (0, [.ref kw, .int kb, .int kr, .ref sc, .ref so, .ref tp, .int (nI sz0), .ref ct, .ref sr])), (tp, .inl (cI, 256, .inl (upd f sz0 xa)))] H := hP
  have hD : va_D A [(h0, .inr (0, [.ref kw, .int kb, .int kr, .ref sc, .ref so, .ref tp, .int (nI sz0), .ref ct, .ref sr])), (tp, .inl (cI, 256, .inl (upd f sz0 xa)))] := hD
  refine lv_aload_n hx hb dX0_put_32 rfl (lv_at hl 0 rfl) ?_
  refine va_get (D := D) (ci := 0) (v := .ref tp) (C := RX0) (T := TX0) (N := 9) hx hb hts hinX0 hown hK hP 0 rfl rfl 5 (by decide) (hts (.fieldLink RX0 19 "SlicedCipher" "tape" "[I") (by decide +kernel)) (fun _ h9 => h9) rfl dX0_put_33 ?_
  refine lv_aload_n hx hb dX0_put_36 rfl (lv_at hl 0 rfl) ?_
  refine va_get (D := D) (ci := 0) (v := .int (nI sz0)) (C := RX0) (T := TX0) (N := 9) hx hb hts hinX0 hown hK hP 0 rfl rfl 6 (by decide) (hts (.fieldLink RX0 36 "SlicedCipher" "tapeLength" "I") (by decide +kernel)) (fun _ h9 => h9) rfl dX0_put_37 ?_
  refine lv_iconst (v := nI 1) hx hb dX0_put_40 (by decide) ?_
  refine wk_iaddN hx hb (a := sz0) (b := 1) dX0_put_41 ?_
  refine lv_iload_n hx hb dX0_put_42 rfl (lv_at hl 2 rfl) ?_
  refine wk_iast hx hb hK hP hD hS 1 0 rfl rfl (k := sz0 + 1) (x := xb) (by omega) (by decide) dX0_put_43 (fun H locs hP hD hS => ?_)
  have hP : va_P D vwCl [(h0, .inr (0, [.ref kw, .int kb, .int kr, .ref sc, .ref so, .ref tp, .int (nI sz0), .ref ct, .ref sr])), (tp, .inl (cI, 256, .inl (upd (upd f sz0 xa) (sz0 + 1) xb)))] H := hP
  have hD : va_D A [(h0, .inr (0, [.ref kw, .int kb, .int kr, .ref sc, .ref so, .ref tp, .int (nI sz0), .ref ct, .ref sr])), (tp, .inl (cI, 256, .inl (upd (upd f sz0 xa) (sz0 + 1) xb)))] := hD
  refine lv_aload_n hx hb dX0_put_44 rfl (lv_at hl 0 rfl) ?_
  refine va_get (D := D) (ci := 0) (v := .ref tp) (C := RX0) (T := TX0) (N := 9) hx hb hts hinX0 hown hK hP 0 rfl rfl 5 (by decide) (hts (.fieldLink RX0 19 "SlicedCipher" "tape" "[I") (by decide +kernel)) (fun _ h9 => h9) rfl dX0_put_45 ?_
  refine lv_aload_n hx hb dX0_put_48 rfl (lv_at hl 0 rfl) ?_
  refine va_get (D := D) (ci := 0) (v := .int (nI sz0)) (C := RX0) (T := TX0) (N := 9) hx hb hts hinX0 hown hK hP 0 rfl rfl 6 (by decide) (hts (.fieldLink RX0 36 "SlicedCipher" "tapeLength" "I") (by decide +kernel)) (fun _ h9 => h9) rfl dX0_put_49 ?_
  refine lv_iconst (v := nI 2) hx hb dX0_put_52 (by decide) ?_
  refine wk_iaddN hx hb (a := sz0) (b := 2) dX0_put_53 ?_
  refine lv_iload_n hx hb dX0_put_54 rfl (lv_at hl 3 rfl) ?_
  refine wk_iast hx hb hK hP hD hS 1 0 rfl rfl (k := sz0 + 2) (x := xc) (by omega) (by decide) dX0_put_55 (fun H locs hP hD hS => ?_)
  have hP : va_P D vwCl [(h0, .inr (0, [.ref kw, .int kb, .int kr, .ref sc, .ref so, .ref tp, .int (nI sz0), .ref ct, .ref sr])), (tp, .inl (cI, 256, .inl (upd (upd (upd f sz0 xa) (sz0 + 1) xb) (sz0 + 2) xc)))] H := hP
  have hD : va_D A [(h0, .inr (0, [.ref kw, .int kb, .int kr, .ref sc, .ref so, .ref tp, .int (nI sz0), .ref ct, .ref sr])), (tp, .inl (cI, 256, .inl (upd (upd (upd f sz0 xa) (sz0 + 1) xb) (sz0 + 2) xc)))] := hD
  refine lv_aload_n hx hb dX0_put_56 rfl (lv_at hl 0 rfl) ?_
  refine va_get (D := D) (ci := 0) (v := .ref tp) (C := RX0) (T := TX0) (N := 9) hx hb hts hinX0 hown hK hP 0 rfl rfl 5 (by decide) (hts (.fieldLink RX0 19 "SlicedCipher" "tape" "[I") (by decide +kernel)) (fun _ h9 => h9) rfl dX0_put_57 ?_
  refine lv_aload_n hx hb dX0_put_60 rfl (lv_at hl 0 rfl) ?_
  refine va_get (D := D) (ci := 0) (v := .int (nI sz0)) (C := RX0) (T := TX0) (N := 9) hx hb hts hinX0 hown hK hP 0 rfl rfl 6 (by decide) (hts (.fieldLink RX0 36 "SlicedCipher" "tapeLength" "I") (by decide +kernel)) (fun _ h9 => h9) rfl dX0_put_61 ?_
  refine lv_iconst (v := nI 3) hx hb dX0_put_64 (by decide) ?_
  refine wk_iaddN hx hb (a := sz0) (b := 3) dX0_put_65 ?_
  refine lv_iload hx hb dX0_put_66 (lv_at hl 4 rfl) ?_
  refine wk_iast hx hb hK hP hD hS 1 0 rfl rfl (k := sz0 + 3) (x := xd) (by omega) (by decide) dX0_put_68 (fun H locs hP hD hS => ?_)
  have hP : va_P D vwCl [(h0, .inr (0, [.ref kw, .int kb, .int kr, .ref sc, .ref so, .ref tp, .int (nI sz0), .ref ct, .ref sr])), (tp, .inl (cI, 256, .inl (upd (upd (upd (upd f sz0 xa) (sz0 + 1) xb) (sz0 + 2) xc) (sz0 + 3) xd)))] H := hP
  have hD : va_D A [(h0, .inr (0, [.ref kw, .int kb, .int kr, .ref sc, .ref so, .ref tp, .int (nI sz0), .ref ct, .ref sr])), (tp, .inl (cI, 256, .inl (upd (upd (upd (upd f sz0 xa) (sz0 + 1) xb) (sz0 + 2) xc) (sz0 + 3) xd)))] := hD
  refine lv_aload_n hx hb dX0_put_69 rfl (lv_at hl 0 rfl) ?_
  refine lv_dup hx hb dX0_put_70 rfl ?_
  refine va_get (D := D) (ci := 0) (v := .int (nI sz0)) (C := RX0) (T := TX0) (N := 9) hx hb hts hinX0 hown hK hP 0 rfl rfl 6 (by decide) (hts (.fieldLink RX0 36 "SlicedCipher" "tapeLength" "I") (by decide +kernel)) (fun _ h9 => h9) rfl dX0_put_71 ?_
  refine lv_iconst (v := nI 4) hx hb dX0_put_74 (by decide) ?_
  refine wk_iaddN hx hb (a := sz0) (b := 4) dX0_put_75 ?_
  refine va_put (D := D) (ci := 0) (v := .int (nI (sz0 + 4))) (ty := .int) (C := RX0) (T := TX0) (N := 9) hx hb hts hinX0 tyX0 tyX0_ok nmX0 hown hK hP hD hS 0 rfl rfl 6 (by decide) (hts (.fieldLink RX0 36 "SlicedCipher" "tapeLength" "I") (by decide +kernel)) (fun _ h9 => h9) rfl (by decide +kernel) rfl rfl (Nat.le_of_ble_eq_true rfl) dX0_put_76 (fun H locs hP hD hS => ?_)
  have hP : va_P D vwCl [(h0, .inr (0, [.ref kw, .int kb, .int kr, .ref sc, .ref so, .ref tp, .int (nI (sz0 + 4)), .ref ct, .ref sr])), (tp, .inl (cI, 256, .inl (upd (upd (upd (upd f sz0 xa) (sz0 + 1) xb) (sz0 + 2) xc) (sz0 + 3) xd)))] H := hP
  have hD : va_D A [(h0, .inr (0, [.ref kw, .int kb, .int kr, .ref sc, .ref so, .ref tp, .int (nI (sz0 + 4)), .ref ct, .ref sr])), (tp, .inl (cI, 256, .inl (upd (upd (upd (upd f sz0 xa) (sz0 + 1) xb) (sz0 + 2) xc) (sz0 + 3) xd)))] := hD
  refine lv_aload_n hx hb dX0_put_79 rfl (lv_at hl 0 rfl) ?_
  refine va_get (D := D) (ci := 0) (v := .int (nI (sz0 + 4))) (C := RX0) (T := TX0) (N := 9) hx hb hts hinX0 hown hK hP 0 rfl rfl 6 (by decide) (hts (.fieldLink RX0 36 "SlicedCipher" "tapeLength" "I") (by decide +kernel)) (fun _ h9 => h9) rfl dX0_put_80 ?_
  exact W.iret (v := nI (sz0 + 4)) hx hb hr (fun t ht hW => ⟨⟨_, (fun _ _ => 0), rfl, rfl, by rw [ht]; exact hP, va_K.moved hW.alike hK, hD⟩, hS.F ht⟩) hS.2.2 dX0_put_83
set_option maxRecDepth 100000 in
theorem in_X0_cut : ∀ w ∈ wsX00, w ∈ wsX0_cut := by decide +kernel
set_option maxHeartbeats 4000000 in
set_option maxRecDepth 100000 in
theorem c_X0_cut1 (l : Launch) (D : va_G) (cI : ClassId) (sz : Nat) (h0 kw sc so tp ct sr : Nat) (kb kr : Int32) (sz0 k : Nat) (hz : sz0 ≤ 256) (hk : k ≤ sz0) : Met l yX0_cut wsX0_cut ({ frames := 0, cells := 0, slots := 0, locals := 0 }) (va_Pc [.ref h0, .int (nI k)] (fun U => PW D [(cI, .int)] [(h0, .inr (0, [.ref kw, .int kb, .int kr, .ref sc, .ref so, .ref tp, .int (nI sz0), .ref ct, .ref sr]))] sz U ∧ True)) (va_Qi (fun r9 (u : Nat → Nat → Int32) => r9 = nI k) (fun u => BW D [(cI, .int)] (va_A [(h0, .inr (0, [.ref kw, .int kb, .int kr, .ref sc, .ref so, .ref tp, .int (nI sz0), .ref ct, .ref sr]))] sz) [(h0, .inr (0, [.ref kw, .int kb, .int kr, .ref sc, .ref so, .ref tp, .int (nI k), .ref ct, .ref sr]))]) (va_A [(h0, .inr (0, [.ref kw, .int kb, .int kr, .ref sc, .ref so, .ref tp, .int (nI sz0), .ref ct, .ref sr]))] sz)) 0 0 (va_A [(h0, .inr (0, [.ref kw, .int kb, .int kr, .ref sc, .ref so, .ref tp, .int (nI sz0), .ref ct, .ref sr]))] sz) := by
  refine Met.ofW (cc := cX0_cut) (maxL := 2) (ret := (some .int)) (by decide) rfl ?_
  intro p e s m args below meth c s₁ B hml hv
  obtain ⟨rfl, ⟨hsz, hP, hK, hD0⟩, -⟩ := hv
  have hx := B.exec
  have hb := B.bytes
  have hr := B.returns
  have hts := atoms_spec (ws := wsX0_cut) B.pre
  have hown : s.vm.findClass RX0 = some m.cls := findClass_of_methodNamed B.named
  have hlocks := B.notSynchronized
  subst hsz
  have hD := hD0.self (sz := s.heap.size)
  have hinX0 := in_X0_cut
  generalize hAe : va_A [(h0, .inr (0, [.ref kw, .int kb, .int kr, .ref sc, .ref so, .ref tp, .int (nI sz0), .ref ct, .ref sr]))] s.heap.size = A at hD ⊢
  have hA : ∀ q : Nat, s.heap.size ≤ q → A q := fun q h => by rw [← hAe]; exact Or.inr h
  have hS : va_S A s.heap s.heap [] := va_S.rf
  have hl := lv_entry ([.ref h0, .int (nI k)]) (n := 2) (Nat.le_of_ble_eq_true rfl)
  rw [lg_entry_eq]
  generalize (lg_sl ([.ref h0, .int (nI k)]) ++ List.replicate (2 - (lg_sl ([.ref h0, .int (nI k)])).length) Slot.unset).toArray = ls at hl ⊢
  have hl : lv_has ls 2 [(0, .ref h0), (1, .int (nI k))] := hl
  refine lv_iload_n hx hb dX0_cut_0 rfl (lv_at hl 1 rfl) ?_
  refine lv_if_lt (tgt := 12) hx hb dX0_cut_1 (by decide) (fun c1 => absurd c1 (nI_pos (by omega))) (fun c1 => ?_)
  refine lv_iload_n hx hb dX0_cut_4 rfl (lv_at hl 1 rfl) ?_
  refine lv_aload_n hx hb dX0_cut_5 rfl (lv_at hl 0 rfl) ?_
  refine va_get (D := D) (ci := 0) (v := .int (nI sz0)) (C := RX0) (T := TX0) (N := 9) hx hb hts hinX0 hown hK hP 0 rfl rfl 6 (by decide) (hts (.fieldLink RX0 36 "SlicedCipher" "tapeLength" "I") (by decide +kernel)) (fun _ h9 => h9) rfl dX0_cut_6 ?_
  refine wk_leN (tgt := 22) hx hb (a := k) (b := sz0) (by omega) (by omega) dX0_cut_9 (by decide) (fun c9 => ?_) (fun c9 => absurd c9 (by omega))
  refine lv_aload_n hx hb dX0_cut_22 rfl (lv_at hl 0 rfl) ?_
  refine lv_iload_n hx hb dX0_cut_23 rfl (lv_at hl 1 rfl) ?_
  refine va_put (D := D) (ci := 0) (v := .int (nI k)) (ty := .int) (C := RX0) (T := TX0) (N := 9) hx hb hts hinX0 tyX0 tyX0_ok nmX0 hown hK hP hD hS 0 rfl rfl 6 (by decide) (hts (.fieldLink RX0 36 "SlicedCipher" "tapeLength" "I") (by decide +kernel)) (fun _ h9 => h9) rfl (by decide +kernel) rfl rfl (Nat.le_of_ble_eq_true rfl) dX0_cut_24 (fun H locs hP hD hS => ?_)
  have hP : va_P D vwCl [(h0, .inr (0, [.ref kw, .int kb, .int kr, .ref sc, .ref so, .ref tp, .int (nI k), .ref ct, .ref sr]))] H := hP
  have hD : va_D A [(h0, .inr (0, [.ref kw, .int kb, .int kr, .ref sc, .ref so, .ref tp, .int (nI k), .ref ct, .ref sr]))] := hD
  refine lv_iload_n hx hb dX0_cut_27 rfl (lv_at hl 1 rfl) ?_
  exact W.iret (v := nI k) hx hb hr (fun t ht hW => ⟨⟨_, (fun _ _ => 0), rfl, rfl, by rw [ht]; exact hP, va_K.moved hW.alike hK, hD⟩, hS.F ht⟩) hS.2.2 dX0_cut_28
set_option maxRecDepth 100000 in
theorem in_X0_word : ∀ w ∈ wsX00, w ∈ wsX0_word := by decide +kernel
set_option maxHeartbeats 4000000 in
set_option maxRecDepth 100000 in
theorem c_X0_word1 (l : Launch) (D : va_G) (cI : ClassId) (sz : Nat) (h0 kw sc so tp ct sr : Nat) (kb kr : Int32) (sz0 k : Nat) (f : Nat → Int32) (hz : sz0 ≤ 256) (hk : k < sz0) : Met l yX0_word wsX0_word ({ frames := 0, cells := 0, slots := 0, locals := 0 }) (va_Pc [.ref h0, .int (nI k)] (fun U => PW D [(cI, .int)] [(h0, .inr (0, [.ref kw, .int kb, .int kr, .ref sc, .ref so, .ref tp, .int (nI sz0), .ref ct, .ref sr])), (tp, .inl (cI, 256, .inl f))] sz U ∧ True)) (va_Qi (fun r9 (u : Nat → Nat → Int32) => r9 = f k) (fun u => BW D [(cI, .int)] (va_A [(h0, .inr (0, [.ref kw, .int kb, .int kr, .ref sc, .ref so, .ref tp, .int (nI sz0), .ref ct, .ref sr])), (tp, .inl (cI, 256, .inl f))] sz) [(h0, .inr (0, [.ref kw, .int kb, .int kr, .ref sc, .ref so, .ref tp, .int (nI sz0), .ref ct, .ref sr])), (tp, .inl (cI, 256, .inl f))]) (va_A [(h0, .inr (0, [.ref kw, .int kb, .int kr, .ref sc, .ref so, .ref tp, .int (nI sz0), .ref ct, .ref sr])), (tp, .inl (cI, 256, .inl f))] sz)) 0 0 (va_A [(h0, .inr (0, [.ref kw, .int kb, .int kr, .ref sc, .ref so, .ref tp, .int (nI sz0), .ref ct, .ref sr])), (tp, .inl (cI, 256, .inl f))] sz) := by
  refine Met.ofW (cc := cX0_word) (maxL := 2) (ret := (some .int)) (by decide) rfl ?_
  intro p e s m args below meth c s₁ B hml hv
  obtain ⟨rfl, ⟨hsz, hP, hK, hD0⟩, -⟩ := hv
  have hx := B.exec
  have hb := B.bytes
  have hr := B.returns
  have hts := atoms_spec (ws := wsX0_word) B.pre
  have hown : s.vm.findClass RX0 = some m.cls := findClass_of_methodNamed B.named
  have hlocks := B.notSynchronized
  subst hsz
  have hD := hD0.self (sz := s.heap.size)
  have hinX0 := in_X0_word
  generalize hAe : va_A [(h0, .inr (0, [.ref kw, .int kb, .int kr, .ref sc, .ref so, .ref tp, .int (nI sz0), .ref ct, .ref sr])), (tp, .inl (cI, 256, .inl f))] s.heap.size = A at hD ⊢
  have hA : ∀ q : Nat, s.heap.size ≤ q → A q := fun q h => by rw [← hAe]; exact Or.inr h
  have hS : va_S A s.heap s.heap [] := va_S.rf
  have hl := lv_entry ([.ref h0, .int (nI k)]) (n := 2) (Nat.le_of_ble_eq_true rfl)
  rw [lg_entry_eq]
  generalize (lg_sl ([.ref h0, .int (nI k)]) ++ List.replicate (2 - (lg_sl ([.ref h0, .int (nI k)])).length) Slot.unset).toArray = ls at hl ⊢
  have hl : lv_has ls 2 [(0, .ref h0), (1, .int (nI k))] := hl
  refine lv_iload_n hx hb dX0_word_0 rfl (lv_at hl 1 rfl) ?_
  refine lv_if_lt (tgt := 12) hx hb dX0_word_1 (by decide) (fun c1 => absurd c1 (nI_pos (by omega))) (fun c1 => ?_)
  refine lv_iload_n hx hb dX0_word_4 rfl (lv_at hl 1 rfl) ?_
  refine lv_aload_n hx hb dX0_word_5 rfl (lv_at hl 0 rfl) ?_
  refine va_get (D := D) (ci := 0) (v := .int (nI sz0)) (C := RX0) (T := TX0) (N := 9) hx hb hts hinX0 hown hK hP 0 rfl rfl 6 (by decide) (hts (.fieldLink RX0 36 "SlicedCipher" "tapeLength" "I") (by decide +kernel)) (fun _ h9 => h9) rfl dX0_word_6 ?_
  refine wk_ltN (tgt := 22) hx hb (a := k) (b := sz0) (by omega) (by omega) dX0_word_9 (by decide) (fun c9 => ?_) (fun c9 => absurd c9 (by omega))
  refine lv_aload_n hx hb dX0_word_22 rfl (lv_at hl 0 rfl) ?_
  refine va_get (D := D) (ci := 0) (v := .ref tp) (C := RX0) (T := TX0) (N := 9) hx hb hts hinX0 hown hK hP 0 rfl rfl 5 (by decide) (hts (.fieldLink RX0 19 "SlicedCipher" "tape" "[I") (by decide +kernel)) (fun _ h9 => h9) rfl dX0_word_23 ?_
  refine lv_iload_n hx hb dX0_word_26 rfl (lv_at hl 1 rfl) ?_
  refine wk_iald hx hb hK hP 1 0 rfl rfl (k := k) (by omega) (by decide) dX0_word_27 ?_
  exact W.iret (v := f k) hx hb hr (fun t ht hW => ⟨⟨_, (fun _ _ => 0), rfl, rfl, by rw [ht]; exact hP, va_K.moved hW.alike hK, hD⟩, hS.F ht⟩) hS.2.2 dX0_word_28
set_option maxRecDepth 100000 in
theorem in_X0_run : ∀ w ∈ wsX00, w ∈ wsX0_run := by decide +kernel
set_option maxHeartbeats 4000000 in
set_option maxRecDepth 100000 in
theorem c_X0_run00 (l : Launch) (D : va_G) (cI : ClassId) (tb : Nat) (sz : Nat) (h0 kw sc so tp ct sr : Nat) (kb : Int32) (nb : Nat) (F S f C R : Nat → Int32) (hnb : nb ≤ 64) : Met l yX0_run wsX0_run ({ frames := 5, cells := 0, slots := 0, locals := 122 }) (va_Pc [.ref h0, .int (nI 0), .int (nI 0)] (fun U => PW D [(cI, .int)] [(h0, .inr (0, [.ref kw, .int kb, .int (nI 1), .ref sc, .ref so, .ref tp, .int (nI (4 * nb)), .ref ct, .ref sr])), (sc, .inl (cI, 140, .inl F)), (so, .inl (cI, 4, .inl S)), (tp, .inl (cI, 256, .inl f)), (ct, .inl (cI, 4, .inl C)), (sr, .inl (cI, 4, .inl R))] sz U ∧ bxs tb (va_A [(h0, .inr (0, [.ref kw, .int kb, .int (nI 1), .ref sc, .ref so, .ref tp, .int (nI (4 * nb)), .ref ct, .ref sr])), (sc, .inl (cI, 140, .inl F)), (so, .inl (cI, 4, .inl S)), (tp, .inl (cI, 256, .inl f)), (ct, .inl (cI, 4, .inl C)), (sr, .inl (cI, 4, .inl R))] sz) U U.heap)) (va_Qi (fun r9 (u : Nat → Nat → Int32) => r9 = nI nb) (fun u => BW D [(cI, .int)] (va_A [(h0, .inr (0, [.ref kw, .int kb, .int (nI 1), .ref sc, .ref so, .ref tp, .int (nI (4 * nb)), .ref ct, .ref sr])), (sc, .inl (cI, 140, .inl F)), (so, .inl (cI, 4, .inl S)), (tp, .inl (cI, 256, .inl f)), (ct, .inl (cI, 4, .inl C)), (sr, .inl (cI, 4, .inl R))] sz) [(h0, .inr (0, [.ref kw, .int kb, .int (nI 1), .ref sc, .ref so, .ref tp, .int (nI (4 * nb)), .ref ct, .ref sr])), (sc, .inl (cI, 140, .inl F)), (so, .inl (cI, 4, .inl S)), (tp, .inl (cI, 256, .inl (cEach 0 F f nb))), (ct, .inl (cI, 4, .inl C)), (sr, .inl (cI, 4, .inl R))]) (va_A [(h0, .inr (0, [.ref kw, .int kb, .int (nI 1), .ref sc, .ref so, .ref tp, .int (nI (4 * nb)), .ref ct, .ref sr])), (sc, .inl (cI, 140, .inl F)), (so, .inl (cI, 4, .inl S)), (tp, .inl (cI, 256, .inl f)), (ct, .inl (cI, 4, .inl C)), (sr, .inl (cI, 4, .inl R))] sz)) 0 0 (va_A [(h0, .inr (0, [.ref kw, .int kb, .int (nI 1), .ref sc, .ref so, .ref tp, .int (nI (4 * nb)), .ref ct, .ref sr])), (sc, .inl (cI, 140, .inl F)), (so, .inl (cI, 4, .inl S)), (tp, .inl (cI, 256, .inl f)), (ct, .inl (cI, 4, .inl C)), (sr, .inl (cI, 4, .inl R))] sz) := by
  refine Met.ofW (cc := cX0_run) (maxL := 3) (ret := (some .int)) (by decide) rfl ?_
  intro p e s m args below meth c s₁ B hml hv
  obtain ⟨rfl, ⟨hsz, hP, hK, hD0⟩, hbx⟩ := hv
  have hx := B.exec
  have hb := B.bytes
  have hr := B.returns
  have hts := atoms_spec (ws := wsX0_run) B.pre
  have hown : s.vm.findClass RX0 = some m.cls := findClass_of_methodNamed B.named
  have hlocks := B.notSynchronized
  subst hsz
  have hD := hD0.self (sz := s.heap.size)
  have hinX0 := in_X0_run
  generalize hAe : va_A [(h0, .inr (0, [.ref kw, .int kb, .int (nI 1), .ref sc, .ref so, .ref tp, .int (nI (4 * nb)), .ref ct, .ref sr])), (sc, .inl (cI, 140, .inl F)), (so, .inl (cI, 4, .inl S)), (tp, .inl (cI, 256, .inl f)), (ct, .inl (cI, 4, .inl C)), (sr, .inl (cI, 4, .inl R))] s.heap.size = A at hbx hD ⊢
  have hA : ∀ q : Nat, s.heap.size ≤ q → A q := fun q h => by rw [← hAe]; exact Or.inr h
  have hS : va_S A s.heap s.heap [] := va_S.rf
  have hl := lv_entry ([.ref h0, .int (nI 0), .int (nI 0)]) (n := 3) (Nat.le_of_ble_eq_true rfl)
  rw [lg_entry_eq]
  generalize (lg_sl ([.ref h0, .int (nI 0), .int (nI 0)]) ++ List.replicate (3 - (lg_sl ([.ref h0, .int (nI 0), .int (nI 0)])).length) Slot.unset).toArray = ls at hl ⊢
  have hl : lv_has ls 3 [(0, .ref h0), (1, .int (nI 0)), (2, .int (nI 0))] := hl
  refine lv_iload_n hx hb dX0_run_0 rfl (lv_at hl 1 rfl) ?_
  refine lv_if_lt (tgt := 9) hx hb dX0_run_1 (by decide) (fun c1 => absurd c1 (nI_pos (by omega))) (fun c1 => ?_)
  refine lv_iload_n hx hb dX0_run_4 rfl (lv_at hl 1 rfl) ?_
  refine lv_iconst (v := nI 2) hx hb dX0_run_5 (by decide) ?_
  refine wk_leN (tgt := 19) hx hb (a := 0) (b := 2) (by decide) (by decide) dX0_run_6 (by decide) (fun c6 => ?_) (fun c6 => absurd c6 (by omega))
  refine lv_aload_n hx hb dX0_run_19 rfl (lv_at hl 0 rfl) ?_
  refine wk_Vv (b := h0) (As := []) (rest := []) (wc := [(h0, .inr (0, [.ref kw, .int kb, .int (nI 1), .ref sc, .ref so, .ref tp, .int (nI (4 * nb)), .ref ct, .ref sr]))]) (wr := [(sc, .inl (cI, 140, .inl F)), (so, .inl (cI, 4, .inl S)), (tp, .inl (cI, 256, .inl f)), (ct, .inl (cI, 4, .inl C)), (sr, .inl (cI, 4, .inl R))]) (w1 := [(h0, .inr (0, [.ref kw, .int kb, .int (nI 1), .ref sc, .ref so, .ref tp, .int (nI (4 * nb)), .ref ct, .ref sr]))]) (w2 := [(h0, .inr (0, [.ref kw, .int kb, .int (nI 1), .ref sc, .ref so, .ref tp, .int (nI (4 * nb)), .ref ct, .ref sr])), (sc, .inl (cI, 140, .inl F)), (so, .inl (cI, 4, .inl S)), (tp, .inl (cI, 256, .inl f)), (ct, .inl (cI, 4, .inl C)), (sr, .inl (cI, 4, .inl R))]) (ci := 0) (q0 := 0) ⟨hx, hb, hml, hown, hts⟩ (c_X0_needReadyKey1 l D cI _ h0 kw sc so tp ct sr kb (nI (4 * nb))) (cwV 0 hts gX0_run_X0_needReadyKey rfl rfl rfl (by decide +kernel) ⟨Nat.le_of_ble_eq_true rfl, Nat.le_of_ble_eq_true rfl⟩) (fun _ _ _ _ h => h) (fun _ _ _ _ => trivial) hK hP hD hS hA rfl rfl [0] [1, 2, 3, 4, 5] rfl (by decide) rfl (by decide) (by decide) [5, 0, 1, 2, 3, 4] rfl (by decide) rfl hl.1 rfl (Nat.le_of_ble_eq_true rfl) dX0_run_20 ⟨Nat.zero_le _, Nat.zero_le _⟩ (fun H locs hP hD hS => ?_)
  refine lv_aload_n hx hb dX0_run_23 rfl (lv_at hl 0 rfl) ?_
  refine wk_Vv (b := h0) (As := []) (rest := []) (wc := [(h0, .inr (0, [.ref kw, .int kb, .int (nI 1), .ref sc, .ref so, .ref tp, .int (nI (4 * nb)), .ref ct, .ref sr]))]) (wr := [(sc, .inl (cI, 140, .inl F)), (so, .inl (cI, 4, .inl S)), (tp, .inl (cI, 256, .inl f)), (ct, .inl (cI, 4, .inl C)), (sr, .inl (cI, 4, .inl R))]) (w1 := [(h0, .inr (0, [.ref kw, .int kb, .int (nI 1), .ref sc, .ref so, .ref tp, .int (nI (4 * nb)), .ref ct, .ref sr]))]) (w2 := [(h0, .inr (0, [.ref kw, .int kb, .int (nI 1), .ref sc, .ref so, .ref tp, .int (nI (4 * nb)), .ref ct, .ref sr])), (sc, .inl (cI, 140, .inl F)), (so, .inl (cI, 4, .inl S)), (tp, .inl (cI, 256, .inl f)), (ct, .inl (cI, 4, .inl C)), (sr, .inl (cI, 4, .inl R))]) (ci := 0) (q0 := 0) ⟨hx, hb, hml, hown, hts⟩ (c_X0_needWholeBlocks1 l D cI _ h0 kw sc so tp ct sr kb (nI 1) nb hnb) (cwV 0 hts gX0_run_X0_needWholeBlocks rfl rfl rfl (by decide +kernel) ⟨Nat.le_of_ble_eq_true rfl, Nat.le_of_ble_eq_true rfl⟩) (fun _ _ _ _ h => h) (fun _ _ _ _ => trivial) hK hP hD hS hA rfl rfl [0] [1, 2, 3, 4, 5] rfl (by decide) rfl (by decide) (by decide) [5, 0, 1, 2, 3, 4] rfl (by decide) rfl hl.1 rfl (Nat.le_of_ble_eq_true rfl) dX0_run_24 ⟨Nat.zero_le _, Nat.zero_le _⟩ (fun H locs hP hD hS => ?_)
  refine lv_iload_n hx hb dX0_run_27 rfl (lv_at hl 1 rfl) ?_
  refine lv_iconst (v := nI 2) hx hb dX0_run_28 (by decide) ?_
  refine wk_neN (tgt := 39) hx hb (a := 0) (b := 2) (by decide) (by decide) dX0_run_29 (by decide) (fun c29 => ?_) (fun c29 => absurd c29 (by decide))
  refine lv_iload_n hx hb dX0_run_39 rfl (lv_at hl 1 rfl) ?_
  refine lv_iconst (v := nI 1) hx hb dX0_run_40 (by decide) ?_
  refine wk_neN (tgt := 62) hx hb (a := 0) (b := 1) (by decide) (by decide) dX0_run_41 (by decide) (fun c41 => ?_) (fun c41 => absurd c41 (by decide))
  refine lv_aload_n hx hb dX0_run_62 rfl (lv_at hl 0 rfl) ?_
  refine lv_iload_n hx hb dX0_run_63 rfl (lv_at hl 2 rfl) ?_
  refine wk_Vv (b := h0) (As := [.int (nI 0)]) (rest := []) (wc := [(h0, .inr (0, [.ref kw, .int kb, .int (nI 1), .ref sc, .ref so, .ref tp, .int (nI (4 * nb)), .ref ct, .ref sr])), (sc, .inl (cI, 140, .inl F)), (tp, .inl (cI, 256, .inl f))]) (wr := [(so, .inl (cI, 4, .inl S)), (ct, .inl (cI, 4, .inl C)), (sr, .inl (cI, 4, .inl R))]) (w1 := [(h0, .inr (0, [.ref kw, .int kb, .int (nI 1), .ref sc, .ref so, .ref tp, .int (nI (4 * nb)), .ref ct, .ref sr])), (sc, .inl (cI, 140, .inl F)), (tp, .inl (cI, 256, .inl (cEach 0 F f nb)))]) (w2 := [(h0, .inr (0, [.ref kw, .int kb, .int (nI 1), .ref sc, .ref so, .ref tp, .int (nI (4 * nb)), .ref ct, .ref sr])), (sc, .inl (cI, 140, .inl F)), (so, .inl (cI, 4, .inl S)), (tp, .inl (cI, 256, .inl (cEach 0 F f nb))), (ct, .inl (cI, 4, .inl C)), (sr, .inl (cI, 4, .inl R))]) (ci := 0) (q0 := 0) ⟨hx, hb, hml, hown, hts⟩ (c_X0_changeEachBlock0 l D cI tb _ h0 kw sc so tp ct sr kb (nI 1) nb F f hnb) (cwV 1 hts gX0_run_X0_changeEachBlock rfl rfl rfl (by decide +kernel) ⟨Nat.le_of_ble_eq_true rfl, Nat.le_of_ble_eq_true rfl⟩) (fun U g mk a h => bxs.call g mk a h) (fun hF U hU hW => hbx.give hS hF hU hW) hK hP hD hS hA rfl rfl [0, 1, 3] [2, 4, 5] rfl (by decide) rfl (by decide) (by decide) [3, 4, 0, 5, 1, 2] rfl (by decide) rfl hl.1 rfl (Nat.le_of_ble_eq_true rfl) dX0_run_64 ⟨Nat.zero_le _, Nat.zero_le _⟩ (fun H locs hP hD hS => ?_)
  refine lv_aload_n hx hb dX0_run_67 rfl (lv_at hl 0 rfl) ?_
  refine va_get (D := D) (ci := 0) (v := .int (nI (4 * nb))) (C := RX0) (T := TX0) (N := 9) hx hb hts hinX0 hown hK hP 0 rfl rfl 6 (by decide) (hts (.fieldLink RX0 36 "SlicedCipher" "tapeLength" "I") (by decide +kernel)) (fun _ h9 => h9) rfl dX0_run_68 ?_
  refine lv_iconst (v := nI 4) hx hb dX0_run_71 (by decide) ?_
  refine wk_idivN hx hb (a := 4 * nb) (b := 4) (by omega) (by decide) (by decide) dX0_run_72 ?_
  exact W.iret (v := nI ((4 * nb) / 4)) hx hb hr (fun t ht hW => ⟨⟨_, (fun _ _ => 0), rfl, by rw [show 4 * nb / 4 = nb from by omega], by rw [ht]; exact hP, va_K.moved hW.alike hK, hD⟩, hS.F ht⟩) hS.2.2 dX0_run_73
set_option maxHeartbeats 4000000 in
set_option maxRecDepth 100000 in
theorem c_X0_run01 (l : Launch) (D : va_G) (cI : ClassId) (tb : Nat) (sz : Nat) (h0 kw sc so tp ct sr : Nat) (kb : Int32) (nb : Nat) (F S f C R : Nat → Int32) (hnb : nb ≤ 64) : Met l yX0_run wsX0_run ({ frames := 5, cells := 0, slots := 0, locals := 122 }) (va_Pc [.ref h0, .int (nI 0), .int (nI 1)] (fun U => PW D [(cI, .int)] [(h0, .inr (0, [.ref kw, .int kb, .int (nI 1), .ref sc, .ref so, .ref tp, .int (nI (4 * nb)), .ref ct, .ref sr])), (sc, .inl (cI, 140, .inl F)), (so, .inl (cI, 4, .inl S)), (tp, .inl (cI, 256, .inl f)), (ct, .inl (cI, 4, .inl C)), (sr, .inl (cI, 4, .inl R))] sz U ∧ bxs tb (va_A [(h0, .inr (0, [.ref kw, .int kb, .int (nI 1), .ref sc, .ref so, .ref tp, .int (nI (4 * nb)), .ref ct, .ref sr])), (sc, .inl (cI, 140, .inl F)), (so, .inl (cI, 4, .inl S)), (tp, .inl (cI, 256, .inl f)), (ct, .inl (cI, 4, .inl C)), (sr, .inl (cI, 4, .inl R))] sz) U U.heap)) (va_Qi (fun r9 (u : Nat → Nat → Int32) => r9 = nI nb) (fun u => BW D [(cI, .int)] (va_A [(h0, .inr (0, [.ref kw, .int kb, .int (nI 1), .ref sc, .ref so, .ref tp, .int (nI (4 * nb)), .ref ct, .ref sr])), (sc, .inl (cI, 140, .inl F)), (so, .inl (cI, 4, .inl S)), (tp, .inl (cI, 256, .inl f)), (ct, .inl (cI, 4, .inl C)), (sr, .inl (cI, 4, .inl R))] sz) [(h0, .inr (0, [.ref kw, .int kb, .int (nI 1), .ref sc, .ref so, .ref tp, .int (nI (4 * nb)), .ref ct, .ref sr])), (sc, .inl (cI, 140, .inl F)), (so, .inl (cI, 4, .inl S)), (tp, .inl (cI, 256, .inl (cEach 1 F f nb))), (ct, .inl (cI, 4, .inl C)), (sr, .inl (cI, 4, .inl R))]) (va_A [(h0, .inr (0, [.ref kw, .int kb, .int (nI 1), .ref sc, .ref so, .ref tp, .int (nI (4 * nb)), .ref ct, .ref sr])), (sc, .inl (cI, 140, .inl F)), (so, .inl (cI, 4, .inl S)), (tp, .inl (cI, 256, .inl f)), (ct, .inl (cI, 4, .inl C)), (sr, .inl (cI, 4, .inl R))] sz)) 0 0 (va_A [(h0, .inr (0, [.ref kw, .int kb, .int (nI 1), .ref sc, .ref so, .ref tp, .int (nI (4 * nb)), .ref ct, .ref sr])), (sc, .inl (cI, 140, .inl F)), (so, .inl (cI, 4, .inl S)), (tp, .inl (cI, 256, .inl f)), (ct, .inl (cI, 4, .inl C)), (sr, .inl (cI, 4, .inl R))] sz) := by
  refine Met.ofW (cc := cX0_run) (maxL := 3) (ret := (some .int)) (by decide) rfl ?_
  intro p e s m args below meth c s₁ B hml hv
  obtain ⟨rfl, ⟨hsz, hP, hK, hD0⟩, hbx⟩ := hv
  have hx := B.exec
  have hb := B.bytes
  have hr := B.returns
  have hts := atoms_spec (ws := wsX0_run) B.pre
  have hown : s.vm.findClass RX0 = some m.cls := findClass_of_methodNamed B.named
  have hlocks := B.notSynchronized
  subst hsz
  have hD := hD0.self (sz := s.heap.size)
  have hinX0 := in_X0_run
  generalize hAe : va_A [(h0, .inr (0, [.ref kw, .int kb, .int (nI 1), .ref sc, .ref so, .ref tp, .int (nI (4 * nb)), .ref ct, .ref sr])), (sc, .inl (cI, 140, .inl F)), (so, .inl (cI, 4, .inl S)), (tp, .inl (cI, 256, .inl f)), (ct, .inl (cI, 4, .inl C)), (sr, .inl (cI, 4, .inl R))] s.heap.size = A at hbx hD ⊢
  have hA : ∀ q : Nat, s.heap.size ≤ q → A q := fun q h => by rw [← hAe]; exact Or.inr h
  have hS : va_S A s.heap s.heap [] := va_S.rf
  have hl := lv_entry ([.ref h0, .int (nI 0), .int (nI 1)]) (n := 3) (Nat.le_of_ble_eq_true rfl)
  rw [lg_entry_eq]
  generalize (lg_sl ([.ref h0, .int (nI 0), .int (nI 1)]) ++ List.replicate (3 - (lg_sl ([.ref h0, .int (nI 0), .int (nI 1)])).length) Slot.unset).toArray = ls at hl ⊢
  have hl : lv_has ls 3 [(0, .ref h0), (1, .int (nI 0)), (2, .int (nI 1))] := hl
  refine lv_iload_n hx hb dX0_run_0 rfl (lv_at hl 1 rfl) ?_
  refine lv_if_lt (tgt := 9) hx hb dX0_run_1 (by decide) (fun c1 => absurd c1 (nI_pos (by omega))) (fun c1 => ?_)
  refine lv_iload_n hx hb dX0_run_4 rfl (lv_at hl 1 rfl) ?_
  refine lv_iconst (v := nI 2) hx hb dX0_run_5 (by decide) ?_
  refine wk_leN (tgt := 19) hx hb (a := 0) (b := 2) (by decide) (by decide) dX0_run_6 (by decide) (fun c6 => ?_) (fun c6 => absurd c6 (by omega))
  refine lv_aload_n hx hb dX0_run_19 rfl (lv_at hl 0 rfl) ?_
  refine wk_Vv (b := h0) (As := []) (rest := []) (wc := [(h0, .inr (0, [.ref kw, .int kb, .int (nI 1), .ref sc, .ref so, .ref tp, .int (nI (4 * nb)), .ref ct, .ref sr]))]) (wr := [(sc, .inl (cI, 140, .inl F)), (so, .inl (cI, 4, .inl S)), (tp, .inl (cI, 256, .inl f)), (ct, .inl (cI, 4, .inl C)), (sr, .inl (cI, 4, .inl R))]) (w1 := [(h0, .inr (0, [.ref kw, .int kb, .int (nI 1), .ref sc, .ref so, .ref tp, .int (nI (4 * nb)), .ref ct, .ref sr]))]) (w2 := [(h0, .inr (0, [.ref kw, .int kb, .int (nI 1), .ref sc, .ref so, .ref tp, .int (nI (4 * nb)), .ref ct, .ref sr])), (sc, .inl (cI, 140, .inl F)), (so, .inl (cI, 4, .inl S)), (tp, .inl (cI, 256, .inl f)), (ct, .inl (cI, 4, .inl C)), (sr, .inl (cI, 4, .inl R))]) (ci := 0) (q0 := 0) ⟨hx, hb, hml, hown, hts⟩ (c_X0_needReadyKey1 l D cI _ h0 kw sc so tp ct sr kb (nI (4 * nb))) (cwV 0 hts gX0_run_X0_needReadyKey rfl rfl rfl (by decide +kernel) ⟨Nat.le_of_ble_eq_true rfl, Nat.le_of_ble_eq_true rfl⟩) (fun _ _ _ _ h => h) (fun _ _ _ _ => trivial) hK hP hD hS hA rfl rfl [0] [1, 2, 3, 4, 5] rfl (by decide) rfl (by decide) (by decide) [5, 0, 1, 2, 3, 4] rfl (by decide) rfl hl.1 rfl (Nat.le_of_ble_eq_true rfl) dX0_run_20 ⟨Nat.zero_le _, Nat.zero_le _⟩ (fun H locs hP hD hS => ?_)
  refine lv_aload_n hx hb dX0_run_23 rfl (lv_at hl 0 rfl) ?_
  refine wk_Vv (b := h0) (As := []) (rest := []) (wc := [(h0, .inr (0, [.ref kw, .int kb, .int (nI 1), .ref sc, .ref so, .ref tp, .int (nI (4 * nb)), .ref ct, .ref sr]))]) (wr := [(sc, .inl (cI, 140, .inl F)), (so, .inl (cI, 4, .inl S)), (tp, .inl (cI, 256, .inl f)), (ct, .inl (cI, 4, .inl C)), (sr, .inl (cI, 4, .inl R))]) (w1 := [(h0, .inr (0, [.ref kw, .int kb, .int (nI 1), .ref sc, .ref so, .ref tp, .int (nI (4 * nb)), .ref ct, .ref sr]))]) (w2 := [(h0, .inr (0, [.ref kw, .int kb, .int (nI 1), .ref sc, .ref so, .ref tp, .int (nI (4 * nb)), .ref ct, .ref sr])), (sc, .inl (cI, 140, .inl F)), (so, .inl (cI, 4, .inl S)), (tp, .inl (cI, 256, .inl f)), (ct, .inl (cI, 4, .inl C)), (sr, .inl (cI, 4, .inl R))]) (ci := 0) (q0 := 0) ⟨hx, hb, hml, hown, hts⟩ (c_X0_needWholeBlocks1 l D cI _ h0 kw sc so tp ct sr kb (nI 1) nb hnb) (cwV 0 hts gX0_run_X0_needWholeBlocks rfl rfl rfl (by decide +kernel) ⟨Nat.le_of_ble_eq_true rfl, Nat.le_of_ble_eq_true rfl⟩) (fun _ _ _ _ h => h) (fun _ _ _ _ => trivial) hK hP hD hS hA rfl rfl [0] [1, 2, 3, 4, 5] rfl (by decide) rfl (by decide) (by decide) [5, 0, 1, 2, 3, 4] rfl (by decide) rfl hl.1 rfl (Nat.le_of_ble_eq_true rfl) dX0_run_24 ⟨Nat.zero_le _, Nat.zero_le _⟩ (fun H locs hP hD hS => ?_)
  refine lv_iload_n hx hb dX0_run_27 rfl (lv_at hl 1 rfl) ?_
  refine lv_iconst (v := nI 2) hx hb dX0_run_28 (by decide) ?_
  refine wk_neN (tgt := 39) hx hb (a := 0) (b := 2) (by decide) (by decide) dX0_run_29 (by decide) (fun c29 => ?_) (fun c29 => absurd c29 (by decide))
  refine lv_iload_n hx hb dX0_run_39 rfl (lv_at hl 1 rfl) ?_
  refine lv_iconst (v := nI 1) hx hb dX0_run_40 (by decide) ?_
  refine wk_neN (tgt := 62) hx hb (a := 0) (b := 1) (by decide) (by decide) dX0_run_41 (by decide) (fun c41 => ?_) (fun c41 => absurd c41 (by decide))
  refine lv_aload_n hx hb dX0_run_62 rfl (lv_at hl 0 rfl) ?_
  refine lv_iload_n hx hb dX0_run_63 rfl (lv_at hl 2 rfl) ?_
  refine wk_Vv (b := h0) (As := [.int (nI 1)]) (rest := []) (wc := [(h0, .inr (0, [.ref kw, .int kb, .int (nI 1), .ref sc, .ref so, .ref tp, .int (nI (4 * nb)), .ref ct, .ref sr])), (sc, .inl (cI, 140, .inl F)), (tp, .inl (cI, 256, .inl f))]) (wr := [(so, .inl (cI, 4, .inl S)), (ct, .inl (cI, 4, .inl C)), (sr, .inl (cI, 4, .inl R))]) (w1 := [(h0, .inr (0, [.ref kw, .int kb, .int (nI 1), .ref sc, .ref so, .ref tp, .int (nI (4 * nb)), .ref ct, .ref sr])), (sc, .inl (cI, 140, .inl F)), (tp, .inl (cI, 256, .inl (cEach 1 F f nb)))]) (w2 := [(h0, .inr (0, [.ref kw, .int kb, .int (nI 1), .ref sc, .ref so, .ref tp, .int (nI (4 * nb)), .ref ct, .ref sr])), (sc, .inl (cI, 140, .inl F)), (so, .inl (cI, 4, .inl S)), (tp, .inl (cI, 256, .inl (cEach 1 F f nb))), (ct, .inl (cI, 4, .inl C)), (sr, .inl (cI, 4, .inl R))]) (ci := 0) (q0 := 0) ⟨hx, hb, hml, hown, hts⟩ (c_X0_changeEachBlock1 l D cI tb _ h0 kw sc so tp ct sr kb (nI 1) nb F f hnb) (cwV 1 hts gX0_run_X0_changeEachBlock rfl rfl rfl (by decide +kernel) ⟨Nat.le_of_ble_eq_true rfl, Nat.le_of_ble_eq_true rfl⟩) (fun U g mk a h => bxs.call g mk a h) (fun hF U hU hW => hbx.give hS hF hU hW) hK hP hD hS hA rfl rfl [0, 1, 3] [2, 4, 5] rfl (by decide) rfl (by decide) (by decide) [3, 4, 0, 5, 1, 2] rfl (by decide) rfl hl.1 rfl (Nat.le_of_ble_eq_true rfl) dX0_run_64 ⟨Nat.zero_le _, Nat.zero_le _⟩ (fun H locs hP hD hS => ?_)
  refine lv_aload_n hx hb dX0_run_67 rfl (lv_at hl 0 rfl) ?_
  refine va_get (D := D) (ci := 0) (v := .int (nI (4 * nb))) (C := RX0) (T := TX0) (N := 9) hx hb hts hinX0 hown hK hP 0 rfl rfl 6 (by decide) (hts (.fieldLink RX0 36 "SlicedCipher" "tapeLength" "I") (by decide +kernel)) (fun _ h9 => h9) rfl dX0_run_68 ?_
  refine lv_iconst (v := nI 4) hx hb dX0_run_71 (by decide) ?_
  refine wk_idivN hx hb (a := 4 * nb) (b := 4) (by omega) (by decide) (by decide) dX0_run_72 ?_
  exact W.iret (v := nI ((4 * nb) / 4)) hx hb hr (fun t ht hW => ⟨⟨_, (fun _ _ => 0), rfl, by rw [show 4 * nb / 4 = nb from by omega], by rw [ht]; exact hP, va_K.moved hW.alike hK, hD⟩, hS.F ht⟩) hS.2.2 dX0_run_73
set_option maxHeartbeats 4000000 in
set_option maxRecDepth 100000 in
theorem c_X0_run10 (l : Launch) (D : va_G) (cI : ClassId) (tb : Nat) (sz : Nat) (h0 kw sc so tp ct sr : Nat) (kb : Int32) (nb : Nat) (F S f C R : Nat → Int32) (hnb : nb ≤ 64) : Met l yX0_run wsX0_run ({ frames := 5, cells := 0, slots := 0, locals := 122 }) (va_Pc [.ref h0, .int (nI 1), .int (nI 0)] (fun U => PW D [(cI, .int)] [(h0, .inr (0, [.ref kw, .int kb, .int (nI 1), .ref sc, .ref so, .ref tp, .int (nI (4 * nb)), .ref ct, .ref sr])), (sc, .inl (cI, 140, .inl F)), (so, .inl (cI, 4, .inl S)), (tp, .inl (cI, 256, .inl f)), (ct, .inl (cI, 4, .inl C)), (sr, .inl (cI, 4, .inl R))] sz U ∧ bxs tb (va_A [(h0, .inr (0, [.ref kw, .int kb, .int (nI 1), .ref sc, .ref so, .ref tp, .int (nI (4 * nb)), .ref ct, .ref sr])), (sc, .inl (cI, 140, .inl F)), (so, .inl (cI, 4, .inl S)), (tp, .inl (cI, 256, .inl f)), (ct, .inl (cI, 4, .inl C)), (sr, .inl (cI, 4, .inl R))] sz) U U.heap)) (va_Qi (fun r9 (u : Nat → Nat → Int32) => r9 = nI nb) (fun u => BW D [(cI, .int)] (va_A [(h0, .inr (0, [.ref kw, .int kb, .int (nI 1), .ref sc, .ref so, .ref tp, .int (nI (4 * nb)), .ref ct, .ref sr])), (sc, .inl (cI, 140, .inl F)), (so, .inl (cI, 4, .inl S)), (tp, .inl (cI, 256, .inl f)), (ct, .inl (cI, 4, .inl C)), (sr, .inl (cI, 4, .inl R))] sz) [(h0, .inr (0, [.ref kw, .int kb, .int (nI 1), .ref sc, .ref so, .ref tp, .int (nI (4 * nb)), .ref ct, .ref sr])), (sc, .inl (cI, 140, .inl F)), (so, .inl (cI, 4, .inl S)), (tp, .inl (cI, 256, .inl (cChain F S f nb))), (ct, .inl (cI, 4, .inl C)), (sr, .inl (cI, 4, .inl R))]) (va_A [(h0, .inr (0, [.ref kw, .int kb, .int (nI 1), .ref sc, .ref so, .ref tp, .int (nI (4 * nb)), .ref ct, .ref sr])), (sc, .inl (cI, 140, .inl F)), (so, .inl (cI, 4, .inl S)), (tp, .inl (cI, 256, .inl f)), (ct, .inl (cI, 4, .inl C)), (sr, .inl (cI, 4, .inl R))] sz)) 0 0 (va_A [(h0, .inr (0, [.ref kw, .int kb, .int (nI 1), .ref sc, .ref so, .ref tp, .int (nI (4 * nb)), .ref ct, .ref sr])), (sc, .inl (cI, 140, .inl F)), (so, .inl (cI, 4, .inl S)), (tp, .inl (cI, 256, .inl f)), (ct, .inl (cI, 4, .inl C)), (sr, .inl (cI, 4, .inl R))] sz) := by
  refine Met.ofW (cc := cX0_run) (maxL := 3) (ret := (some .int)) (by decide) rfl ?_
  intro p e s m args below meth c s₁ B hml hv
  obtain ⟨rfl, ⟨hsz, hP, hK, hD0⟩, hbx⟩ := hv
  have hx := B.exec
  have hb := B.bytes
  have hr := B.returns
  have hts := atoms_spec (ws := wsX0_run) B.pre
  have hown : s.vm.findClass RX0 = some m.cls := findClass_of_methodNamed B.named
  have hlocks := B.notSynchronized
  subst hsz
  have hD := hD0.self (sz := s.heap.size)
  have hinX0 := in_X0_run
  generalize hAe : va_A [(h0, .inr (0, [.ref kw, .int kb, .int (nI 1), .ref sc, .ref so, .ref tp, .int (nI (4 * nb)), .ref ct, .ref sr])), (sc, .inl (cI, 140, .inl F)), (so, .inl (cI, 4, .inl S)), (tp, .inl (cI, 256, .inl f)), (ct, .inl (cI, 4, .inl C)), (sr, .inl (cI, 4, .inl R))] s.heap.size = A at hbx hD ⊢
  have hA : ∀ q : Nat, s.heap.size ≤ q → A q := fun q h => by rw [← hAe]; exact Or.inr h
  have hS : va_S A s.heap s.heap [] := va_S.rf
  have hl := lv_entry ([.ref h0, .int (nI 1), .int (nI 0)]) (n := 3) (Nat.le_of_ble_eq_true rfl)
  rw [lg_entry_eq]
  generalize (lg_sl ([.ref h0, .int (nI 1), .int (nI 0)]) ++ List.replicate (3 - (lg_sl ([.ref h0, .int (nI 1), .int (nI 0)])).length) Slot.unset).toArray = ls at hl ⊢
  have hl : lv_has ls 3 [(0, .ref h0), (1, .int (nI 1)), (2, .int (nI 0))] := hl
  refine lv_iload_n hx hb dX0_run_0 rfl (lv_at hl 1 rfl) ?_
  refine lv_if_lt (tgt := 9) hx hb dX0_run_1 (by decide) (fun c1 => absurd c1 (nI_pos (by omega))) (fun c1 => ?_)
  refine lv_iload_n hx hb dX0_run_4 rfl (lv_at hl 1 rfl) ?_
  refine lv_iconst (v := nI 2) hx hb dX0_run_5 (by decide) ?_
  refine wk_leN (tgt := 19) hx hb (a := 1) (b := 2) (by decide) (by decide) dX0_run_6 (by decide) (fun c6 => ?_) (fun c6 => absurd c6 (by omega))
  refine lv_aload_n hx hb dX0_run_19 rfl (lv_at hl 0 rfl) ?_
  refine wk_Vv (b := h0) (As := []) (rest := []) (wc := [(h0, .inr (0, [.ref kw, .int kb, .int (nI 1), .ref sc, .ref so, .ref tp, .int (nI (4 * nb)), .ref ct, .ref sr]))]) (wr := [(sc, .inl (cI, 140, .inl F)), (so, .inl (cI, 4, .inl S)), (tp, .inl (cI, 256, .inl f)), (ct, .inl (cI, 4, .inl C)), (sr, .inl (cI, 4, .inl R))]) (w1 := [(h0, .inr (0, [.ref kw, .int kb, .int (nI 1), .ref sc, .ref so, .ref tp, .int (nI (4 * nb)), .ref ct, .ref sr]))]) (w2 := [(h0, .inr (0, [.ref kw, .int kb, .int (nI 1), .ref sc, .ref so, .ref tp, .int (nI (4 * nb)), .ref ct, .ref sr])), (sc, .inl (cI, 140, .inl F)), (so, .inl (cI, 4, .inl S)), (tp, .inl (cI, 256, .inl f)), (ct, .inl (cI, 4, .inl C)), (sr, .inl (cI, 4, .inl R))]) (ci := 0) (q0 := 0) ⟨hx, hb, hml, hown, hts⟩ (c_X0_needReadyKey1 l D cI _ h0 kw sc so tp ct sr kb (nI (4 * nb))) (cwV 0 hts gX0_run_X0_needReadyKey rfl rfl rfl (by decide +kernel) ⟨Nat.le_of_ble_eq_true rfl, Nat.le_of_ble_eq_true rfl⟩) (fun _ _ _ _ h => h) (fun _ _ _ _ => trivial) hK hP hD hS hA rfl rfl [0] [1, 2, 3, 4, 5] rfl (by decide) rfl (by decide) (by decide) [5, 0, 1, 2, 3, 4] rfl (by decide) rfl hl.1 rfl (Nat.le_of_ble_eq_true rfl) dX0_run_20 ⟨Nat.zero_le _, Nat.zero_le _⟩ (fun H locs hP hD hS => ?_)
  refine lv_aload_n hx hb dX0_run_23 rfl (lv_at hl 0 rfl) ?_
  refine wk_Vv (b := h0) (As := []) (rest := []) (wc := [(h0, .inr (0, [.ref kw, .int kb, .int (nI 1), .ref sc, .ref so, .ref tp, .int (nI (4 * nb)), .ref ct, .ref sr]))]) (wr := [(sc, .inl (cI, 140, .inl F)), (so, .inl (cI, 4, .inl S)), (tp, .inl (cI, 256, .inl f)), (ct, .inl (cI, 4, .inl C)), (sr, .inl (cI, 4, .inl R))]) (w1 := [(h0, .inr (0, [.ref kw, .int kb, .int (nI 1), .ref sc, .ref so, .ref tp, .int (nI (4 * nb)), .ref ct, .ref sr]))]) (w2 := [(h0, .inr (0, [.ref kw, .int kb, .int (nI 1), .ref sc, .ref so, .ref tp, .int (nI (4 * nb)), .ref ct, .ref sr])), (sc, .inl (cI, 140, .inl F)), (so, .inl (cI, 4, .inl S)), (tp, .inl (cI, 256, .inl f)), (ct, .inl (cI, 4, .inl C)), (sr, .inl (cI, 4, .inl R))]) (ci := 0) (q0 := 0) ⟨hx, hb, hml, hown, hts⟩ (c_X0_needWholeBlocks1 l D cI _ h0 kw sc so tp ct sr kb (nI 1) nb hnb) (cwV 0 hts gX0_run_X0_needWholeBlocks rfl rfl rfl (by decide +kernel) ⟨Nat.le_of_ble_eq_true rfl, Nat.le_of_ble_eq_true rfl⟩) (fun _ _ _ _ h => h) (fun _ _ _ _ => trivial) hK hP hD hS hA rfl rfl [0] [1, 2, 3, 4, 5] rfl (by decide) rfl (by decide) (by decide) [5, 0, 1, 2, 3, 4] rfl (by decide) rfl hl.1 rfl (Nat.le_of_ble_eq_true rfl) dX0_run_24 ⟨Nat.zero_le _, Nat.zero_le _⟩ (fun H locs hP hD hS => ?_)
  refine lv_iload_n hx hb dX0_run_27 rfl (lv_at hl 1 rfl) ?_
  refine lv_iconst (v := nI 2) hx hb dX0_run_28 (by decide) ?_
  refine wk_neN (tgt := 39) hx hb (a := 1) (b := 2) (by decide) (by decide) dX0_run_29 (by decide) (fun c29 => ?_) (fun c29 => absurd c29 (by decide))
  refine lv_iload_n hx hb dX0_run_39 rfl (lv_at hl 1 rfl) ?_
  refine lv_iconst (v := nI 1) hx hb dX0_run_40 (by decide) ?_
  refine wk_neN (tgt := 62) hx hb (a := 1) (b := 1) (by decide) (by decide) dX0_run_41 (by decide) (fun c41 => absurd c41 (fun h => h rfl)) (fun c41 => ?_)
  refine lv_iload_n hx hb dX0_run_44 rfl (lv_at hl 2 rfl) ?_
  refine wk_eq0N (tgt := 55) hx hb (a := 0) (by decide) dX0_run_45 (by decide) (fun c45 => ?_) (fun c45 => absurd c45 (fun h => h rfl))
  refine lv_aload_n hx hb dX0_run_55 rfl (lv_at hl 0 rfl) ?_
  refine wk_Vv (b := h0) (As := []) (rest := []) (wc := [(h0, .inr (0, [.ref kw, .int kb, .int (nI 1), .ref sc, .ref so, .ref tp, .int (nI (4 * nb)), .ref ct, .ref sr])), (sc, .inl (cI, 140, .inl F)), (so, .inl (cI, 4, .inl S)), (tp, .inl (cI, 256, .inl f))]) (wr := [(ct, .inl (cI, 4, .inl C)), (sr, .inl (cI, 4, .inl R))]) (w1 := [(h0, .inr (0, [.ref kw, .int kb, .int (nI 1), .ref sc, .ref so, .ref tp, .int (nI (4 * nb)), .ref ct, .ref sr])), (sc, .inl (cI, 140, .inl F)), (so, .inl (cI, 4, .inl S)), (tp, .inl (cI, 256, .inl (cChain F S f nb)))]) (w2 := [(h0, .inr (0, [.ref kw, .int kb, .int (nI 1), .ref sc, .ref so, .ref tp, .int (nI (4 * nb)), .ref ct, .ref sr])), (sc, .inl (cI, 140, .inl F)), (so, .inl (cI, 4, .inl S)), (tp, .inl (cI, 256, .inl (cChain F S f nb))), (ct, .inl (cI, 4, .inl C)), (sr, .inl (cI, 4, .inl R))]) (ci := 0) (q0 := 0) ⟨hx, hb, hml, hown, hts⟩ (c_X0_chainTape l D cI tb _ h0 kw sc so tp ct sr kb (nI 1) nb F S f hnb) (cwV 0 hts gX0_run_X0_chainTape rfl rfl rfl (by decide +kernel) ⟨Nat.le_of_ble_eq_true rfl, Nat.le_of_ble_eq_true rfl⟩) (fun U g mk a h => bxs.call g mk a h) (fun hF U hU hW => hbx.give hS hF hU hW) hK hP hD hS hA rfl rfl [0, 1, 2, 3] [4, 5] rfl (by decide) rfl (by decide) (by decide) [2, 3, 4, 5, 0, 1] rfl (by decide) rfl hl.1 rfl (Nat.le_of_ble_eq_true rfl) dX0_run_56 ⟨Nat.zero_le _, Nat.zero_le _⟩ (fun H locs hP hD hS => ?_)
  refine lv_goto (tgt := 67) hx hb dX0_run_59 (by decide) ?_
  refine lv_aload_n hx hb dX0_run_67 rfl (lv_at hl 0 rfl) ?_
  refine va_get (D := D) (ci := 0) (v := .int (nI (4 * nb))) (C := RX0) (T := TX0) (N := 9) hx hb hts hinX0 hown hK hP 0 rfl rfl 6 (by decide) (hts (.fieldLink RX0 36 "SlicedCipher" "tapeLength" "I") (by decide +kernel)) (fun _ h9 => h9) rfl dX0_run_68 ?_
  refine lv_iconst (v := nI 4) hx hb dX0_run_71 (by decide) ?_
  refine wk_idivN hx hb (a := 4 * nb) (b := 4) (by omega) (by decide) (by decide) dX0_run_72 ?_
  exact W.iret (v := nI ((4 * nb) / 4)) hx hb hr (fun t ht hW => ⟨⟨_, (fun _ _ => 0), rfl, by rw [show 4 * nb / 4 = nb from by omega], by rw [ht]; exact hP, va_K.moved hW.alike hK, hD⟩, hS.F ht⟩) hS.2.2 dX0_run_73
set_option maxHeartbeats 4000000 in
set_option maxRecDepth 100000 in
theorem c_X0_run11 (l : Launch) (D : va_G) (cI : ClassId) (tb : Nat) (sz : Nat) (h0 kw sc so tp ct sr : Nat) (kb : Int32) (nb : Nat) (F S f C R : Nat → Int32) (hnb : nb ≤ 64) : Met l yX0_run wsX0_run ({ frames := 5, cells := 0, slots := 0, locals := 122 }) (va_Pc [.ref h0, .int (nI 1), .int (nI 1)] (fun U => PW D [(cI, .int)] [(h0, .inr (0, [.ref kw, .int kb, .int (nI 1), .ref sc, .ref so, .ref tp, .int (nI (4 * nb)), .ref ct, .ref sr])), (sc, .inl (cI, 140, .inl F)), (so, .inl (cI, 4, .inl S)), (tp, .inl (cI, 256, .inl f)), (ct, .inl (cI, 4, .inl C)), (sr, .inl (cI, 4, .inl R))] sz U ∧ bxs tb (va_A [(h0, .inr (0, [.ref kw, .int kb, .int (nI 1), .ref sc, .ref so, .ref tp, .int (nI (4 * nb)), .ref ct, .ref sr])), (sc, .inl (cI, 140, .inl F)), (so, .inl (cI, 4, .inl S)), (tp, .inl (cI, 256, .inl f)), (ct, .inl (cI, 4, .inl C)), (sr, .inl (cI, 4, .inl R))] sz) U U.heap)) (va_Qi (fun r9 (u : Nat → Nat → Int32) => r9 = nI nb) (fun u => BW D [(cI, .int)] (va_A [(h0, .inr (0, [.ref kw, .int kb, .int (nI 1), .ref sc, .ref so, .ref tp, .int (nI (4 * nb)), .ref ct, .ref sr])), (sc, .inl (cI, 140, .inl F)), (so, .inl (cI, 4, .inl S)), (tp, .inl (cI, 256, .inl f)), (ct, .inl (cI, 4, .inl C)), (sr, .inl (cI, 4, .inl R))] sz) [(h0, .inr (0, [.ref kw, .int kb, .int (nI 1), .ref sc, .ref so, .ref tp, .int (nI (4 * nb)), .ref ct, .ref sr])), (sc, .inl (cI, 140, .inl F)), (so, .inl (cI, 4, .inl S)), (tp, .inl (cI, 256, .inl (cUn F S f nb nb))), (ct, .inl (cI, 4, .inl C)), (sr, .inl (cI, 4, .inl R))]) (va_A [(h0, .inr (0, [.ref kw, .int kb, .int (nI 1), .ref sc, .ref so, .ref tp, .int (nI (4 * nb)), .ref ct, .ref sr])), (sc, .inl (cI, 140, .inl F)), (so, .inl (cI, 4, .inl S)), (tp, .inl (cI, 256, .inl f)), (ct, .inl (cI, 4, .inl C)), (sr, .inl (cI, 4, .inl R))] sz)) 0 0 (va_A [(h0, .inr (0, [.ref kw, .int kb, .int (nI 1), .ref sc, .ref so, .ref tp, .int (nI (4 * nb)), .ref ct, .ref sr])), (sc, .inl (cI, 140, .inl F)), (so, .inl (cI, 4, .inl S)), (tp, .inl (cI, 256, .inl f)), (ct, .inl (cI, 4, .inl C)), (sr, .inl (cI, 4, .inl R))] sz) := by
  refine Met.ofW (cc := cX0_run) (maxL := 3) (ret := (some .int)) (by decide) rfl ?_
  intro p e s m args below meth c s₁ B hml hv
  obtain ⟨rfl, ⟨hsz, hP, hK, hD0⟩, hbx⟩ := hv
  have hx := B.exec
  have hb := B.bytes
  have hr := B.returns
  have hts := atoms_spec (ws := wsX0_run) B.pre
  have hown : s.vm.findClass RX0 = some m.cls := findClass_of_methodNamed B.named
  have hlocks := B.notSynchronized
  subst hsz
  have hD := hD0.self (sz := s.heap.size)
  have hinX0 := in_X0_run
  generalize hAe : va_A [(h0, .inr (0, [.ref kw, .int kb, .int (nI 1), .ref sc, .ref so, .ref tp, .int (nI (4 * nb)), .ref ct, .ref sr])), (sc, .inl (cI, 140, .inl F)), (so, .inl (cI, 4, .inl S)), (tp, .inl (cI, 256, .inl f)), (ct, .inl (cI, 4, .inl C)), (sr, .inl (cI, 4, .inl R))] s.heap.size = A at hbx hD ⊢
  have hA : ∀ q : Nat, s.heap.size ≤ q → A q := fun q h => by rw [← hAe]; exact Or.inr h
  have hS : va_S A s.heap s.heap [] := va_S.rf
  have hl := lv_entry ([.ref h0, .int (nI 1), .int (nI 1)]) (n := 3) (Nat.le_of_ble_eq_true rfl)
  rw [lg_entry_eq]
  generalize (lg_sl ([.ref h0, .int (nI 1), .int (nI 1)]) ++ List.replicate (3 - (lg_sl ([.ref h0, .int (nI 1), .int (nI 1)])).length) Slot.unset).toArray = ls at hl ⊢
  have hl : lv_has ls 3 [(0, .ref h0), (1, .int (nI 1)), (2, .int (nI 1))] := hl
  refine lv_iload_n hx hb dX0_run_0 rfl (lv_at hl 1 rfl) ?_
  refine lv_if_lt (tgt := 9) hx hb dX0_run_1 (by decide) (fun c1 => absurd c1 (nI_pos (by omega))) (fun c1 => ?_)
  refine lv_iload_n hx hb dX0_run_4 rfl (lv_at hl 1 rfl) ?_
  refine lv_iconst (v := nI 2) hx hb dX0_run_5 (by decide) ?_
  refine wk_leN (tgt := 19) hx hb (a := 1) (b := 2) (by decide) (by decide) dX0_run_6 (by decide) (fun c6 => ?_) (fun c6 => absurd c6 (by omega))
  refine lv_aload_n hx hb dX0_run_19 rfl (lv_at hl 0 rfl) ?_
  refine wk_Vv (b := h0) (As := []) (rest := []) (wc := [(h0, .inr (0, [.ref kw, .int kb, .int (nI 1), .ref sc, .ref so, .ref tp, .int (nI (4 * nb)), .ref ct, .ref sr]))]) (wr := [(sc, .inl (cI, 140, .inl F)), (so, .inl (cI, 4, .inl S)), (tp, .inl (cI, 256, .inl f)), (ct, .inl (cI, 4, .inl C)), (sr, .inl (cI, 4, .inl R))]) (w1 := [(h0, .inr (0, [.ref kw, .int kb, .int (nI 1), .ref sc, .ref so, .ref tp, .int (nI (4 * nb)), .ref ct, .ref sr]))]) (w2 := [(h0, .inr (0, [.ref kw, .int kb, .int (nI 1), .ref sc, .ref so, .ref tp, .int (nI (4 * nb)), .ref ct, .ref sr])), (sc, .inl (cI, 140, .inl F)), (so, .inl (cI, 4, .inl S)), (tp, .inl (cI, 256, .inl f)), (ct, .inl (cI, 4, .inl C)), (sr, .inl (cI, 4, .inl R))]) (ci := 0) (q0 := 0) ⟨hx, hb, hml, hown, hts⟩ (c_X0_needReadyKey1 l D cI _ h0 kw sc so tp ct sr kb (nI (4 * nb))) (cwV 0 hts gX0_run_X0_needReadyKey rfl rfl rfl (by decide +kernel) ⟨Nat.le_of_ble_eq_true rfl, Nat.le_of_ble_eq_true rfl⟩) (fun _ _ _ _ h => h) (fun _ _ _ _ => trivial) hK hP hD hS hA rfl rfl [0] [1, 2, 3, 4, 5] rfl (by decide) rfl (by decide) (by decide) [5, 0, 1, 2, 3, 4] rfl (by decide) rfl hl.1 rfl (Nat.le_of_ble_eq_true rfl) dX0_run_20 ⟨Nat.zero_le _, Nat.zero_le _⟩ (fun H locs hP hD hS => ?_)
  refine lv_aload_n hx hb dX0_run_23 rfl (lv_at hl 0 rfl) ?_
  refine wk_Vv (b := h0) (As := []) (rest := []) (wc := [(h0, .inr (0, [.ref kw, .int kb, .int (nI 1), .ref sc, .ref so, .ref tp, .int (nI (4 * nb)), .ref ct, .ref sr]))]) (wr := [(sc, .inl (cI, 140, .inl F)), (so, .inl (cI, 4, .inl S)), (tp, .inl (cI, 256, .inl f)), (ct, .inl (cI, 4, .inl C)), (sr, .inl (cI, 4, .inl R))]) (w1 := [(h0, .inr (0, [.ref kw, .int kb, .int (nI 1), .ref sc, .ref so, .ref tp, .int (nI (4 * nb)), .ref ct, .ref sr]))]) (w2 := [(h0, .inr (0, [.ref kw, .int kb, .int (nI 1), .ref sc, .ref so, .ref tp, .int (nI (4 * nb)), .ref ct, .ref sr])), (sc, .inl (cI, 140, .inl F)), (so, .inl (cI, 4, .inl S)), (tp, .inl (cI, 256, .inl f)), (ct, .inl (cI, 4, .inl C)), (sr, .inl (cI, 4, .inl R))]) (ci := 0) (q0 := 0) ⟨hx, hb, hml, hown, hts⟩ (c_X0_needWholeBlocks1 l D cI _ h0 kw sc so tp ct sr kb (nI 1) nb hnb) (cwV 0 hts gX0_run_X0_needWholeBlocks rfl rfl rfl (by decide +kernel) ⟨Nat.le_of_ble_eq_true rfl, Nat.le_of_ble_eq_true rfl⟩) (fun _ _ _ _ h => h) (fun _ _ _ _ => trivial) hK hP hD hS hA rfl rfl [0] [1, 2, 3, 4, 5] rfl (by decide) rfl (by decide) (by decide) [5, 0, 1, 2, 3, 4] rfl (by decide) rfl hl.1 rfl (Nat.le_of_ble_eq_true rfl) dX0_run_24 ⟨Nat.zero_le _, Nat.zero_le _⟩ (fun H locs hP hD hS => ?_)
  refine lv_iload_n hx hb dX0_run_27 rfl (lv_at hl 1 rfl) ?_
  refine lv_iconst (v := nI 2) hx hb dX0_run_28 (by decide) ?_
  refine wk_neN (tgt := 39) hx hb (a := 1) (b := 2) (by decide) (by decide) dX0_run_29 (by decide) (fun c29 => ?_) (fun c29 => absurd c29 (by decide))
  refine lv_iload_n hx hb dX0_run_39 rfl (lv_at hl 1 rfl) ?_
  refine lv_iconst (v := nI 1) hx hb dX0_run_40 (by decide) ?_
  refine wk_neN (tgt := 62) hx hb (a := 1) (b := 1) (by decide) (by decide) dX0_run_41 (by decide) (fun c41 => absurd c41 (fun h => h rfl)) (fun c41 => ?_)
  refine lv_iload_n hx hb dX0_run_44 rfl (lv_at hl 2 rfl) ?_
  refine wk_eq0N (tgt := 55) hx hb (a := 1) (by decide) dX0_run_45 (by decide) (fun c45 => absurd c45 (by decide)) (fun c45 => ?_)
  refine lv_aload_n hx hb dX0_run_48 rfl (lv_at hl 0 rfl) ?_
  refine wk_Vv (b := h0) (As := []) (rest := []) (wc := [(h0, .inr (0, [.ref kw, .int kb, .int (nI 1), .ref sc, .ref so, .ref tp, .int (nI (4 * nb)), .ref ct, .ref sr])), (sc, .inl (cI, 140, .inl F)), (so, .inl (cI, 4, .inl S)), (tp, .inl (cI, 256, .inl f))]) (wr := [(ct, .inl (cI, 4, .inl C)), (sr, .inl (cI, 4, .inl R))]) (w1 := [(h0, .inr (0, [.ref kw, .int kb, .int (nI 1), .ref sc, .ref so, .ref tp, .int (nI (4 * nb)), .ref ct, .ref sr])), (sc, .inl (cI, 140, .inl F)), (so, .inl (cI, 4, .inl S)), (tp, .inl (cI, 256, .inl (cUn F S f nb nb)))]) (w2 := [(h0, .inr (0, [.ref kw, .int kb, .int (nI 1), .ref sc, .ref so, .ref tp, .int (nI (4 * nb)), .ref ct, .ref sr])), (sc, .inl (cI, 140, .inl F)), (so, .inl (cI, 4, .inl S)), (tp, .inl (cI, 256, .inl (cUn F S f nb nb))), (ct, .inl (cI, 4, .inl C)), (sr, .inl (cI, 4, .inl R))]) (ci := 0) (q0 := 0) ⟨hx, hb, hml, hown, hts⟩ (c_X0_unchainTape l D cI tb _ h0 kw sc so tp ct sr kb (nI 1) nb F S f hnb) (cwV 0 hts gX0_run_X0_unchainTape rfl rfl rfl (by decide +kernel) ⟨Nat.le_of_ble_eq_true rfl, Nat.le_of_ble_eq_true rfl⟩) (fun U g mk a h => bxs.call g mk a h) (fun hF U hU hW => hbx.give hS hF hU hW) hK hP hD hS hA rfl rfl [0, 1, 2, 3] [4, 5] rfl (by decide) rfl (by decide) (by decide) [2, 3, 4, 5, 0, 1] rfl (by decide) rfl hl.1 rfl (Nat.le_of_ble_eq_true rfl) dX0_run_49 ⟨Nat.zero_le _, Nat.zero_le _⟩ (fun H locs hP hD hS => ?_)
  refine lv_goto (tgt := 67) hx hb dX0_run_52 (by decide) ?_
  refine lv_aload_n hx hb dX0_run_67 rfl (lv_at hl 0 rfl) ?_
  refine va_get (D := D) (ci := 0) (v := .int (nI (4 * nb))) (C := RX0) (T := TX0) (N := 9) hx hb hts hinX0 hown hK hP 0 rfl rfl 6 (by decide) (hts (.fieldLink RX0 36 "SlicedCipher" "tapeLength" "I") (by decide +kernel)) (fun _ h9 => h9) rfl dX0_run_68 ?_
  refine lv_iconst (v := nI 4) hx hb dX0_run_71 (by decide) ?_
  refine wk_idivN hx hb (a := 4 * nb) (b := 4) (by omega) (by decide) (by decide) dX0_run_72 ?_
  exact W.iret (v := nI ((4 * nb) / 4)) hx hb hr (fun t ht hW => ⟨⟨_, (fun _ _ => 0), rfl, by rw [show 4 * nb / 4 = nb from by omega], by rw [ht]; exact hP, va_K.moved hW.alike hK, hD⟩, hS.F ht⟩) hS.2.2 dX0_run_73
set_option maxHeartbeats 4000000 in
set_option maxRecDepth 100000 in
theorem c_X0_run2 (l : Launch) (D : va_G) (cI : ClassId) (tb : Nat) (sz : Nat) (h0 kw sc so tp ct sr : Nat) (kb : Int32) (nb : Nat) (bb : Int32) (F S f C R : Nat → Int32) (hnb : nb ≤ 64) : Met l yX0_run wsX0_run ({ frames := 5, cells := 0, slots := 0, locals := 122 }) (va_Pc [.ref h0, .int (nI 2), .int bb] (fun U => PW D [(cI, .int)] [(h0, .inr (0, [.ref kw, .int kb, .int (nI 1), .ref sc, .ref so, .ref tp, .int (nI (4 * nb)), .ref ct, .ref sr])), (sc, .inl (cI, 140, .inl F)), (so, .inl (cI, 4, .inl S)), (tp, .inl (cI, 256, .inl f)), (ct, .inl (cI, 4, .inl C)), (sr, .inl (cI, 4, .inl R))] sz U ∧ bxs tb (va_A [(h0, .inr (0, [.ref kw, .int kb, .int (nI 1), .ref sc, .ref so, .ref tp, .int (nI (4 * nb)), .ref ct, .ref sr])), (sc, .inl (cI, 140, .inl F)), (so, .inl (cI, 4, .inl S)), (tp, .inl (cI, 256, .inl f)), (ct, .inl (cI, 4, .inl C)), (sr, .inl (cI, 4, .inl R))] sz) U U.heap)) (va_Qi (fun r9 (u : Nat → Nat → Int32) => r9 = nI nb) (fun u => BW D [(cI, .int)] (va_A [(h0, .inr (0, [.ref kw, .int kb, .int (nI 1), .ref sc, .ref so, .ref tp, .int (nI (4 * nb)), .ref ct, .ref sr])), (sc, .inl (cI, 140, .inl F)), (so, .inl (cI, 4, .inl S)), (tp, .inl (cI, 256, .inl f)), (ct, .inl (cI, 4, .inl C)), (sr, .inl (cI, 4, .inl R))] sz) [(h0, .inr (0, [.ref kw, .int kb, .int (nI 1), .ref sc, .ref so, .ref tp, .int (nI (4 * nb)), .ref ct, .ref sr])), (sc, .inl (cI, 140, .inl F)), (so, .inl (cI, 4, .inl S)), (tp, .inl (cI, 256, .inl (cMT F (va_cpy S C 0 0 4) f nb))), (ct, .inl (cI, 4, .inl (cCnt (va_cpy S C 0 0 4) nb))), (sr, .inl (cI, 4, .inl (cMR F (va_cpy S C 0 0 4) R nb)))]) (va_A [(h0, .inr (0, [.ref kw, .int kb, .int (nI 1), .ref sc, .ref so, .ref tp, .int (nI (4 * nb)), .ref ct, .ref sr])), (sc, .inl (cI, 140, .inl F)), (so, .inl (cI, 4, .inl S)), (tp, .inl (cI, 256, .inl f)), (ct, .inl (cI, 4, .inl C)), (sr, .inl (cI, 4, .inl R))] sz)) 0 0 (va_A [(h0, .inr (0, [.ref kw, .int kb, .int (nI 1), .ref sc, .ref so, .ref tp, .int (nI (4 * nb)), .ref ct, .ref sr])), (sc, .inl (cI, 140, .inl F)), (so, .inl (cI, 4, .inl S)), (tp, .inl (cI, 256, .inl f)), (ct, .inl (cI, 4, .inl C)), (sr, .inl (cI, 4, .inl R))] sz) := by
  refine Met.ofW (cc := cX0_run) (maxL := 3) (ret := (some .int)) (by decide) rfl ?_
  intro p e s m args below meth c s₁ B hml hv
  obtain ⟨rfl, ⟨hsz, hP, hK, hD0⟩, hbx⟩ := hv
  have hx := B.exec
  have hb := B.bytes
  have hr := B.returns
  have hts := atoms_spec (ws := wsX0_run) B.pre
  have hown : s.vm.findClass RX0 = some m.cls := findClass_of_methodNamed B.named
  have hlocks := B.notSynchronized
  subst hsz
  have hD := hD0.self (sz := s.heap.size)
  have hinX0 := in_X0_run
  generalize hAe : va_A [(h0, .inr (0, [.ref kw, .int kb, .int (nI 1), .ref sc, .ref so, .ref tp, .int (nI (4 * nb)), .ref ct, .ref sr])), (sc, .inl (cI, 140, .inl F)), (so, .inl (cI, 4, .inl S)), (tp, .inl (cI, 256, .inl f)), (ct, .inl (cI, 4, .inl C)), (sr, .inl (cI, 4, .inl R))] s.heap.size = A at hbx hD ⊢
  have hA : ∀ q : Nat, s.heap.size ≤ q → A q := fun q h => by rw [← hAe]; exact Or.inr h
  have hS : va_S A s.heap s.heap [] := va_S.rf
  have hl := lv_entry ([.ref h0, .int (nI 2), .int bb]) (n := 3) (Nat.le_of_ble_eq_true rfl)
  rw [lg_entry_eq]
  generalize (lg_sl ([.ref h0, .int (nI 2), .int bb]) ++ List.replicate (3 - (lg_sl ([.ref h0, .int (nI 2), .int bb])).length) Slot.unset).toArray = ls at hl ⊢
  have hl : lv_has ls 3 [(0, .ref h0), (1, .int (nI 2)), (2, .int bb)] := hl
  refine lv_iload_n hx hb dX0_run_0 rfl (lv_at hl 1 rfl) ?_
  refine lv_if_lt (tgt := 9) hx hb dX0_run_1 (by decide) (fun c1 => absurd c1 (nI_pos (by omega))) (fun c1 => ?_)
  refine lv_iload_n hx hb dX0_run_4 rfl (lv_at hl 1 rfl) ?_
  refine lv_iconst (v := nI 2) hx hb dX0_run_5 (by decide) ?_
  refine wk_leN (tgt := 19) hx hb (a := 2) (b := 2) (by decide) (by decide) dX0_run_6 (by decide) (fun c6 => ?_) (fun c6 => absurd c6 (by omega))
  refine lv_aload_n hx hb dX0_run_19 rfl (lv_at hl 0 rfl) ?_
  refine wk_Vv (b := h0) (As := []) (rest := []) (wc := [(h0, .inr (0, [.ref kw, .int kb, .int (nI 1), .ref sc, .ref so, .ref tp, .int (nI (4 * nb)), .ref ct, .ref sr]))]) (wr := [(sc, .inl (cI, 140, .inl F)), (so, .inl (cI, 4, .inl S)), (tp, .inl (cI, 256, .inl f)), (ct, .inl (cI, 4, .inl C)), (sr, .inl (cI, 4, .inl R))]) (w1 := [(h0, .inr (0, [.ref kw, .int kb, .int (nI 1), .ref sc, .ref so, .ref tp, .int (nI (4 * nb)), .ref ct, .ref sr]))]) (w2 := [(h0, .inr (0, [.ref kw, .int kb, .int (nI 1), .ref sc, .ref so, .ref tp, .int (nI (4 * nb)), .ref ct, .ref sr])), (sc, .inl (cI, 140, .inl F)), (so, .inl (cI, 4, .inl S)), (tp, .inl (cI, 256, .inl f)), (ct, .inl (cI, 4, .inl C)), (sr, .inl (cI, 4, .inl R))]) (ci := 0) (q0 := 0) ⟨hx, hb, hml, hown, hts⟩ (c_X0_needReadyKey1 l D cI _ h0 kw sc so tp ct sr kb (nI (4 * nb))) (cwV 0 hts gX0_run_X0_needReadyKey rfl rfl rfl (by decide +kernel) ⟨Nat.le_of_ble_eq_true rfl, Nat.le_of_ble_eq_true rfl⟩) (fun _ _ _ _ h => h) (fun _ _ _ _ => trivial) hK hP hD hS hA rfl rfl [0] [1, 2, 3, 4, 5] rfl (by decide) rfl (by decide) (by decide) [5, 0, 1, 2, 3, 4] rfl (by decide) rfl hl.1 rfl (Nat.le_of_ble_eq_true rfl) dX0_run_20 ⟨Nat.zero_le _, Nat.zero_le _⟩ (fun H locs hP hD hS => ?_)
  refine lv_aload_n hx hb dX0_run_23 rfl (lv_at hl 0 rfl) ?_
  refine wk_Vv (b := h0) (As := []) (rest := []) (wc := [(h0, .inr (0, [.ref kw, .int kb, .int (nI 1), .ref sc, .ref so, .ref tp, .int (nI (4 * nb)), .ref ct, .ref sr]))]) (wr := [(sc, .inl (cI, 140, .inl F)), (so, .inl (cI, 4, .inl S)), (tp, .inl (cI, 256, .inl f)), (ct, .inl (cI, 4, .inl C)), (sr, .inl (cI, 4, .inl R))]) (w1 := [(h0, .inr (0, [.ref kw, .int kb, .int (nI 1), .ref sc, .ref so, .ref tp, .int (nI (4 * nb)), .ref ct, .ref sr]))]) (w2 := [(h0, .inr (0, [.ref kw, .int kb, .int (nI 1), .ref sc, .ref so, .ref tp, .int (nI (4 * nb)), .ref ct, .ref sr])), (sc, .inl (cI, 140, .inl F)), (so, .inl (cI, 4, .inl S)), (tp, .inl (cI, 256, .inl f)), (ct, .inl (cI, 4, .inl C)), (sr, .inl (cI, 4, .inl R))]) (ci := 0) (q0 := 0) ⟨hx, hb, hml, hown, hts⟩ (c_X0_needWholeBlocks1 l D cI _ h0 kw sc so tp ct sr kb (nI 1) nb hnb) (cwV 0 hts gX0_run_X0_needWholeBlocks rfl rfl rfl (by decide +kernel) ⟨Nat.le_of_ble_eq_true rfl, Nat.le_of_ble_eq_true rfl⟩) (fun _ _ _ _ h => h) (fun _ _ _ _ => trivial) hK hP hD hS hA rfl rfl [0] [1, 2, 3, 4, 5] rfl (by decide) rfl (by decide) (by decide) [5, 0, 1, 2, 3, 4] rfl (by decide) rfl hl.1 rfl (Nat.le_of_ble_eq_true rfl) dX0_run_24 ⟨Nat.zero_le _, Nat.zero_le _⟩ (fun H locs hP hD hS => ?_)
  refine lv_iload_n hx hb dX0_run_27 rfl (lv_at hl 1 rfl) ?_
  refine lv_iconst (v := nI 2) hx hb dX0_run_28 (by decide) ?_
  refine wk_neN (tgt := 39) hx hb (a := 2) (b := 2) (by decide) (by decide) dX0_run_29 (by decide) (fun c29 => absurd c29 (fun h => h rfl)) (fun c29 => ?_)
  refine lv_aload_n hx hb dX0_run_32 rfl (lv_at hl 0 rfl) ?_
  refine wk_Vv (b := h0) (As := []) (rest := []) (wc := [(h0, .inr (0, [.ref kw, .int kb, .int (nI 1), .ref sc, .ref so, .ref tp, .int (nI (4 * nb)), .ref ct, .ref sr])), (sc, .inl (cI, 140, .inl F)), (so, .inl (cI, 4, .inl S)), (tp, .inl (cI, 256, .inl f)), (ct, .inl (cI, 4, .inl C)), (sr, .inl (cI, 4, .inl R))]) (wr := []) (w1 := [(h0, .inr (0, [.ref kw, .int kb, .int (nI 1), .ref sc, .ref so, .ref tp, .int (nI (4 * nb)), .ref ct, .ref sr])), (sc, .inl (cI, 140, .inl F)), (so, .inl (cI, 4, .inl S)), (tp, .inl (cI, 256, .inl (cMT F (va_cpy S C 0 0 4) f nb))), (ct, .inl (cI, 4, .inl (cCnt (va_cpy S C 0 0 4) nb))), (sr, .inl (cI, 4, .inl (cMR F (va_cpy S C 0 0 4) R nb)))]) (w2 := [(h0, .inr (0, [.ref kw, .int kb, .int (nI 1), .ref sc, .ref so, .ref tp, .int (nI (4 * nb)), .ref ct, .ref sr])), (sc, .inl (cI, 140, .inl F)), (so, .inl (cI, 4, .inl S)), (tp, .inl (cI, 256, .inl (cMT F (va_cpy S C 0 0 4) f nb))), (ct, .inl (cI, 4, .inl (cCnt (va_cpy S C 0 0 4) nb))), (sr, .inl (cI, 4, .inl (cMR F (va_cpy S C 0 0 4) R nb)))]) (ci := 0) (q0 := 0) ⟨hx, hb, hml, hown, hts⟩ (c_X0_maskByCounter l D cI tb _ h0 kw sc so tp ct sr kb (nI 1) nb F S f C R hnb) (cwV 0 hts gX0_run_X0_maskByCounter rfl rfl rfl (by decide +kernel) ⟨Nat.le_of_ble_eq_true rfl, Nat.le_of_ble_eq_true rfl⟩) (fun U g mk a h => bxs.call g mk a h) (fun hF U hU hW => hbx.give hS hF hU hW) hK hP hD hS hA rfl rfl [0, 1, 2, 3, 4, 5] [] rfl (by decide) rfl (by decide) (by decide) [0, 1, 2, 3, 4, 5] rfl (by decide) rfl hl.1 rfl (Nat.le_of_ble_eq_true rfl) dX0_run_33 ⟨Nat.zero_le _, Nat.zero_le _⟩ (fun H locs hP hD hS => ?_)
  refine lv_goto (tgt := 67) hx hb dX0_run_36 (by decide) ?_
  refine lv_aload_n hx hb dX0_run_67 rfl (lv_at hl 0 rfl) ?_
  refine va_get (D := D) (ci := 0) (v := .int (nI (4 * nb))) (C := RX0) (T := TX0) (N := 9) hx hb hts hinX0 hown hK hP 0 rfl rfl 6 (by decide) (hts (.fieldLink RX0 36 "SlicedCipher" "tapeLength" "I") (by decide +kernel)) (fun _ h9 => h9) rfl dX0_run_68 ?_
  refine lv_iconst (v := nI 4) hx hb dX0_run_71 (by decide) ?_
  refine wk_idivN hx hb (a := 4 * nb) (b := 4) (by omega) (by decide) (by decide) dX0_run_72 ?_
  exact W.iret (v := nI ((4 * nb) / 4)) hx hb hr (fun t ht hW => ⟨⟨_, (fun _ _ => 0), rfl, by rw [show 4 * nb / 4 = nb from by omega], by rw [ht]; exact hP, va_K.moved hW.alike hK, hD⟩, hS.F ht⟩) hS.2.2 dX0_run_73
set_option maxRecDepth 100000 in
theorem in_X0_seal : ∀ w ∈ wsX00, w ∈ wsX0_seal := by decide +kernel
set_option maxHeartbeats 4000000 in
set_option maxRecDepth 100000 in
theorem c_X0_seal1 (l : Launch) (D : va_G) (cI : ClassId) (tb : Nat) (sz : Nat) (h0 kw sc so tp ct sr : Nat) (kb : Int32) (nb : Nat) (q : Nat) (F f R : Nat → Int32) (hnb : nb ≤ 64) (hq : q < 4) : Met l yX0_seal wsX0_seal ({ frames := 4, cells := 0, slots := 0, locals := 100 }) (va_Pc [.ref h0, .int (nI q)] (fun U => PW D [(cI, .int)] [(h0, .inr (0, [.ref kw, .int kb, .int (nI 1), .ref sc, .ref so, .ref tp, .int (nI (4 * nb)), .ref ct, .ref sr])), (sc, .inl (cI, 140, .inl F)), (tp, .inl (cI, 256, .inl f)), (sr, .inl (cI, 4, .inl R))] sz U ∧ bxs tb (va_A [(h0, .inr (0, [.ref kw, .int kb, .int (nI 1), .ref sc, .ref so, .ref tp, .int (nI (4 * nb)), .ref ct, .ref sr])), (sc, .inl (cI, 140, .inl F)), (tp, .inl (cI, 256, .inl f)), (sr, .inl (cI, 4, .inl R))] sz) U U.heap)) (va_Qi (fun r9 (u : Nat → Nat → Int32) => r9 = qs (slQ F f nb) q) (fun u => BW D [(cI, .int)] (va_A [(h0, .inr (0, [.ref kw, .int kb, .int (nI 1), .ref sc, .ref so, .ref tp, .int (nI (4 * nb)), .ref ct, .ref sr])), (sc, .inl (cI, 140, .inl F)), (tp, .inl (cI, 256, .inl f)), (sr, .inl (cI, 4, .inl R))] sz) [(h0, .inr (0, [.ref kw, .int kb, .int (nI 1), .ref sc, .ref so, .ref tp, .int (nI (4 * nb)), .ref ct, .ref sr])), (sc, .inl (cI, 140, .inl F)), (tp, .inl (cI, 256, .inl f)), (sr, .inl (cI, 4, .inl (u 0)))]) (va_A [(h0, .inr (0, [.ref kw, .int kb, .int (nI 1), .ref sc, .ref so, .ref tp, .int (nI (4 * nb)), .ref ct, .ref sr])), (sc, .inl (cI, 140, .inl F)), (tp, .inl (cI, 256, .inl f)), (sr, .inl (cI, 4, .inl R))] sz)) 0 0 (va_A [(h0, .inr (0, [.ref kw, .int kb, .int (nI 1), .ref sc, .ref so, .ref tp, .int (nI (4 * nb)), .ref ct, .ref sr])), (sc, .inl (cI, 140, .inl F)), (tp, .inl (cI, 256, .inl f)), (sr, .inl (cI, 4, .inl R))] sz) := by
  refine Met.ofW (cc := cX0_seal) (maxL := 3) (ret := (some .int)) (by decide) rfl ?_
  intro p e s m args below meth c s₁ B hml hv
  obtain ⟨rfl, ⟨hsz, hP, hK, hD0⟩, hbx⟩ := hv
  have hx := B.exec
  have hb := B.bytes
  have hr := B.returns
  have hts := atoms_spec (ws := wsX0_seal) B.pre
  have hown : s.vm.findClass RX0 = some m.cls := findClass_of_methodNamed B.named
  have hlocks := B.notSynchronized
  subst hsz
  have hD := hD0.self (sz := s.heap.size)
  have hinX0 := in_X0_seal
  generalize hAe : va_A [(h0, .inr (0, [.ref kw, .int kb, .int (nI 1), .ref sc, .ref so, .ref tp, .int (nI (4 * nb)), .ref ct, .ref sr])), (sc, .inl (cI, 140, .inl F)), (tp, .inl (cI, 256, .inl f)), (sr, .inl (cI, 4, .inl R))] s.heap.size = A at hbx hD ⊢
  have hA : ∀ q : Nat, s.heap.size ≤ q → A q := fun q h => by rw [← hAe]; exact Or.inr h
  have hS : va_S A s.heap s.heap [] := va_S.rf
  have hl := lv_entry ([.ref h0, .int (nI q)]) (n := 3) (Nat.le_of_ble_eq_true rfl)
  rw [lg_entry_eq]
  generalize (lg_sl ([.ref h0, .int (nI q)]) ++ List.replicate (3 - (lg_sl ([.ref h0, .int (nI q)])).length) Slot.unset).toArray = ls at hl ⊢
  have hl : lv_has ls 3 [(0, .ref h0), (1, .int (nI q))] := hl
  have lpm : ∀ (fu : Nat) (k : Nat) (R : Nat → Int32), k ≤ nb → ld4 R 0 = slQ F f k → nb + 1 ≤ k + fu → ∀ (H : Heap) (locs : List Loc), va_P D vwCl [(h0, .inr (0, [.ref kw, .int kb, .int (nI 1), .ref sc, .ref so, .ref tp, .int (nI (4 * nb)), .ref ct, .ref sr])), (sc, .inl (cI, 140, .inl F)), (tp, .inl (cI, 256, .inl f)), (sr, .inl (cI, 4, .inl R))] H → va_D A [(h0, .inr (0, [.ref kw, .int kb, .int (nI 1), .ref sc, .ref so, .ref tp, .int (nI (4 * nb)), .ref ct, .ref sr])), (sc, .inl (cI, 140, .inl F)), (tp, .inl (cI, 256, .inl f)), (sr, .inl (cI, 4, .inl R))] → va_S A s.heap H locs → ∀ (ls : Array Slot), lv_has ls 3 [(0, .ref h0), (1, .int (nI q)), (2, .int (nI (4 * k)))] → W p l e ((headSpec wsX0_seal ({ frames := 4, cells := 0, slots := 0, locals := 100 })).room) s m ([.ref h0, .int (nI q)] : List Value).toArray below meth c H locs 0 0 (MQ below (va_Qi (fun r9 (u : Nat → Nat → Int32) => r9 = qs (slQ F f nb) q) (fun u => BW D [(cI, .int)] A [(h0, .inr (0, [.ref kw, .int kb, .int (nI 1), .ref sc, .ref so, .ref tp, .int (nI (4 * nb)), .ref ct, .ref sr])), (sc, .inl (cI, 140, .inl F)), (tp, .inl (cI, 256, .inl f)), (sr, .inl (cI, 4, .inl (u 0)))]) A) ([.ref h0, .int (nI q)] : List Value).toArray s 0 0 (A)) (F0 m 49 ls []) := by
    intro fu
    induction fu with
      | zero => intro k R hik hz hfk; exact absurd hfk (by omega)
      | succ fu ih =>
        intro k R hik hz hfk H locs hP hD hS ls hl
        refine lv_iload_n hx hb dX0_seal_49 rfl (lv_at hl 2 rfl) ?_
        refine lv_aload_n hx hb dX0_seal_50 rfl (lv_at hl 0 rfl) ?_
        refine va_get (D := D) (ci := 0) (v := .int (nI (4 * nb))) (C := RX0) (T := TX0) (N := 9) hx hb hts hinX0 hown hK hP 0 rfl rfl 6 (by decide) (hts (.fieldLink RX0 36 "SlicedCipher" "tapeLength" "I") (by decide +kernel)) (fun _ h9 => h9) rfl dX0_seal_51 ?_
        refine wk_geN (tgt := 85) hx hb (a := 4 * k) (b := 4 * nb) (by omega) (by omega) dX0_seal_54 (by decide) (fun c54 => ?_) (fun c54 => ?_)
        · obtain rfl : nb = k := by omega
          refine lv_aload_n hx hb dX0_seal_85 rfl (lv_at hl 0 rfl) ?_
          refine va_get (D := D) (ci := 0) (v := .ref sr) (C := RX0) (T := TX0) (N := 9) hx hb hts hinX0 hown hK hP 0 rfl rfl 8 (by decide) (hts (.fieldLink RX0 25 "SlicedCipher" "scratch" "[I") (by decide +kernel)) (fun _ h9 => h9) rfl dX0_seal_86 ?_
          refine lv_iload_n hx hb dX0_seal_89 rfl (lv_at hl 1 rfl) ?_
          refine wk_iald hx hb hK hP 3 0 rfl rfl (k := q) (by omega) (by decide) dX0_seal_90 ?_
          exact W.iret (v := R q) hx hb hr (fun t ht hW => ⟨⟨_, (fun _ => R), rfl, by rw [← hz, qs_ld4 R hq], by rw [ht]; exact hP, va_K.moved hW.alike hK, hD⟩, hS.F ht⟩) hS.2.2 dX0_seal_91
        · refine lv_aload_n hx hb dX0_seal_57 rfl (lv_at hl 0 rfl) ?_
          refine va_get (D := D) (ci := 0) (v := .ref sr) (C := RX0) (T := TX0) (N := 9) hx hb hts hinX0 hown hK hP 0 rfl rfl 8 (by decide) (hts (.fieldLink RX0 25 "SlicedCipher" "scratch" "[I") (by decide +kernel)) (fun _ h9 => h9) rfl dX0_seal_58 ?_
          refine lv_iconst (v := nI 0) hx hb dX0_seal_61 (by decide) ?_
          refine lv_aload_n hx hb dX0_seal_62 rfl (lv_at hl 0 rfl) ?_
          refine va_get (D := D) (ci := 0) (v := .ref tp) (C := RX0) (T := TX0) (N := 9) hx hb hts hinX0 hown hK hP 0 rfl rfl 5 (by decide) (hts (.fieldLink RX0 19 "SlicedCipher" "tape" "[I") (by decide +kernel)) (fun _ h9 => h9) rfl dX0_seal_63 ?_
          refine lv_iload_n hx hb dX0_seal_66 rfl (lv_at hl 2 rfl) ?_
          refine wk_Sv (As := [.ref sr, .int (nI 0), .ref tp, .int (nI (4 * k))]) (rest := []) (wc := [(sr, .inl (cI, 4, .inl R)), (tp, .inl (cI, 256, .inl f))]) (wr := [(h0, .inr (0, [.ref kw, .int kb, .int (nI 1), .ref sc, .ref so, .ref tp, .int (nI (4 * nb)), .ref ct, .ref sr])), (sc, .inl (cI, 140, .inl F))]) (w1 := [(sr, .inl (cI, 4, .inl (xbF R 0 f (4 * k) 4))), (tp, .inl (cI, 256, .inl f))]) (w2 := [(h0, .inr (0, [.ref kw, .int kb, .int (nI 1), .ref sc, .ref so, .ref tp, .int (nI (4 * nb)), .ref ct, .ref sr])), (sc, .inl (cI, 140, .inl F)), (tp, .inl (cI, 256, .inl f)), (sr, .inl (cI, 4, .inl (xbF R 0 f (4 * k) 4)))]) ⟨hx, hb, hml, hown, hts⟩ (c_X0_xorBlock l D cI _ sr 0 tp (4 * k) 4 256 R f (by decide) (by omega) (by decide) (by decide)) (va_cwS 4 hts gX0_seal_X0_xorBlock rfl rfl rfl (by decide +kernel) ⟨Nat.le_of_ble_eq_true rfl, Nat.le_of_ble_eq_true rfl⟩) (fun _ _ _ _ h => h) (fun _ _ _ _ => trivial) hK hP hD hS hA [3, 2] [0, 1] rfl (by decide) rfl (by decide) (by decide) [0, 1, 3, 2] rfl (by decide) rfl hl.1 rfl (Nat.le_of_ble_eq_true rfl) dX0_seal_67 ⟨Nat.zero_le _, Nat.zero_le _⟩ (fun H locs hP hD hS => ?_)
          rw [xb_eq, x4_comm] at hP hD
          have hP : va_P D vwCl [(h0, .inr (0, [.ref kw, .int kb, .int (nI 1), .ref sc, .ref so, .ref tp, .int (nI (4 * nb)), .ref ct, .ref sr])), (sc, .inl (cI, 140, .inl F)), (tp, .inl (cI, 256, .inl f)), (sr, .inl (cI, 4, .inl (st4 R 0 (x4 (ld4 f (4 * k)) (ld4 R 0)))))] H := hP
          have hD : va_D A [(h0, .inr (0, [.ref kw, .int kb, .int (nI 1), .ref sc, .ref so, .ref tp, .int (nI (4 * nb)), .ref ct, .ref sr])), (sc, .inl (cI, 140, .inl F)), (tp, .inl (cI, 256, .inl f)), (sr, .inl (cI, 4, .inl (st4 R 0 (x4 (ld4 f (4 * k)) (ld4 R 0)))))] := hD
          refine lv_aload_n hx hb dX0_seal_70 rfl (lv_at hl 0 rfl) ?_
          refine lv_aload_n hx hb dX0_seal_71 rfl (lv_at hl 0 rfl) ?_
          refine va_get (D := D) (ci := 0) (v := .ref sr) (C := RX0) (T := TX0) (N := 9) hx hb hts hinX0 hown hK hP 0 rfl rfl 8 (by decide) (hts (.fieldLink RX0 25 "SlicedCipher" "scratch" "[I") (by decide +kernel)) (fun _ h9 => h9) rfl dX0_seal_72 ?_
          refine lv_iconst (v := nI 0) hx hb dX0_seal_75 (by decide) ?_
          refine wk_Vv (b := h0) (As := [.ref sr, .int (nI 0)]) (rest := []) (wc := [(h0, .inr (0, [.ref kw, .int kb, .int (nI 1), .ref sc, .ref so, .ref tp, .int (nI (4 * nb)), .ref ct, .ref sr])), (sc, .inl (cI, 140, .inl F)), (sr, .inl (cI, 4, .inl (st4 R 0 (x4 (ld4 f (4 * k)) (ld4 R 0)))))]) (wr := [(tp, .inl (cI, 256, .inl f))]) (w1 := [(h0, .inr (0, [.ref kw, .int kb, .int (nI 1), .ref sc, .ref so, .ref tp, .int (nI (4 * nb)), .ref ct, .ref sr])), (sc, .inl (cI, 140, .inl F)), (sr, .inl (cI, 4, .inl (st4 (st4 R 0 (x4 (ld4 f (4 * k)) (ld4 R 0))) 0 (cEnc F (ld4 (st4 R 0 (x4 (ld4 f (4 * k)) (ld4 R 0))) 0)))))]) (w2 := [(h0, .inr (0, [.ref kw, .int kb, .int (nI 1), .ref sc, .ref so, .ref tp, .int (nI (4 * nb)), .ref ct, .ref sr])), (sc, .inl (cI, 140, .inl F)), (tp, .inl (cI, 256, .inl f)), (sr, .inl (cI, 4, .inl (st4 (st4 R 0 (x4 (ld4 f (4 * k)) (ld4 R 0))) 0 (cEnc F (ld4 (st4 R 0 (x4 (ld4 f (4 * k)) (ld4 R 0))) 0)))))]) (ci := 0) (q0 := 0) ⟨hx, hb, hml, hown, hts⟩ (c_X0_encipher l D cI tb _ h0 kw sc so tp ct sr kb (nI 1) (nI (4 * nb)) sr 0 4 F (st4 R 0 (x4 (ld4 f (4 * k)) (ld4 R 0))) (by decide) (by decide)) (cwV 2 hts gX0_seal_X0_encipher rfl rfl rfl (by decide +kernel) ⟨Nat.le_of_ble_eq_true rfl, Nat.le_of_ble_eq_true rfl⟩) (fun U g mk a h => bxs.call g mk a h) (fun hF U hU hW => hbx.give hS hF hU hW) hK hP hD hS hA rfl rfl [0, 1, 3] [2] rfl (by decide) rfl (by decide) (by decide) [1, 2, 0, 3] rfl (by decide) rfl hl.1 rfl (Nat.le_of_ble_eq_true rfl) dX0_seal_76 ⟨Nat.zero_le _, Nat.zero_le _⟩ (fun H locs hP hD hS => ?_)
          simp only [ld4_st4, st4_st4] at hP hD
          have hP : va_P D vwCl [(h0, .inr (0, [.ref kw, .int kb, .int (nI 1), .ref sc, .ref so, .ref tp, .int (nI (4 * nb)), .ref ct, .ref sr])), (sc, .inl (cI, 140, .inl F)), (tp, .inl (cI, 256, .inl f)), (sr, .inl (cI, 4, .inl (st4 R 0 (cEnc F (x4 (ld4 f (4 * k)) (ld4 R 0))))))] H := hP
          have hD : va_D A [(h0, .inr (0, [.ref kw, .int kb, .int (nI 1), .ref sc, .ref so, .ref tp, .int (nI (4 * nb)), .ref ct, .ref sr])), (sc, .inl (cI, 140, .inl F)), (tp, .inl (cI, 256, .inl f)), (sr, .inl (cI, 4, .inl (st4 R 0 (cEnc F (x4 (ld4 f (4 * k)) (ld4 R 0))))))] := hD
          refine lv_iinc (v := nI (4 * k + 4)) (lv' := [(2, .int (nI (4 * k + 4))), (0, .ref h0), (1, .int (nI q))]) hx hb dX0_seal_79 hl (k := 2) rfl (wk_inc (4 * k) (by decide)) (by decide) rfl (fun ls hl => ?_)
          refine lv_goto (tgt := 49) hx hb dX0_seal_82 (by decide) ?_
          exact ih (k + 1) _ (by omega) (by rw [ld4_st4, hz]; rfl) (by omega) _ _ hP hD hS ls (lv_sub hl [1, 2, 0] rfl)
  refine lv_iload_n hx hb dX0_seal_0 rfl (lv_at hl 1 rfl) ?_
  refine lv_if_lt (tgt := 9) hx hb dX0_seal_1 (by decide) (fun c1 => absurd c1 (nI_pos (by omega))) (fun c1 => ?_)
  refine lv_iload_n hx hb dX0_seal_4 rfl (lv_at hl 1 rfl) ?_
  refine lv_iconst (v := nI 4) hx hb dX0_seal_5 (by decide) ?_
  refine wk_ltN (tgt := 19) hx hb (a := q) (b := 4) (by omega) (by decide) dX0_seal_6 (by decide) (fun c6 => ?_) (fun c6 => absurd c6 (by omega))
  refine lv_aload_n hx hb dX0_seal_19 rfl (lv_at hl 0 rfl) ?_
  refine wk_Vv (b := h0) (As := []) (rest := []) (wc := [(h0, .inr (0, [.ref kw, .int kb, .int (nI 1), .ref sc, .ref so, .ref tp, .int (nI (4 * nb)), .ref ct, .ref sr]))]) (wr := [(sc, .inl (cI, 140, .inl F)), (tp, .inl (cI, 256, .inl f)), (sr, .inl (cI, 4, .inl R))]) (w1 := [(h0, .inr (0, [.ref kw, .int kb, .int (nI 1), .ref sc, .ref so, .ref tp, .int (nI (4 * nb)), .ref ct, .ref sr]))]) (w2 := [(h0, .inr (0, [.ref kw, .int kb, .int (nI 1), .ref sc, .ref so, .ref tp, .int (nI (4 * nb)), .ref ct, .ref sr])), (sc, .inl (cI, 140, .inl F)), (tp, .inl (cI, 256, .inl f)), (sr, .inl (cI, 4, .inl R))]) (ci := 0) (q0 := 0) ⟨hx, hb, hml, hown, hts⟩ (c_X0_needReadyKey1 l D cI _ h0 kw sc so tp ct sr kb (nI (4 * nb))) (cwV 0 hts gX0_seal_X0_needReadyKey rfl rfl rfl (by decide +kernel) ⟨Nat.le_of_ble_eq_true rfl, Nat.le_of_ble_eq_true rfl⟩) (fun _ _ _ _ h => h) (fun _ _ _ _ => trivial) hK hP hD hS hA rfl rfl [0] [1, 2, 3] rfl (by decide) rfl (by decide) (by decide) [3, 0, 1, 2] rfl (by decide) rfl hl.1 rfl (Nat.le_of_ble_eq_true rfl) dX0_seal_20 ⟨Nat.zero_le _, Nat.zero_le _⟩ (fun H locs hP hD hS => ?_)
  refine lv_aload_n hx hb dX0_seal_23 rfl (lv_at hl 0 rfl) ?_
  refine wk_Vv (b := h0) (As := []) (rest := []) (wc := [(h0, .inr (0, [.ref kw, .int kb, .int (nI 1), .ref sc, .ref so, .ref tp, .int (nI (4 * nb)), .ref ct, .ref sr]))]) (wr := [(sc, .inl (cI, 140, .inl F)), (tp, .inl (cI, 256, .inl f)), (sr, .inl (cI, 4, .inl R))]) (w1 := [(h0, .inr (0, [.ref kw, .int kb, .int (nI 1), .ref sc, .ref so, .ref tp, .int (nI (4 * nb)), .ref ct, .ref sr]))]) (w2 := [(h0, .inr (0, [.ref kw, .int kb, .int (nI 1), .ref sc, .ref so, .ref tp, .int (nI (4 * nb)), .ref ct, .ref sr])), (sc, .inl (cI, 140, .inl F)), (tp, .inl (cI, 256, .inl f)), (sr, .inl (cI, 4, .inl R))]) (ci := 0) (q0 := 0) ⟨hx, hb, hml, hown, hts⟩ (c_X0_needWholeBlocks1 l D cI _ h0 kw sc so tp ct sr kb (nI 1) nb hnb) (cwV 0 hts gX0_seal_X0_needWholeBlocks rfl rfl rfl (by decide +kernel) ⟨Nat.le_of_ble_eq_true rfl, Nat.le_of_ble_eq_true rfl⟩) (fun _ _ _ _ h => h) (fun _ _ _ _ => trivial) hK hP hD hS hA rfl rfl [0] [1, 2, 3] rfl (by decide) rfl (by decide) (by decide) [3, 0, 1, 2] rfl (by decide) rfl hl.1 rfl (Nat.le_of_ble_eq_true rfl) dX0_seal_24 ⟨Nat.zero_le _, Nat.zero_le _⟩ (fun H locs hP hD hS => ?_)
  refine lv_iconst (v := nI 0) hx hb dX0_seal_27 (by decide) ?_
  refine lv_istore_n (lv' := [(2, .int (nI 0)), (0, .ref h0), (1, .int (nI q))]) hx hb dX0_seal_28 rfl hl (by decide) rfl (fun ls hl => ?_)
  have lpz : ∀ (fu : Nat) (j : Nat), j ≤ 4 → 4 + 1 ≤ j + fu → ∀ (H : Heap) (locs : List Loc), va_P D vwCl [(h0, .inr (0, [.ref kw, .int kb, .int (nI 1), .ref sc, .ref so, .ref tp, .int (nI (4 * nb)), .ref ct, .ref sr])), (sc, .inl (cI, 140, .inl F)), (tp, .inl (cI, 256, .inl f)), (sr, .inl (cI, 4, .inl (cp0 R j)))] H → va_D A [(h0, .inr (0, [.ref kw, .int kb, .int (nI 1), .ref sc, .ref so, .ref tp, .int (nI (4 * nb)), .ref ct, .ref sr])), (sc, .inl (cI, 140, .inl F)), (tp, .inl (cI, 256, .inl f)), (sr, .inl (cI, 4, .inl (cp0 R j)))] → va_S A s.heap H locs → ∀ (ls : Array Slot), lv_has ls 3 [(0, .ref h0), (1, .int (nI q)), (2, .int (nI j))] → W p l e ((headSpec wsX0_seal ({ frames := 4, cells := 0, slots := 0, locals := 100 })).room) s m ([.ref h0, .int (nI q)] : List Value).toArray below meth c H locs 0 0 (MQ below (va_Qi (fun r9 (u : Nat → Nat → Int32) => r9 = qs (slQ F f nb) q) (fun u => BW D [(cI, .int)] A [(h0, .inr (0, [.ref kw, .int kb, .int (nI 1), .ref sc, .ref so, .ref tp, .int (nI (4 * nb)), .ref ct, .ref sr])), (sc, .inl (cI, 140, .inl F)), (tp, .inl (cI, 256, .inl f)), (sr, .inl (cI, 4, .inl (u 0)))]) A) ([.ref h0, .int (nI q)] : List Value).toArray s 0 0 (A)) (F0 m 29 ls []) := by
    intro fu
    induction fu with
      | zero => intro j hij hfj; exact absurd hfj (by omega)
      | succ fu ih =>
        intro j hij hfj H locs hP hD hS ls hl
        refine lv_iload_n hx hb dX0_seal_29 rfl (lv_at hl 2 rfl) ?_
        refine lv_iconst (v := nI 4) hx hb dX0_seal_30 (by decide) ?_
        refine wk_geN (tgt := 47) hx hb (a := j) (b := 4) (by omega) (by decide) dX0_seal_31 (by decide) (fun c31 => ?_) (fun c31 => ?_)
        · obtain rfl : j = 4 := by omega
          rw [cp0_4] at hP hD
          refine lv_iconst (v := nI 0) hx hb dX0_seal_47 (by decide) ?_
          refine lv_istore_n (lv' := [(2, .int (nI 0)), (0, .ref h0), (1, .int (nI q))]) hx hb dX0_seal_48 rfl hl (by decide) rfl (fun ls hl => ?_)
          exact lpm (nb + 1) 0 _ (by omega) (ld4_st4 _ _ _) (by omega) _ _ hP hD hS ls (lv_sub hl [1, 2, 0] rfl)
        · refine lv_aload_n hx hb dX0_seal_34 rfl (lv_at hl 0 rfl) ?_
          refine va_get (D := D) (ci := 0) (v := .ref sr) (C := RX0) (T := TX0) (N := 9) hx hb hts hinX0 hown hK hP 0 rfl rfl 8 (by decide) (hts (.fieldLink RX0 25 "SlicedCipher" "scratch" "[I") (by decide +kernel)) (fun _ h9 => h9) rfl dX0_seal_35 ?_
          refine lv_iload_n hx hb dX0_seal_38 rfl (lv_at hl 2 rfl) ?_
          refine lv_iconst (v := nI 0) hx hb dX0_seal_39 (by decide) ?_
          refine wk_iast hx hb hK hP hD hS 3 0 rfl rfl (k := j) (x := nI 0) (by omega) (by decide) dX0_seal_40 (fun H locs hP hD hS => ?_)
          have hP : va_P D vwCl [(h0, .inr (0, [.ref kw, .int kb, .int (nI 1), .ref sc, .ref so, .ref tp, .int (nI (4 * nb)), .ref ct, .ref sr])), (sc, .inl (cI, 140, .inl F)), (tp, .inl (cI, 256, .inl f)), (sr, .inl (cI, 4, .inl (upd (cp0 R j) j (nI 0))))] H := hP
          have hD : va_D A [(h0, .inr (0, [.ref kw, .int kb, .int (nI 1), .ref sc, .ref so, .ref tp, .int (nI (4 * nb)), .ref ct, .ref sr])), (sc, .inl (cI, 140, .inl F)), (tp, .inl (cI, 256, .inl f)), (sr, .inl (cI, 4, .inl (upd (cp0 R j) j (nI 0))))] := hD
          refine lv_iinc (v := nI (j + 1)) (lv' := [(2, .int (nI (j + 1))), (0, .ref h0), (1, .int (nI q))]) hx hb dX0_seal_41 hl (k := 2) rfl (wk_inc j (by decide)) (by decide) rfl (fun ls hl => ?_)
          refine lv_goto (tgt := 29) hx hb dX0_seal_44 (by decide) ?_
          exact ih (j + 1) (by omega) (by omega) _ _ hP hD hS ls (lv_sub hl [1, 2, 0] rfl)
  exact lpz 5 0 (by omega) (by omega) _ _ hP hD hS ls (lv_sub hl [1, 2, 0] rfl)
