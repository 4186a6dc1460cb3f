set_option maxHeartbeats 4000000 in
set_option maxRecDepth 100000 in
theorem c_X0_key0a (l : Launch) (hlt : l.stackTraces = false) (D : va_G) (cI : ClassId) (sa : Nat) (h0 kw sc so tp ct sr : Nat) (kb kr tl : Int32) (i v : Int32) (sz : Nat) (hbad : i < nI 0) : vx_Met l yX0_key wsX0_key ({ frames := 6, cells := 1, slots := 6, locals := 82 }) (va_Pc [.ref h0, .int i, .int v] (fun U => PW D [(cI, .int)] [(h0, .inr (0, [.ref kw, .int kb, .int kr, .ref sc, .ref so, .ref tp, .int tl, .ref ct, .ref sr]))] sz U ∧ thw "java/lang/IndexOutOfBoundsException" 41 "no such word of the key" sa (va_A [(h0, .inr (0, [.ref kw, .int kb, .int kr, .ref sc, .ref so, .ref tp, .int tl, .ref ct, .ref sr]))] sz) U U.heap)) (va_Qv (fun _ : Unit => False) (fun _ _ => True) (va_A [(h0, .inr (0, [.ref kw, .int kb, .int kr, .ref sc, .ref so, .ref tp, .int tl, .ref ct, .ref sr]))] sz)) (vx_X (fun _ : Unit => True) (fun E _ t => E = "java/lang/IndexOutOfBoundsException" ∧ BW D [(cI, .int)] (va_A [(h0, .inr (0, [.ref kw, .int kb, .int kr, .ref sc, .ref so, .ref tp, .int tl, .ref ct, .ref sr]))] sz) [(h0, .inr (0, [.ref kw, .int kb, .int kr, .ref sc, .ref so, .ref tp, .int tl, .ref ct, .ref sr]))] t) (va_A [(h0, .inr (0, [.ref kw, .int kb, .int kr, .ref sc, .ref so, .ref tp, .int tl, .ref ct, .ref sr]))] sz)) 1 6 (va_A [(h0, .inr (0, [.ref kw, .int kb, .int kr, .ref sc, .ref so, .ref tp, .int tl, .ref ct, .ref sr]))] sz) := by
  refine vx_ofW (cc := cX0_key) (maxL := 3) (ret := none) (by decide) rfl ?_
  intro p e s m args below meth c s₁ B hml htab hv
  obtain ⟨rfl, ⟨hsz, hP, hK, hD0⟩, hth⟩ := hv
  have hx := B.exec
  have hb := B.bytes
  have hr := B.returns
  have hts := atoms_spec (ws := wsX0_key) B.pre
  have hown : s.vm.findClass RX0 = some m.cls := findClass_of_methodNamed B.named
  have hlocks := B.notSynchronized
  subst hsz
  have hD := hD0.self (sz := s.heap.size)
  have hinX0 := in_X0_key
  generalize hAe : va_A [(h0, .inr (0, [.ref kw, .int kb, .int kr, .ref sc, .ref so, .ref tp, .int tl, .ref ct, .ref sr]))] s.heap.size = A at hth hD ⊢
  have hA : ∀ q : Nat, s.heap.size ≤ q → A q := fun q h => by rw [← hAe]; exact Or.inr h
  have hS : va_S A s.heap s.heap [] := va_S.rf
  have hl := lv_entry ([.ref h0, .int i, .int v]) (n := 3) (Nat.le_of_ble_eq_true rfl)
  rw [lg_entry_eq]
  generalize (lg_sl ([.ref h0, .int i, .int v]) ++ List.replicate (3 - (lg_sl ([.ref h0, .int i, .int v])).length) Slot.unset).toArray = ls at hl ⊢
  have hl : lv_has ls 3 [(0, .ref h0), (1, .int i), (2, .int v)] := hl
  refine lv_iload_n hx hb dX0_key_0 rfl (lv_at hl 1 rfl) ?_
  refine lv_if_lt (tgt := 10) hx hb dX0_key_1 (by decide) (fun c1 => ?_) (fun c1 => absurd c1 (fun h => h hbad))
  exact vx_throwS (names := ["java/lang/RuntimeException", "java/lang/Exception"]) hx hb hlt hown (by decide +kernel) (by decide +kernel) (hts (.classLink RX0 39 "java/lang/IndexOutOfBoundsException") (by decide +kernel)) (hts (.initialized "java/lang/IndexOutOfBoundsException") (by decide +kernel)) hth.2.2.2.2.2.2 (vx_hat (L := vx_atS RX0 43 "java/lang/IndexOutOfBoundsException" ["java/lang/RuntimeException", "java/lang/Exception"]) (B := [.declares (Bundle.initS "java/lang/RuntimeException"), .declares (Bundle.initS "java/lang/Exception"), .declares (Bundle.initS Bundle.tN), .castable "java/lang/IndexOutOfBoundsException" "java/lang/IndexOutOfBoundsException"]) (fun w hw => hts w ((by decide +kernel : ∀ w ∈ (vx_atS RX0 43 "java/lang/IndexOutOfBoundsException" ["java/lang/RuntimeException", "java/lang/Exception"]).filter goodWord, w ∈ wsX0_key) w hw)) (by decide +kernel) (vx_c (va_Nw.use rfl hth.1) (vx_c (va_Nw.use rfl hth.2.1) (vx_c (va_Nw.use rfl hth.2.2.1) (vx_c (va_Nw.use rfl hth.2.2.2.1) vx_n))))) (by decide +kernel) hth.2.2.2.2.1 hth.2.2.2.2.2.1 hS (hl.1.trans hml.symm) dX0_key_10 dX0_key_13 dX0_key_14 dX0_key_16 dX0_key_19 (fun x hx9 => (htab x hx9).elim) (Nat.le_of_ble_eq_true rfl) (Nat.le_of_ble_eq_true rfl) (Nat.le_of_ble_eq_true rfl) (Nat.le_of_ble_eq_true rfl) hlocks (fun t hal hz hk => ⟨(), trivial, ⟨rfl, hP.kept (fun k q hq => hk _ (vx_lt hP hq)), va_K.moved hal hK, hD⟩, ⟨hz, fun q hq _ => hk q hq⟩⟩) (fun z hz => absurd hz List.not_mem_nil) (Nat.le_refl _) (Nat.le_refl _)
set_option maxHeartbeats 4000000 in
set_option maxRecDepth 100000 in
theorem c_X0_key0b (l : Launch) (hlt : l.stackTraces = false) (D : va_G) (cI : ClassId) (sa : Nat) (h0 kw sc so tp ct sr : Nat) (kb kr tl : Int32) (i v : Int32) (sz : Nat) (hbad : ¬ i < nI 0 ∧ ¬ i < nI 8) : vx_Met l yX0_key wsX0_key ({ frames := 6, cells := 1, slots := 6, locals := 82 }) (va_Pc [.ref h0, .int i, .int v] (fun U => PW D [(cI, .int)] [(h0, .inr (0, [.ref kw, .int kb, .int kr, .ref sc, .ref so, .ref tp, .int tl, .ref ct, .ref sr]))] sz U ∧ thw "java/lang/IndexOutOfBoundsException" 41 "no such word of the key" sa (va_A [(h0, .inr (0, [.ref kw, .int kb, .int kr, .ref sc, .ref so, .ref tp, .int tl, .ref ct, .ref sr]))] sz) U U.heap)) (va_Qv (fun _ : Unit => False) (fun _ _ => True) (va_A [(h0, .inr (0, [.ref kw, .int kb, .int kr, .ref sc, .ref so, .ref tp, .int tl, .ref ct, .ref sr]))] sz)) (vx_X (fun _ : Unit => True) (fun E _ t => E = "java/lang/IndexOutOfBoundsException" ∧ BW D [(cI, .int)] (va_A [(h0, .inr (0, [.ref kw, .int kb, .int kr, .ref sc, .ref so, .ref tp, .int tl, .ref ct, .ref sr]))] sz) [(h0, .inr (0, [.ref kw, .int kb, .int kr, .ref sc, .ref so, .ref tp, .int tl, .ref ct, .ref sr]))] t) (va_A [(h0, .inr (0, [.ref kw, .int kb, .int kr, .ref sc, .ref so, .ref tp, .int tl, .ref ct, .ref sr]))] sz)) 1 6 (va_A [(h0, .inr (0, [.ref kw, .int kb, .int kr, .ref sc, .ref so, .ref tp, .int tl, .ref ct, .ref sr]))] sz) := by
  refine vx_ofW (cc := cX0_key) (maxL := 3) (ret := none) (by decide) rfl ?_
  intro p e s m args below meth c s₁ B hml htab hv
  obtain ⟨rfl, ⟨hsz, hP, hK, hD0⟩, hth⟩ := hv
  have hx := B.exec
  have hb := B.bytes
  have hr := B.returns
  have hts := atoms_spec (ws := wsX0_key) B.pre
  have hown : s.vm.findClass RX0 = some m.cls := findClass_of_methodNamed B.named
  have hlocks := B.notSynchronized
  subst hsz
  have hD := hD0.self (sz := s.heap.size)
  have hinX0 := in_X0_key
  generalize hAe : va_A [(h0, .inr (0, [.ref kw, .int kb, .int kr, .ref sc, .ref so, .ref tp, .int tl, .ref ct, .ref sr]))] s.heap.size = A at hth hD ⊢
  have hA : ∀ q : Nat, s.heap.size ≤ q → A q := fun q h => by rw [← hAe]; exact Or.inr h
  have hS : va_S A s.heap s.heap [] := va_S.rf
  have hl := lv_entry ([.ref h0, .int i, .int v]) (n := 3) (Nat.le_of_ble_eq_true rfl)
  rw [lg_entry_eq]
  generalize (lg_sl ([.ref h0, .int i, .int v]) ++ List.replicate (3 - (lg_sl ([.ref h0, .int i, .int v])).length) Slot.unset).toArray = ls at hl ⊢
  have hl : lv_has ls 3 [(0, .ref h0), (1, .int i), (2, .int v)] := hl
  refine lv_iload_n hx hb dX0_key_0 rfl (lv_at hl 1 rfl) ?_
  refine lv_if_lt (tgt := 10) hx hb dX0_key_1 (by decide) (fun c1 => absurd c1 (hbad.1)) (fun c1 => ?_)
  refine lv_iload_n hx hb dX0_key_4 rfl (lv_at hl 1 rfl) ?_
  refine lv_bipush (v := nI 8) hx hb dX0_key_5 (by decide) ?_
  refine lv_icmp_lt (tgt := 20) hx hb dX0_key_7 (by decide) (fun c7 => absurd c7 (hbad.2)) (fun c7 => ?_)
  exact vx_throwS (names := ["java/lang/RuntimeException", "java/lang/Exception"]) hx hb hlt hown (by decide +kernel) (by decide +kernel) (hts (.classLink RX0 39 "java/lang/IndexOutOfBoundsException") (by decide +kernel)) (hts (.initialized "java/lang/IndexOutOfBoundsException") (by decide +kernel)) hth.2.2.2.2.2.2 (vx_hat (L := vx_atS RX0 43 "java/lang/IndexOutOfBoundsException" ["java/lang/RuntimeException", "java/lang/Exception"]) (B := [.declares (Bundle.initS "java/lang/RuntimeException"), .declares (Bundle.initS "java/lang/Exception"), .declares (Bundle.initS Bundle.tN), .castable "java/lang/IndexOutOfBoundsException" "java/lang/IndexOutOfBoundsException"]) (fun w hw => hts w ((by decide +kernel : ∀ w ∈ (vx_atS RX0 43 "java/lang/IndexOutOfBoundsException" ["java/lang/RuntimeException", "java/lang/Exception"]).filter goodWord, w ∈ wsX0_key) w hw)) (by decide +kernel) (vx_c (va_Nw.use rfl hth.1) (vx_c (va_Nw.use rfl hth.2.1) (vx_c (va_Nw.use rfl hth.2.2.1) (vx_c (va_Nw.use rfl hth.2.2.2.1) vx_n))))) (by decide +kernel) hth.2.2.2.2.1 hth.2.2.2.2.2.1 hS (hl.1.trans hml.symm) dX0_key_10 dX0_key_13 dX0_key_14 dX0_key_16 dX0_key_19 (fun x hx9 => (htab x hx9).elim) (Nat.le_of_ble_eq_true rfl) (Nat.le_of_ble_eq_true rfl) (Nat.le_of_ble_eq_true rfl) (Nat.le_of_ble_eq_true rfl) hlocks (fun t hal hz hk => ⟨(), trivial, ⟨rfl, hP.kept (fun k q hq => hk _ (vx_lt hP hq)), va_K.moved hal hK, hD⟩, ⟨hz, fun q hq _ => hk q hq⟩⟩) (fun z hz => absurd hz List.not_mem_nil) (Nat.le_refl _) (Nat.le_refl _)
set_option maxHeartbeats 4000000 in
set_option maxRecDepth 100000 in
theorem c_X0_size0a (l : Launch) (hlt : l.stackTraces = false) (D : va_G) (cI : ClassId) (sa : Nat) (h0 kw sc so tp ct sr : Nat) (kb kr tl : Int32) (i : Int32) (sz : Nat) (hbad : i < nI 0) : vx_Met l yX0_size wsX0_size ({ frames := 6, cells := 1, slots := 6, locals := 82 }) (va_Pc [.ref h0, .int i] (fun U => PW D [(cI, .int)] [(h0, .inr (0, [.ref kw, .int kb, .int kr, .ref sc, .ref so, .ref tp, .int tl, .ref ct, .ref sr]))] sz U ∧ thw "java/lang/IllegalArgumentException" 48 "a key has 0 to 32 bytes" sa (va_A [(h0, .inr (0, [.ref kw, .int kb, .int kr, .ref sc, .ref so, .ref tp, .int tl, .ref ct, .ref sr]))] sz) U U.heap)) (va_Qv (fun _ : Unit => False) (fun _ _ => True) (va_A [(h0, .inr (0, [.ref kw, .int kb, .int kr, .ref sc, .ref so, .ref tp, .int tl, .ref ct, .ref sr]))] sz)) (vx_X (fun _ : Unit => True) (fun E _ t => E = "java/lang/IllegalArgumentException" ∧ BW D [(cI, .int)] (va_A [(h0, .inr (0, [.ref kw, .int kb, .int kr, .ref sc, .ref so, .ref tp, .int tl, .ref ct, .ref sr]))] sz) [(h0, .inr (0, [.ref kw, .int kb, .int kr, .ref sc, .ref so, .ref tp, .int tl, .ref ct, .ref sr]))] t) (va_A [(h0, .inr (0, [.ref kw, .int kb, .int kr, .ref sc, .ref so, .ref tp, .int tl, .ref ct, .ref sr]))] sz)) 1 6 (va_A [(h0, .inr (0, [.ref kw, .int kb, .int kr, .ref sc, .ref so, .ref tp, .int tl, .ref ct, .ref sr]))] sz) := by
  refine vx_ofW (cc := cX0_size) (maxL := 2) (ret := none) (by decide) rfl ?_
  intro p e s m args below meth c s₁ B hml htab hv
  obtain ⟨rfl, ⟨hsz, hP, hK, hD0⟩, hth⟩ := hv
  have hx := B.exec
  have hb := B.bytes
  have hr := B.returns
  have hts := atoms_spec (ws := wsX0_size) B.pre
  have hown : s.vm.findClass RX0 = some m.cls := findClass_of_methodNamed B.named
  have hlocks := B.notSynchronized
  subst hsz
  have hD := hD0.self (sz := s.heap.size)
  have hinX0 := in_X0_size
  generalize hAe : va_A [(h0, .inr (0, [.ref kw, .int kb, .int kr, .ref sc, .ref so, .ref tp, .int tl, .ref ct, .ref sr]))] s.heap.size = A at hth hD ⊢
  have hA : ∀ q : Nat, s.heap.size ≤ q → A q := fun q h => by rw [← hAe]; exact Or.inr h
  have hS : va_S A s.heap s.heap [] := va_S.rf
  have hl := lv_entry ([.ref h0, .int i]) (n := 2) (Nat.le_of_ble_eq_true rfl)
  rw [lg_entry_eq]
  generalize (lg_sl ([.ref h0, .int i]) ++ List.replicate (2 - (lg_sl ([.ref h0, .int i])).length) Slot.unset).toArray = ls at hl ⊢
  have hl : lv_has ls 2 [(0, .ref h0), (1, .int i)] := hl
  refine lv_iload_n hx hb dX0_size_0 rfl (lv_at hl 1 rfl) ?_
  refine lv_if_lt (tgt := 10) hx hb dX0_size_1 (by decide) (fun c1 => ?_) (fun c1 => absurd c1 (fun h => h hbad))
  exact vx_throwS (names := ["java/lang/RuntimeException", "java/lang/Exception"]) hx hb hlt hown (by decide +kernel) (by decide +kernel) (hts (.classLink RX0 46 "java/lang/IllegalArgumentException") (by decide +kernel)) (hts (.initialized "java/lang/IllegalArgumentException") (by decide +kernel)) hth.2.2.2.2.2.2 (vx_hat (L := vx_atS RX0 50 "java/lang/IllegalArgumentException" ["java/lang/RuntimeException", "java/lang/Exception"]) (B := [.declares (Bundle.initS "java/lang/RuntimeException"), .declares (Bundle.initS "java/lang/Exception"), .declares (Bundle.initS Bundle.tN), .castable "java/lang/IllegalArgumentException" "java/lang/IllegalArgumentException"]) (fun w hw => hts w ((by decide +kernel : ∀ w ∈ (vx_atS RX0 50 "java/lang/IllegalArgumentException" ["java/lang/RuntimeException", "java/lang/Exception"]).filter goodWord, w ∈ wsX0_size) w hw)) (by decide +kernel) (vx_c (va_Nw.use rfl hth.1) (vx_c (va_Nw.use rfl hth.2.1) (vx_c (va_Nw.use rfl hth.2.2.1) (vx_c (va_Nw.use rfl hth.2.2.2.1) vx_n))))) (by decide +kernel) hth.2.2.2.2.1 hth.2.2.2.2.2.1 hS (hl.1.trans hml.symm) dX0_size_10 dX0_size_13 dX0_size_14 dX0_size_16 dX0_size_19 (fun x hx9 => (htab x hx9).elim) (Nat.le_of_ble_eq_true rfl) (Nat.le_of_ble_eq_true rfl) (Nat.le_of_ble_eq_true rfl) (Nat.le_of_ble_eq_true rfl) hlocks (fun t hal hz hk => ⟨(), trivial, ⟨rfl, hP.kept (fun k q hq => hk _ (vx_lt hP hq)), va_K.moved hal hK, hD⟩, ⟨hz, fun q hq _ => hk q hq⟩⟩) (fun z hz => absurd hz List.not_mem_nil) (Nat.le_refl _) (Nat.le_refl _)
set_option maxHeartbeats 4000000 in
set_option maxRecDepth 100000 in
theorem c_X0_size0b (l : Launch) (hlt : l.stackTraces = false) (D : va_G) (cI : ClassId) (sa : Nat) (h0 kw sc so tp ct sr : Nat) (kb kr tl : Int32) (i : Int32) (sz : Nat) (hbad : ¬ i < nI 0 ∧ ¬ i ≤ nI 32) : vx_Met l yX0_size wsX0_size ({ frames := 6, cells := 1, slots := 6, locals := 82 }) (va_Pc [.ref h0, .int i] (fun U => PW D [(cI, .int)] [(h0, .inr (0, [.ref kw, .int kb, .int kr, .ref sc, .ref so, .ref tp, .int tl, .ref ct, .ref sr]))] sz U ∧ thw "java/lang/IllegalArgumentException" 48 "a key has 0 to 32 bytes" sa (va_A [(h0, .inr (0, [.ref kw, .int kb, .int kr, .ref sc, .ref so, .ref tp, .int tl, .ref ct, .ref sr]))] sz) U U.heap)) (va_Qv (fun _ : Unit => False) (fun _ _ => True) (va_A [(h0, .inr (0, [.ref kw, .int kb, .int kr, .ref sc, .ref so, .ref tp, .int tl, .ref ct, .ref sr]))] sz)) (vx_X (fun _ : Unit => True) (fun E _ t => E = "java/lang/IllegalArgumentException" ∧ BW D [(cI, .int)] (va_A [(h0, .inr (0, [.ref kw, .int kb, .int kr, .ref sc, .ref so, .ref tp, .int tl, .ref ct, .ref sr]))] sz) [(h0, .inr (0, [.ref kw, .int kb, .int kr, .ref sc, .ref so, .ref tp, .int tl, .ref ct, .ref sr]))] t) (va_A [(h0, .inr (0, [.ref kw, .int kb, .int kr, .ref sc, .ref so, .ref tp, .int tl, .ref ct, .ref sr]))] sz)) 1 6 (va_A [(h0, .inr (0, [.ref kw, .int kb, .int kr, .ref sc, .ref so, .ref tp, .int tl, .ref ct, .ref sr]))] sz) := by
  refine vx_ofW (cc := cX0_size) (maxL := 2) (ret := none) (by decide) rfl ?_
  intro p e s m args below meth c s₁ B hml htab hv
  obtain ⟨rfl, ⟨hsz, hP, hK, hD0⟩, hth⟩ := hv
  have hx := B.exec
  have hb := B.bytes
  have hr := B.returns
  have hts := atoms_spec (ws := wsX0_size) B.pre
  have hown : s.vm.findClass RX0 = some m.cls := findClass_of_methodNamed B.named
  have hlocks := B.notSynchronized
  subst hsz
  have hD := hD0.self (sz := s.heap.size)
  have hinX0 := in_X0_size
  generalize hAe : va_A [(h0, .inr (0, [.ref kw, .int kb, .int kr, .ref sc, .ref so, .ref tp, .int tl, .ref ct, .ref sr]))] s.heap.size = A at hth hD ⊢
  have hA : ∀ q : Nat, s.heap.size ≤ q → A q := fun q h => by rw [← hAe]; exact Or.inr h
  have hS : va_S A s.heap s.heap [] := va_S.rf
  have hl := lv_entry ([.ref h0, .int i]) (n := 2) (Nat.le_of_ble_eq_true rfl)
  rw [lg_entry_eq]
  generalize (lg_sl ([.ref h0, .int i]) ++ List.replicate (2 - (lg_sl ([.ref h0, .int i])).length) Slot.unset).toArray = ls at hl ⊢
  have hl : lv_has ls 2 [(0, .ref h0), (1, .int i)] := hl
  refine lv_iload_n hx hb dX0_size_0 rfl (lv_at hl 1 rfl) ?_
  refine lv_if_lt (tgt := 10) hx hb dX0_size_1 (by decide) (fun c1 => absurd c1 (hbad.1)) (fun c1 => ?_)
  refine lv_iload_n hx hb dX0_size_4 rfl (lv_at hl 1 rfl) ?_
  refine lv_bipush (v := nI 32) hx hb dX0_size_5 (by decide) ?_
  refine lv_icmp_le (tgt := 20) hx hb dX0_size_7 (by decide) (fun c7 => absurd c7 (hbad.2)) (fun c7 => ?_)
  exact vx_throwS (names := ["java/lang/RuntimeException", "java/lang/Exception"]) hx hb hlt hown (by decide +kernel) (by decide +kernel) (hts (.classLink RX0 46 "java/lang/IllegalArgumentException") (by decide +kernel)) (hts (.initialized "java/lang/IllegalArgumentException") (by decide +kernel)) hth.2.2.2.2.2.2 (vx_hat (L := vx_atS RX0 50 "java/lang/IllegalArgumentException" ["java/lang/RuntimeException", "java/lang/Exception"]) (B := [.declares (Bundle.initS "java/lang/RuntimeException"), .declares (Bundle.initS "java/lang/Exception"), .declares (Bundle.initS Bundle.tN), .castable "java/lang/IllegalArgumentException" "java/lang/IllegalArgumentException"]) (fun w hw => hts w ((by decide +kernel : ∀ w ∈ (vx_atS RX0 50 "java/lang/IllegalArgumentException" ["java/lang/RuntimeException", "java/lang/Exception"]).filter goodWord, w ∈ wsX0_size) w hw)) (by decide +kernel) (vx_c (va_Nw.use rfl hth.1) (vx_c (va_Nw.use rfl hth.2.1) (vx_c (va_Nw.use rfl hth.2.2.1) (vx_c (va_Nw.use rfl hth.2.2.2.1) vx_n))))) (by decide +kernel) hth.2.2.2.2.1 hth.2.2.2.2.2.1 hS (hl.1.trans hml.symm) dX0_size_10 dX0_size_13 dX0_size_14 dX0_size_16 dX0_size_19 (fun x hx9 => (htab x hx9).elim) (Nat.le_of_ble_eq_true rfl) (Nat.le_of_ble_eq_true rfl) (Nat.le_of_ble_eq_true rfl) (Nat.le_of_ble_eq_true rfl) hlocks (fun t hal hz hk => ⟨(), trivial, ⟨rfl, hP.kept (fun k q hq => hk _ (vx_lt hP hq)), va_K.moved hal hK, hD⟩, ⟨hz, fun q hq _ => hk q hq⟩⟩) (fun z hz => absurd hz List.not_mem_nil) (Nat.le_refl _) (Nat.le_refl _)
set_option maxHeartbeats 4000000 in
set_option maxRecDepth 100000 in
theorem c_X0_box0a (l : Launch) (hlt : l.stackTraces = false) (D : va_G) (cI : ClassId) (sa : Nat) (h0 kw sc so tp ct sr : Nat) (kb kr tl : Int32) (i v bb : Int32) (sz : Nat) (hbad : i < nI 0) : vx_Met l yX0_box wsX0_box ({ frames := 6, cells := 1, slots := 6, locals := 82 }) (va_Pc [.ref h0, .int i, .int v, .int bb] (fun U => PW D [(cI, .int)] [(h0, .inr (0, [.ref kw, .int kb, .int kr, .ref sc, .ref so, .ref tp, .int tl, .ref ct, .ref sr]))] sz U ∧ thw "java/lang/IndexOutOfBoundsException" 76 "no such box" sa (va_A [(h0, .inr (0, [.ref kw, .int kb, .int kr, .ref sc, .ref so, .ref tp, .int tl, .ref ct, .ref sr]))] sz) U U.heap)) (va_Qi (fun (_ : Int32) (_ : Unit) => False) (fun _ _ => True) (va_A [(h0, .inr (0, [.ref kw, .int kb, .int kr, .ref sc, .ref so, .ref tp, .int tl, .ref ct, .ref sr]))] sz)) (vx_X (fun _ : Unit => True) (fun E _ t => E = "java/lang/IndexOutOfBoundsException" ∧ BW D [(cI, .int)] (va_A [(h0, .inr (0, [.ref kw, .int kb, .int kr, .ref sc, .ref so, .ref tp, .int tl, .ref ct, .ref sr]))] sz) [(h0, .inr (0, [.ref kw, .int kb, .int kr, .ref sc, .ref so, .ref tp, .int tl, .ref ct, .ref sr]))] t) (va_A [(h0, .inr (0, [.ref kw, .int kb, .int kr, .ref sc, .ref so, .ref tp, .int tl, .ref ct, .ref sr]))] sz)) 1 6 (va_A [(h0, .inr (0, [.ref kw, .int kb, .int kr, .ref sc, .ref so, .ref tp, .int tl, .ref ct, .ref sr]))] sz) := by
  refine vx_ofW (cc := cX0_box) (maxL := 4) (ret := (some .int)) (by decide) rfl ?_
  intro p e s m args below meth c s₁ B hml htab hv
  obtain ⟨rfl, ⟨hsz, hP, hK, hD0⟩, hth⟩ := hv
  have hx := B.exec
  have hb := B.bytes
  have hr := B.returns
  have hts := atoms_spec (ws := wsX0_box) B.pre
  have hown : s.vm.findClass RX0 = some m.cls := findClass_of_methodNamed B.named
  have hlocks := B.notSynchronized
  subst hsz
  have hD := hD0.self (sz := s.heap.size)
  generalize hAe : va_A [(h0, .inr (0, [.ref kw, .int kb, .int kr, .ref sc, .ref so, .ref tp, .int tl, .ref ct, .ref sr]))] s.heap.size = A at hth hD ⊢
  have hA : ∀ q : Nat, s.heap.size ≤ q → A q := fun q h => by rw [← hAe]; exact Or.inr h
  have hS : va_S A s.heap s.heap [] := va_S.rf
  have hl := lv_entry ([.ref h0, .int i, .int v, .int bb]) (n := 4) (Nat.le_of_ble_eq_true rfl)
  rw [lg_entry_eq]
  generalize (lg_sl ([.ref h0, .int i, .int v, .int bb]) ++ List.replicate (4 - (lg_sl ([.ref h0, .int i, .int v, .int bb])).length) Slot.unset).toArray = ls at hl ⊢
  have hl : lv_has ls 4 [(0, .ref h0), (1, .int i), (2, .int v), (3, .int bb)] := hl
  refine lv_iload_n hx hb dX0_box_0 rfl (lv_at hl 1 rfl) ?_
  refine lv_if_lt (tgt := 10) hx hb dX0_box_1 (by decide) (fun c1 => ?_) (fun c1 => absurd c1 (fun h => h hbad))
  exact vx_throwS (names := ["java/lang/RuntimeException", "java/lang/Exception"]) hx hb hlt hown (by decide +kernel) (by decide +kernel) (hts (.classLink RX0 39 "java/lang/IndexOutOfBoundsException") (by decide +kernel)) (hts (.initialized "java/lang/IndexOutOfBoundsException") (by decide +kernel)) hth.2.2.2.2.2.2 (vx_hat (L := vx_atS RX0 43 "java/lang/IndexOutOfBoundsException" ["java/lang/RuntimeException", "java/lang/Exception"]) (B := [.declares (Bundle.initS "java/lang/RuntimeException"), .declares (Bundle.initS "java/lang/Exception"), .declares (Bundle.initS Bundle.tN), .castable "java/lang/IndexOutOfBoundsException" "java/lang/IndexOutOfBoundsException"]) (fun w hw => hts w ((by decide +kernel : ∀ w ∈ (vx_atS RX0 43 "java/lang/IndexOutOfBoundsException" ["java/lang/RuntimeException", "java/lang/Exception"]).filter goodWord, w ∈ wsX0_box) w hw)) (by decide +kernel) (vx_c (va_Nw.use rfl hth.1) (vx_c (va_Nw.use rfl hth.2.1) (vx_c (va_Nw.use rfl hth.2.2.1) (vx_c (va_Nw.use rfl hth.2.2.2.1) vx_n))))) (by decide +kernel) hth.2.2.2.2.1 hth.2.2.2.2.2.1 hS (hl.1.trans hml.symm) dX0_box_10 dX0_box_13 dX0_box_14 dX0_box_16 dX0_box_19 (fun x hx9 => (htab x hx9).elim) (Nat.le_of_ble_eq_true rfl) (Nat.le_of_ble_eq_true rfl) (Nat.le_of_ble_eq_true rfl) (Nat.le_of_ble_eq_true rfl) hlocks (fun t hal hz hk => ⟨(), trivial, ⟨rfl, hP.kept (fun k q hq => hk _ (vx_lt hP hq)), va_K.moved hal hK, hD⟩, ⟨hz, fun q hq _ => hk q hq⟩⟩) (fun z hz => absurd hz List.not_mem_nil) (Nat.le_refl _) (Nat.le_refl _)
set_option maxHeartbeats 4000000 in
set_option maxRecDepth 100000 in
theorem c_X0_box0b (l : Launch) (hlt : l.stackTraces = false) (D : va_G) (cI : ClassId) (sa : Nat) (h0 kw sc so tp ct sr : Nat) (kb kr tl : Int32) (i v bb : Int32) (sz : Nat) (hbad : ¬ i < nI 0 ∧ ¬ i < nI 8) : vx_Met l yX0_box wsX0_box ({ frames := 6, cells := 1, slots := 6, locals := 82 }) (va_Pc [.ref h0, .int i, .int v, .int bb] (fun U => PW D [(cI, .int)] [(h0, .inr (0, [.ref kw, .int kb, .int kr, .ref sc, .ref so, .ref tp, .int tl, .ref ct, .ref sr]))] sz U ∧ thw "java/lang/IndexOutOfBoundsException" 76 "no such box" sa (va_A [(h0, .inr (0, [.ref kw, .int kb, .int kr, .ref sc, .ref so, .ref tp, .int tl, .ref ct, .ref sr]))] sz) U U.heap)) (va_Qi (fun (_ : Int32) (_ : Unit) => False) (fun _ _ => True) (va_A [(h0, .inr (0, [.ref kw, .int kb, .int kr, .ref sc, .ref so, .ref tp, .int tl, .ref ct, .ref sr]))] sz)) (vx_X (fun _ : Unit => True) (fun E _ t => E = "java/lang/IndexOutOfBoundsException" ∧ BW D [(cI, .int)] (va_A [(h0, .inr (0, [.ref kw, .int kb, .int kr, .ref sc, .ref so, .ref tp, .int tl, .ref ct, .ref sr]))] sz) [(h0, .inr (0, [.ref kw, .int kb, .int kr, .ref sc, .ref so, .ref tp, .int tl, .ref ct, .ref sr]))] t) (va_A [(h0, .inr (0, [.ref kw, .int kb, .int kr, .ref sc, .ref so, .ref tp, .int tl, .ref ct, .ref sr]))] sz)) 1 6 (va_A [(h0, .inr (0, [.ref kw, .int kb, .int kr, .ref sc, .ref so, .ref tp, .int tl, .ref ct, .ref sr]))] sz) := by
  refine vx_ofW (cc := cX0_box) (maxL := 4) (ret := (some .int)) (by decide) rfl ?_
  intro p e s m args below meth c s₁ B hml htab hv
  obtain ⟨rfl, ⟨hsz, hP, hK, hD0⟩, hth⟩ := hv
  have hx := B.exec
  have hb := B.bytes
  have hr := B.returns
  have hts := atoms_spec (ws := wsX0_box) B.pre
  have hown : s.vm.findClass RX0 = some m.cls := findClass_of_methodNamed B.named
  have hlocks := B.notSynchronized
  subst hsz
  have hD := hD0.self (sz := s.heap.size)
  generalize hAe : va_A [(h0, .inr (0, [.ref kw, .int kb, .int kr, .ref sc, .ref so, .ref tp, .int tl, .ref ct, .ref sr]))] s.heap.size = A at hth hD ⊢
  have hA : ∀ q : Nat, s.heap.size ≤ q → A q := fun q h => by rw [← hAe]; exact Or.inr h
  have hS : va_S A s.heap s.heap [] := va_S.rf
  have hl := lv_entry ([.ref h0, .int i, .int v, .int bb]) (n := 4) (Nat.le_of_ble_eq_true rfl)
  rw [lg_entry_eq]
  generalize (lg_sl ([.ref h0, .int i, .int v, .int bb]) ++ List.replicate (4 - (lg_sl ([.ref h0, .int i, .int v, .int bb])).length) Slot.unset).toArray = ls at hl ⊢
  have hl : lv_has ls 4 [(0, .ref h0), (1, .int i), (2, .int v), (3, .int bb)] := hl
  refine lv_iload_n hx hb dX0_box_0 rfl (lv_at hl 1 rfl) ?_
  refine lv_if_lt (tgt := 10) hx hb dX0_box_1 (by decide) (fun c1 => absurd c1 (hbad.1)) (fun c1 => ?_)
  refine lv_iload_n hx hb dX0_box_4 rfl (lv_at hl 1 rfl) ?_
  refine lv_bipush (v := nI 8) hx hb dX0_box_5 (by decide) ?_
  refine lv_icmp_lt (tgt := 20) hx hb dX0_box_7 (by decide) (fun c7 => absurd c7 (hbad.2)) (fun c7 => ?_)
  exact vx_throwS (names := ["java/lang/RuntimeException", "java/lang/Exception"]) hx hb hlt hown (by decide +kernel) (by decide +kernel) (hts (.classLink RX0 39 "java/lang/IndexOutOfBoundsException") (by decide +kernel)) (hts (.initialized "java/lang/IndexOutOfBoundsException") (by decide +kernel)) hth.2.2.2.2.2.2 (vx_hat (L := vx_atS RX0 43 "java/lang/IndexOutOfBoundsException" ["java/lang/RuntimeException", "java/lang/Exception"]) (B := [.declares (Bundle.initS "java/lang/RuntimeException"), .declares (Bundle.initS "java/lang/Exception"), .declares (Bundle.initS Bundle.tN), .castable "java/lang/IndexOutOfBoundsException" "java/lang/IndexOutOfBoundsException"]) (fun w hw => hts w ((by decide +kernel : ∀ w ∈ (vx_atS RX0 43 "java/lang/IndexOutOfBoundsException" ["java/lang/RuntimeException", "java/lang/Exception"]).filter goodWord, w ∈ wsX0_box) w hw)) (by decide +kernel) (vx_c (va_Nw.use rfl hth.1) (vx_c (va_Nw.use rfl hth.2.1) (vx_c (va_Nw.use rfl hth.2.2.1) (vx_c (va_Nw.use rfl hth.2.2.2.1) vx_n))))) (by decide +kernel) hth.2.2.2.2.1 hth.2.2.2.2.2.1 hS (hl.1.trans hml.symm) dX0_box_10 dX0_box_13 dX0_box_14 dX0_box_16 dX0_box_19 (fun x hx9 => (htab x hx9).elim) (Nat.le_of_ble_eq_true rfl) (Nat.le_of_ble_eq_true rfl) (Nat.le_of_ble_eq_true rfl) (Nat.le_of_ble_eq_true rfl) hlocks (fun t hal hz hk => ⟨(), trivial, ⟨rfl, hP.kept (fun k q hq => hk _ (vx_lt hP hq)), va_K.moved hal hK, hD⟩, ⟨hz, fun q hq _ => hk q hq⟩⟩) (fun z hz => absurd hz List.not_mem_nil) (Nat.le_refl _) (Nat.le_refl _)
set_option maxHeartbeats 4000000 in
set_option maxRecDepth 100000 in
theorem c_X0_box2a (l : Launch) (hlt : l.stackTraces = false) (D : va_G) (cI : ClassId) (sa : Nat) (h0 kw sc so tp ct sr : Nat) (kb kr tl : Int32) (wh : Nat) (i bb : Int32) (sz : Nat) (hw : wh < 8) (hbad : i < nI 0) : vx_Met l yX0_box wsX0_box ({ frames := 6, cells := 1, slots := 6, locals := 82 }) (va_Pc [.ref h0, .int (nI wh), .int i, .int bb] (fun U => PW D [(cI, .int)] [(h0, .inr (0, [.ref kw, .int kb, .int kr, .ref sc, .ref so, .ref tp, .int tl, .ref ct, .ref sr]))] sz U ∧ thw "java/lang/IllegalArgumentException" 78 "a box changes 0 to 15" sa (va_A [(h0, .inr (0, [.ref kw, .int kb, .int kr, .ref sc, .ref so, .ref tp, .int tl, .ref ct, .ref sr]))] sz) U U.heap)) (va_Qi (fun (_ : Int32) (_ : Unit) => False) (fun _ _ => True) (va_A [(h0, .inr (0, [.ref kw, .int kb, .int kr, .ref sc, .ref so, .ref tp, .int tl, .ref ct, .ref sr]))] sz)) (vx_X (fun _ : Unit => True) (fun E _ t => E = "java/lang/IllegalArgumentException" ∧ BW D [(cI, .int)] (va_A [(h0, .inr (0, [.ref kw, .int kb, .int kr, .ref sc, .ref so, .ref tp, .int tl, .ref ct, .ref sr]))] sz) [(h0, .inr (0, [.ref kw, .int kb, .int kr, .ref sc, .ref so, .ref tp, .int tl, .ref ct, .ref sr]))] t) (va_A [(h0, .inr (0, [.ref kw, .int kb, .int kr, .ref sc, .ref so, .ref tp, .int tl, .ref ct, .ref sr]))] sz)) 1 6 (va_A [(h0, .inr (0, [.ref kw, .int kb, .int kr, .ref sc, .ref so, .ref tp, .int tl, .ref ct, .ref sr]))] sz) := by
  refine vx_ofW (cc := cX0_box) (maxL := 4) (ret := (some .int)) (by decide) rfl ?_
  intro p e s m args below meth c s₁ B hml htab hv
  obtain ⟨rfl, ⟨hsz, hP, hK, hD0⟩, hth⟩ := hv
  have hx := B.exec
  have hb := B.bytes
  have hr := B.returns
  have hts := atoms_spec (ws := wsX0_box) B.pre
  have hown : s.vm.findClass RX0 = some m.cls := findClass_of_methodNamed B.named
  have hlocks := B.notSynchronized
  subst hsz
  have hD := hD0.self (sz := s.heap.size)
  generalize hAe : va_A [(h0, .inr (0, [.ref kw, .int kb, .int kr, .ref sc, .ref so, .ref tp, .int tl, .ref ct, .ref sr]))] s.heap.size = A at hth hD ⊢
  have hA : ∀ q : Nat, s.heap.size ≤ q → A q := fun q h => by rw [← hAe]; exact Or.inr h
  have hS : va_S A s.heap s.heap [] := va_S.rf
  have hl := lv_entry ([.ref h0, .int (nI wh), .int i, .int bb]) (n := 4) (Nat.le_of_ble_eq_true rfl)
  rw [lg_entry_eq]
  generalize (lg_sl ([.ref h0, .int (nI wh), .int i, .int bb]) ++ List.replicate (4 - (lg_sl ([.ref h0, .int (nI wh), .int i, .int bb])).length) Slot.unset).toArray = ls at hl ⊢
  have hl : lv_has ls 4 [(0, .ref h0), (1, .int (nI wh)), (2, .int i), (3, .int bb)] := hl
  refine lv_iload_n hx hb dX0_box_0 rfl (lv_at hl 1 rfl) ?_
  refine lv_if_lt (tgt := 10) hx hb dX0_box_1 (by decide) (fun c1 => absurd c1 (nI_pos (by omega))) (fun c1 => ?_)
  refine lv_iload_n hx hb dX0_box_4 rfl (lv_at hl 1 rfl) ?_
  refine lv_bipush (v := nI 8) hx hb dX0_box_5 (by decide) ?_
  refine wk_ltN (tgt := 20) hx hb (a := wh) (b := 8) (by omega) (by decide) dX0_box_7 (by decide) (fun c7 => ?_) (fun c7 => absurd c7 (by omega))
  refine lv_iload_n hx hb dX0_box_20 rfl (lv_at hl 2 rfl) ?_
  refine lv_if_lt (tgt := 30) hx hb dX0_box_21 (by decide) (fun c21 => ?_) (fun c21 => absurd c21 (fun h => h hbad))
  exact vx_throwS (names := ["java/lang/RuntimeException", "java/lang/Exception"]) hx hb hlt hown (by decide +kernel) (by decide +kernel) (hts (.classLink RX0 46 "java/lang/IllegalArgumentException") (by decide +kernel)) (hts (.initialized "java/lang/IllegalArgumentException") (by decide +kernel)) hth.2.2.2.2.2.2 (vx_hat (L := vx_atS RX0 50 "java/lang/IllegalArgumentException" ["java/lang/RuntimeException", "java/lang/Exception"]) (B := [.declares (Bundle.initS "java/lang/RuntimeException"), .declares (Bundle.initS "java/lang/Exception"), .declares (Bundle.initS Bundle.tN), .castable "java/lang/IllegalArgumentException" "java/lang/IllegalArgumentException"]) (fun w hw => hts w ((by decide +kernel : ∀ w ∈ (vx_atS RX0 50 "java/lang/IllegalArgumentException" ["java/lang/RuntimeException", "java/lang/Exception"]).filter goodWord, w ∈ wsX0_box) w hw)) (by decide +kernel) (vx_c (va_Nw.use rfl hth.1) (vx_c (va_Nw.use rfl hth.2.1) (vx_c (va_Nw.use rfl hth.2.2.1) (vx_c (va_Nw.use rfl hth.2.2.2.1) vx_n))))) (by decide +kernel) hth.2.2.2.2.1 hth.2.2.2.2.2.1 hS (hl.1.trans hml.symm) dX0_box_30 dX0_box_33 dX0_box_34 dX0_box_36 dX0_box_39 (fun x hx9 => (htab x hx9).elim) (Nat.le_of_ble_eq_true rfl) (Nat.le_of_ble_eq_true rfl) (Nat.le_of_ble_eq_true rfl) (Nat.le_of_ble_eq_true rfl) hlocks (fun t hal hz hk => ⟨(), trivial, ⟨rfl, hP.kept (fun k q hq => hk _ (vx_lt hP hq)), va_K.moved hal hK, hD⟩, ⟨hz, fun q hq _ => hk q hq⟩⟩) (fun z hz => absurd hz List.not_mem_nil) (Nat.le_refl _) (Nat.le_refl _)
set_option maxHeartbeats 4000000 in
set_option maxRecDepth 100000 in
theorem c_X0_box2b (l : Launch) (hlt : l.stackTraces = false) (D : va_G) (cI : ClassId) (sa : Nat) (h0 kw sc so tp ct sr : Nat) (kb kr tl : Int32) (wh : Nat) (i bb : Int32) (sz : Nat) (hw : wh < 8) (hbad : ¬ i < nI 0 ∧ ¬ i < nI 16) : vx_Met l yX0_box wsX0_box ({ frames := 6, cells := 1, slots := 6, locals := 82 }) (va_Pc [.ref h0, .int (nI wh), .int i, .int bb] (fun U => PW D [(cI, .int)] [(h0, .inr (0, [.ref kw, .int kb, .int kr, .ref sc, .ref so, .ref tp, .int tl, .ref ct, .ref sr]))] sz U ∧ thw "java/lang/IllegalArgumentException" 78 "a box changes 0 to 15" sa (va_A [(h0, .inr (0, [.ref kw, .int kb, .int kr, .ref sc, .ref so, .ref tp, .int tl, .ref ct, .ref sr]))] sz) U U.heap)) (va_Qi (fun (_ : Int32) (_ : Unit) => False) (fun _ _ => True) (va_A [(h0, .inr (0, [.ref kw, .int kb, .int kr, .ref sc, .ref so, .ref tp, .int tl, .ref ct, .ref sr]))] sz)) (vx_X (fun _ : Unit => True) (fun E _ t => E = "java/lang/IllegalArgumentException" ∧ BW D [(cI, .int)] (va_A [(h0, .inr (0, [.ref kw, .int kb, .int kr, .ref sc, .ref so, .ref tp, .int tl, .ref ct, .ref sr]))] sz) [(h0, .inr (0, [.ref kw, .int kb, .int kr, .ref sc, .ref so, .ref tp, .int tl, .ref ct, .ref sr]))] t) (va_A [(h0, .inr (0, [.ref kw, .int kb, .int kr, .ref sc, .ref so, .ref tp, .int tl, .ref ct, .ref sr]))] sz)) 1 6 (va_A [(h0, .inr (0, [.ref kw, .int kb, .int kr, .ref sc, .ref so, .ref tp, .int tl, .ref ct, .ref sr]))] sz) := by
  refine vx_ofW (cc := cX0_box) (maxL := 4) (ret := (some .int)) (by decide) rfl ?_
  intro p e s m args below meth c s₁ B hml htab hv
  obtain ⟨rfl, ⟨hsz, hP, hK, hD0⟩, hth⟩ := hv
  have hx := B.exec
  have hb := B.bytes
  have hr := B.returns
  have hts := atoms_spec (ws := wsX0_box) B.pre
  have hown : s.vm.findClass RX0 = some m.cls := findClass_of_methodNamed B.named
  have hlocks := B.notSynchronized
  subst hsz
  have hD := hD0.self (sz := s.heap.size)
  generalize hAe : va_A [(h0, .inr (0, [.ref kw, .int kb, .int kr, .ref sc, .ref so, .ref tp, .int tl, .ref ct, .ref sr]))] s.heap.size = A at hth hD ⊢
  have hA : ∀ q : Nat, s.heap.size ≤ q → A q := fun q h => by rw [← hAe]; exact Or.inr h
  have hS : va_S A s.heap s.heap [] := va_S.rf
  have hl := lv_entry ([.ref h0, .int (nI wh), .int i, .int bb]) (n := 4) (Nat.le_of_ble_eq_true rfl)
  rw [lg_entry_eq]
  generalize (lg_sl ([.ref h0, .int (nI wh), .int i, .int bb]) ++ List.replicate (4 - (lg_sl ([.ref h0, .int (nI wh), .int i, .int bb])).length) Slot.unset).toArray = ls at hl ⊢
  have hl : lv_has ls 4 [(0, .ref h0), (1, .int (nI wh)), (2, .int i), (3, .int bb)] := hl
  refine lv_iload_n hx hb dX0_box_0 rfl (lv_at hl 1 rfl) ?_
  refine lv_if_lt (tgt := 10) hx hb dX0_box_1 (by decide) (fun c1 => absurd c1 (nI_pos (by omega))) (fun c1 => ?_)
  refine lv_iload_n hx hb dX0_box_4 rfl (lv_at hl 1 rfl) ?_
  refine lv_bipush (v := nI 8) hx hb dX0_box_5 (by decide) ?_
  refine wk_ltN (tgt := 20) hx hb (a := wh) (b := 8) (by omega) (by decide) dX0_box_7 (by decide) (fun c7 => ?_) (fun c7 => absurd c7 (by omega))
  refine lv_iload_n hx hb dX0_box_20 rfl (lv_at hl 2 rfl) ?_
  refine lv_if_lt (tgt := 30) hx hb dX0_box_21 (by decide) (fun c21 => absurd c21 (hbad.1)) (fun c21 => ?_)
  refine lv_iload_n hx hb dX0_box_24 rfl (lv_at hl 2 rfl) ?_
  refine lv_bipush (v := nI 16) hx hb dX0_box_25 (by decide) ?_
  refine lv_icmp_lt (tgt := 40) hx hb dX0_box_27 (by decide) (fun c27 => absurd c27 (hbad.2)) (fun c27 => ?_)
  exact vx_throwS (names := ["java/lang/RuntimeException", "java/lang/Exception"]) hx hb hlt hown (by decide +kernel) (by decide +kernel) (hts (.classLink RX0 46 "java/lang/IllegalArgumentException") (by decide +kernel)) (hts (.initialized "java/lang/IllegalArgumentException") (by decide +kernel)) hth.2.2.2.2.2.2 (vx_hat (L := vx_atS RX0 50 "java/lang/IllegalArgumentException" ["java/lang/RuntimeException", "java/lang/Exception"]) (B := [.declares (Bundle.initS "java/lang/RuntimeException"), .declares (Bundle.initS "java/lang/Exception"), .declares (Bundle.initS Bundle.tN), .castable "java/lang/IllegalArgumentException" "java/lang/IllegalArgumentException"]) (fun w hw => hts w ((by decide +kernel : ∀ w ∈ (vx_atS RX0 50 "java/lang/IllegalArgumentException" ["java/lang/RuntimeException", "java/lang/Exception"]).filter goodWord, w ∈ wsX0_box) w hw)) (by decide +kernel) (vx_c (va_Nw.use rfl hth.1) (vx_c (va_Nw.use rfl hth.2.1) (vx_c (va_Nw.use rfl hth.2.2.1) (vx_c (va_Nw.use rfl hth.2.2.2.1) vx_n))))) (by decide +kernel) hth.2.2.2.2.1 hth.2.2.2.2.2.1 hS (hl.1.trans hml.symm) dX0_box_30 dX0_box_33 dX0_box_34 dX0_box_36 dX0_box_39 (fun x hx9 => (htab x hx9).elim) (Nat.le_of_ble_eq_true rfl) (Nat.le_of_ble_eq_true rfl) (Nat.le_of_ble_eq_true rfl) (Nat.le_of_ble_eq_true rfl) hlocks (fun t hal hz hk => ⟨(), trivial, ⟨rfl, hP.kept (fun k q hq => hk _ (vx_lt hP hq)), va_K.moved hal hK, hD⟩, ⟨hz, fun q hq _ => hk q hq⟩⟩) (fun z hz => absurd hz List.not_mem_nil) (Nat.le_refl _) (Nat.le_refl _)
set_option maxHeartbeats 4000000 in
set_option maxRecDepth 100000 in
theorem c_X0_start0a (l : Launch) (hlt : l.stackTraces = false) (D : va_G) (cI : ClassId) (sa : Nat) (h0 kw sc so tp ct sr : Nat) (kb kr tl : Int32) (i v : Int32) (sz : Nat) (hbad : i < nI 0) : vx_Met l yX0_start wsX0_start ({ frames := 6, cells := 1, slots := 6, locals := 82 }) (va_Pc [.ref h0, .int i, .int v] (fun U => PW D [(cI, .int)] [(h0, .inr (0, [.ref kw, .int kb, .int kr, .ref sc, .ref so, .ref tp, .int tl, .ref ct, .ref sr]))] sz U ∧ thw "java/lang/IndexOutOfBoundsException" 86 "no such word of the start" sa (va_A [(h0, .inr (0, [.ref kw, .int kb, .int kr, .ref sc, .ref so, .ref tp, .int tl, .ref ct, .ref sr]))] sz) U U.heap)) (va_Qv (fun _ : Unit => False) (fun _ _ => True) (va_A [(h0, .inr (0, [.ref kw, .int kb, .int kr, .ref sc, .ref so, .ref tp, .int tl, .ref ct, .ref sr]))] sz)) (vx_X (fun _ : Unit => True) (fun E _ t => E = "java/lang/IndexOutOfBoundsException" ∧ BW D [(cI, .int)] (va_A [(h0, .inr (0, [.ref kw, .int kb, .int kr, .ref sc, .ref so, .ref tp, .int tl, .ref ct, .ref sr]))] sz) [(h0, .inr (0, [.ref kw, .int kb, .int kr, .ref sc, .ref so, .ref tp, .int tl, .ref ct, .ref sr]))] t) (va_A [(h0, .inr (0, [.ref kw, .int kb, .int kr, .ref sc, .ref so, .ref tp, .int tl, .ref ct, .ref sr]))] sz)) 1 6 (va_A [(h0, .inr (0, [.ref kw, .int kb, .int kr, .ref sc, .ref so, .ref tp, .int tl, .ref ct, .ref sr]))] sz) := by
  refine vx_ofW (cc := cX0_start) (maxL := 3) (ret := none) (by decide) rfl ?_
  intro p e s m args below meth c s₁ B hml htab hv
  obtain ⟨rfl, ⟨hsz, hP, hK, hD0⟩, hth⟩ := hv
  have hx := B.exec
  have hb := B.bytes
  have hr := B.returns
  have hts := atoms_spec (ws := wsX0_start) B.pre
  have hown : s.vm.findClass RX0 = some m.cls := findClass_of_methodNamed B.named
  have hlocks := B.notSynchronized
  subst hsz
  have hD := hD0.self (sz := s.heap.size)
  have hinX0 := in_X0_start
  generalize hAe : va_A [(h0, .inr (0, [.ref kw, .int kb, .int kr, .ref sc, .ref so, .ref tp, .int tl, .ref ct, .ref sr]))] s.heap.size = A at hth hD ⊢
  have hA : ∀ q : Nat, s.heap.size ≤ q → A q := fun q h => by rw [← hAe]; exact Or.inr h
  have hS : va_S A s.heap s.heap [] := va_S.rf
  have hl := lv_entry ([.ref h0, .int i, .int v]) (n := 3) (Nat.le_of_ble_eq_true rfl)
  rw [lg_entry_eq]
  generalize (lg_sl ([.ref h0, .int i, .int v]) ++ List.replicate (3 - (lg_sl ([.ref h0, .int i, .int v])).length) Slot.unset).toArray = ls at hl ⊢
  have hl : lv_has ls 3 [(0, .ref h0), (1, .int i), (2, .int v)] := hl
  refine lv_iload_n hx hb dX0_start_0 rfl (lv_at hl 1 rfl) ?_
  refine lv_if_lt (tgt := 9) hx hb dX0_start_1 (by decide) (fun c1 => ?_) (fun c1 => absurd c1 (fun h => h hbad))
  exact vx_throwS (names := ["java/lang/RuntimeException", "java/lang/Exception"]) hx hb hlt hown (by decide +kernel) (by decide +kernel) (hts (.classLink RX0 39 "java/lang/IndexOutOfBoundsException") (by decide +kernel)) (hts (.initialized "java/lang/IndexOutOfBoundsException") (by decide +kernel)) hth.2.2.2.2.2.2 (vx_hat (L := vx_atS RX0 43 "java/lang/IndexOutOfBoundsException" ["java/lang/RuntimeException", "java/lang/Exception"]) (B := [.declares (Bundle.initS "java/lang/RuntimeException"), .declares (Bundle.initS "java/lang/Exception"), .declares (Bundle.initS Bundle.tN), .castable "java/lang/IndexOutOfBoundsException" "java/lang/IndexOutOfBoundsException"]) (fun w hw => hts w ((by decide +kernel : ∀ w ∈ (vx_atS RX0 43 "java/lang/IndexOutOfBoundsException" ["java/lang/RuntimeException", "java/lang/Exception"]).filter goodWord, w ∈ wsX0_start) w hw)) (by decide +kernel) (vx_c (va_Nw.use rfl hth.1) (vx_c (va_Nw.use rfl hth.2.1) (vx_c (va_Nw.use rfl hth.2.2.1) (vx_c (va_Nw.use rfl hth.2.2.2.1) vx_n))))) (by decide +kernel) hth.2.2.2.2.1 hth.2.2.2.2.2.1 hS (hl.1.trans hml.symm) dX0_start_9 dX0_start_12 dX0_start_13 dX0_start_15 dX0_start_18 (fun x hx9 => (htab x hx9).elim) (Nat.le_of_ble_eq_true rfl) (Nat.le_of_ble_eq_true rfl) (Nat.le_of_ble_eq_true rfl) (Nat.le_of_ble_eq_true rfl) hlocks (fun t hal hz hk => ⟨(), trivial, ⟨rfl, hP.kept (fun k q hq => hk _ (vx_lt hP hq)), va_K.moved hal hK, hD⟩, ⟨hz, fun q hq _ => hk q hq⟩⟩) (fun z hz => absurd hz List.not_mem_nil) (Nat.le_refl _) (Nat.le_refl _)
set_option maxHeartbeats 4000000 in
set_option maxRecDepth 100000 in
theorem c_X0_start0b (l : Launch) (hlt : l.stackTraces = false) (D : va_G) (cI : ClassId) (sa : Nat) (h0 kw sc so tp ct sr : Nat) (kb kr tl : Int32) (i v : Int32) (sz : Nat) (hbad : ¬ i < nI 0 ∧ ¬ i < nI 4) : vx_Met l yX0_start wsX0_start ({ frames := 6, cells := 1, slots := 6, locals := 82 }) (va_Pc [.ref h0, .int i, .int v] (fun U => PW D [(cI, .int)] [(h0, .inr (0, [.ref kw, .int kb, .int kr, .ref sc, .ref so, .ref tp, .int tl, .ref ct, .ref sr]))] sz U ∧ thw "java/lang/IndexOutOfBoundsException" 86 "no such word of the start" sa (va_A [(h0, .inr (0, [.ref kw, .int kb, .int kr, .ref sc, .ref so, .ref tp, .int tl, .ref ct, .ref sr]))] sz) U U.heap)) (va_Qv (fun _ : Unit => False) (fun _ _ => True) (va_A [(h0, .inr (0, [.ref kw, .int kb, .int kr, .ref sc, .ref so, .ref tp, .int tl, .ref ct, .ref sr]))] sz)) (vx_X (fun _ : Unit => True) (fun E _ t => E = "java/lang/IndexOutOfBoundsException" ∧ BW D [(cI, .int)] (va_A [(h0, .inr (0, [.ref kw, .int kb, .int kr, .ref sc, .ref so, .ref tp, .int tl, .ref ct, .ref sr]))] sz) [(h0, .inr (0, [.ref kw, .int kb, .int kr, .ref sc, .ref so, .ref tp, .int tl, .ref ct, .ref sr]))] t) (va_A [(h0, .inr (0, [.ref kw, .int kb, .int kr, .ref sc, .ref so, .ref tp, .int tl, .ref ct, .ref sr]))] sz)) 1 6 (va_A [(h0, .inr (0, [.ref kw, .int kb, .int kr, .ref sc, .ref so, .ref tp, .int tl, .ref ct, .ref sr]))] sz) := by
  refine vx_ofW (cc := cX0_start) (maxL := 3) (ret := none) (by decide) rfl ?_
  intro p e s m args below meth c s₁ B hml htab hv
  obtain ⟨rfl, ⟨hsz, hP, hK, hD0⟩, hth⟩ := hv
  have hx := B.exec
  have hb := B.bytes
  have hr := B.returns
  have hts := atoms_spec (ws := wsX0_start) B.pre
  have hown : s.vm.findClass RX0 = some m.cls := findClass_of_methodNamed B.named
  have hlocks := B.notSynchronized
  subst hsz
  have hD := hD0.self (sz := s.heap.size)
  have hinX0 := in_X0_start
  generalize hAe : va_A [(h0, .inr (0, [.ref kw, .int kb, .int kr, .ref sc, .ref so, .ref tp, .int tl, .ref ct, .ref sr]))] s.heap.size = A at hth hD ⊢
  have hA : ∀ q : Nat, s.heap.size ≤ q → A q := fun q h => by rw [← hAe]; exact Or.inr h
  have hS : va_S A s.heap s.heap [] := va_S.rf
  have hl := lv_entry ([.ref h0, .int i, .int v]) (n := 3) (Nat.le_of_ble_eq_true rfl)
  rw [lg_entry_eq]
  generalize (lg_sl ([.ref h0, .int i, .int v]) ++ List.replicate (3 - (lg_sl ([.ref h0, .int i, .int v])).length) Slot.unset).toArray = ls at hl ⊢
  have hl : lv_has ls 3 [(0, .ref h0), (1, .int i), (2, .int v)] := hl
  refine lv_iload_n hx hb dX0_start_0 rfl (lv_at hl 1 rfl) ?_
  refine lv_if_lt (tgt := 9) hx hb dX0_start_1 (by decide) (fun c1 => absurd c1 (hbad.1)) (fun c1 => ?_)
  refine lv_iload_n hx hb dX0_start_4 rfl (lv_at hl 1 rfl) ?_
  refine lv_iconst (v := nI 4) hx hb dX0_start_5 (by decide) ?_
  refine lv_icmp_lt (tgt := 19) hx hb dX0_start_6 (by decide) (fun c6 => absurd c6 (hbad.2)) (fun c6 => ?_)
  exact vx_throwS (names := ["java/lang/RuntimeException", "java/lang/Exception"]) hx hb hlt hown (by decide +kernel) (by decide +kernel) (hts (.classLink RX0 39 "java/lang/IndexOutOfBoundsException") (by decide +kernel)) (hts (.initialized "java/lang/IndexOutOfBoundsException") (by decide +kernel)) hth.2.2.2.2.2.2 (vx_hat (L := vx_atS RX0 43 "java/lang/IndexOutOfBoundsException" ["java/lang/RuntimeException", "java/lang/Exception"]) (B := [.declares (Bundle.initS "java/lang/RuntimeException"), .declares (Bundle.initS "java/lang/Exception"), .declares (Bundle.initS Bundle.tN), .castable "java/lang/IndexOutOfBoundsException" "java/lang/IndexOutOfBoundsException"]) (fun w hw => hts w ((by decide +kernel : ∀ w ∈ (vx_atS RX0 43 "java/lang/IndexOutOfBoundsException" ["java/lang/RuntimeException", "java/lang/Exception"]).filter goodWord, w ∈ wsX0_start) w hw)) (by decide +kernel) (vx_c (va_Nw.use rfl hth.1) (vx_c (va_Nw.use rfl hth.2.1) (vx_c (va_Nw.use rfl hth.2.2.1) (vx_c (va_Nw.use rfl hth.2.2.2.1) vx_n))))) (by decide +kernel) hth.2.2.2.2.1 hth.2.2.2.2.2.1 hS (hl.1.trans hml.symm) dX0_start_9 dX0_start_12 dX0_start_13 dX0_start_15 dX0_start_18 (fun x hx9 => (htab x hx9).elim) (Nat.le_of_ble_eq_true rfl) (Nat.le_of_ble_eq_true rfl) (Nat.le_of_ble_eq_true rfl) (Nat.le_of_ble_eq_true rfl) hlocks (fun t hal hz hk => ⟨(), trivial, ⟨rfl, hP.kept (fun k q hq => hk _ (vx_lt hP hq)), va_K.moved hal hK, hD⟩, ⟨hz, fun q hq _ => hk q hq⟩⟩) (fun z hz => absurd hz List.not_mem_nil) (Nat.le_refl _) (Nat.le_refl _)
set_option maxHeartbeats 4000000 in
set_option maxRecDepth 100000 in
theorem c_X0_put0 (l : Launch) (hlt : l.stackTraces = false) (D : va_G) (cI : ClassId) (sa : Nat) (h0 kw sc so tp ct sr : Nat) (kb kr : Int32) (sz0 : Nat) (xa xb xc xd : Int32) (sz : Nat) (hz : 252 < sz0) (hz2 : sz0 ≤ 256) : vx_Met l yX0_put wsX0_put ({ frames := 6, cells := 1, slots := 6, locals := 82 }) (va_Pc [.ref h0, .int xa, .int xb, .int xc, .int xd] (fun U => PW D [(cI, .int)] [(h0, .inr (0, [.ref kw, .int kb, .int kr, .ref sc, .ref so, .ref tp, .int (nI sz0), .ref ct, .ref sr]))] sz U ∧ thw "java/lang/IllegalStateException" 90 "the tape is full" sa (va_A [(h0, .inr (0, [.ref kw, .int kb, .int kr, .ref sc, .ref so, .ref tp, .int (nI sz0), .ref ct, .ref sr]))] sz) U U.heap)) (va_Qi (fun (_ : Int32) (_ : Unit) => False) (fun _ _ => True) (va_A [(h0, .inr (0, [.ref kw, .int kb, .int kr, .ref sc, .ref so, .ref tp, .int (nI sz0), .ref ct, .ref sr]))] sz)) (vx_X (fun _ : Unit => True) (fun E _ t => E = "java/lang/IllegalStateException" ∧ BW D [(cI, .int)] (va_A [(h0, .inr (0, [.ref kw, .int kb, .int kr, .ref sc, .ref so, .ref tp, .int (nI sz0), .ref ct, .ref sr]))] sz) [(h0, .inr (0, [.ref kw, .int kb, .int kr, .ref sc, .ref so, .ref tp, .int (nI sz0), .ref ct, .ref sr]))] t) (va_A [(h0, .inr (0, [.ref kw, .int kb, .int kr, .ref sc, .ref so, .ref tp, .int (nI sz0), .ref ct, .ref sr]))] sz)) 1 6 (va_A [(h0, .inr (0, [.ref kw, .int kb, .int kr, .ref sc, .ref so, .ref tp, .int (nI sz0), .ref ct, .ref sr]))] sz) := by
  refine vx_ofW (cc := cX0_put) (maxL := 5) (ret := (some .int)) (by decide) rfl ?_
  intro p e s m args below meth c s₁ B hml htab hv
  obtain ⟨rfl, ⟨hsz, hP, hK, hD0⟩, hth⟩ := hv
  have hx := B.exec
  have hb := B.bytes
  have hr := B.returns
  have hts := atoms_spec (ws := wsX0_put) B.pre
  have hown : s.vm.findClass RX0 = some m.cls := findClass_of_methodNamed B.named
  have hlocks := B.notSynchronized
  subst hsz
  have hD := hD0.self (sz := s.heap.size)
  have hinX0 := in_X0_put
  generalize hAe : va_A [(h0, .inr (0, [.ref kw, .int kb, .int kr, .ref sc, .ref so, .ref tp, .int (nI sz0), .ref ct, .ref sr]))] s.heap.size = A at hth hD ⊢
  have hA : ∀ q : Nat, s.heap.size ≤ q → A q := fun q h => by rw [← hAe]; exact Or.inr h
  have hS : va_S A s.heap s.heap [] := va_S.rf
  have hl := lv_entry ([.ref h0, .int xa, .int xb, .int xc, .int xd]) (n := 5) (Nat.le_of_ble_eq_true rfl)
  rw [lg_entry_eq]
  generalize (lg_sl ([.ref h0, .int xa, .int xb, .int xc, .int xd]) ++ List.replicate (5 - (lg_sl ([.ref h0, .int xa, .int xb, .int xc, .int xd])).length) Slot.unset).toArray = ls at hl ⊢
  have hl : lv_has ls 5 [(0, .ref h0), (1, .int xa), (2, .int xb), (3, .int xc), (4, .int xd)] := hl
  refine lv_aload_n hx hb dX0_put_0 rfl (lv_at hl 0 rfl) ?_
  refine va_get (D := D) (ci := 0) (v := .int (nI sz0)) (C := RX0) (T := TX0) (N := 9) hx hb hts hinX0 hown hK hP 0 rfl rfl 6 (by decide) (hts (.fieldLink RX0 36 "SlicedCipher" "tapeLength" "I") (by decide +kernel)) (fun _ h9 => h9) rfl dX0_put_1 ?_
  refine lv_iconst (v := nI 4) hx hb dX0_put_4 (by decide) ?_
  refine wk_iaddN hx hb (a := sz0) (b := 4) dX0_put_5 ?_
  refine lv_sipush (v := nI 256) hx hb dX0_put_6 (by decide) ?_
  refine wk_leN (tgt := 22) hx hb (a := sz0 + 4) (b := 256) (by omega) (by decide) dX0_put_9 (by decide) (fun c9 => absurd c9 (by omega)) (fun c9 => ?_)
  exact vx_throwS (names := ["java/lang/RuntimeException", "java/lang/Exception"]) hx hb hlt hown (by decide +kernel) (by decide +kernel) (hts (.classLink RX0 88 "java/lang/IllegalStateException") (by decide +kernel)) (hts (.initialized "java/lang/IllegalStateException") (by decide +kernel)) hth.2.2.2.2.2.2 (vx_hat (L := vx_atS RX0 92 "java/lang/IllegalStateException" ["java/lang/RuntimeException", "java/lang/Exception"]) (B := [.declares (Bundle.initS "java/lang/RuntimeException"), .declares (Bundle.initS "java/lang/Exception"), .declares (Bundle.initS Bundle.tN), .castable "java/lang/IllegalStateException" "java/lang/IllegalStateException"]) (fun w hw => hts w ((by decide +kernel : ∀ w ∈ (vx_atS RX0 92 "java/lang/IllegalStateException" ["java/lang/RuntimeException", "java/lang/Exception"]).filter goodWord, w ∈ wsX0_put) w hw)) (by decide +kernel) (vx_c (va_Nw.use rfl hth.1) (vx_c (va_Nw.use rfl hth.2.1) (vx_c (va_Nw.use rfl hth.2.2.1) (vx_c (va_Nw.use rfl hth.2.2.2.1) vx_n))))) (by decide +kernel) hth.2.2.2.2.1 hth.2.2.2.2.2.1 hS (hl.1.trans hml.symm) dX0_put_12 dX0_put_15 dX0_put_16 dX0_put_18 dX0_put_21 (fun x hx9 => (htab x hx9).elim) (Nat.le_of_ble_eq_true rfl) (Nat.le_of_ble_eq_true rfl) (Nat.le_of_ble_eq_true rfl) (Nat.le_of_ble_eq_true rfl) hlocks (fun t hal hz hk => ⟨(), trivial, ⟨rfl, hP.kept (fun k q hq => hk _ (vx_lt hP hq)), va_K.moved hal hK, hD⟩, ⟨hz, fun q hq _ => hk q hq⟩⟩) (fun z hz => absurd hz List.not_mem_nil) (Nat.le_refl _) (Nat.le_refl _)
set_option maxHeartbeats 4000000 in
set_option maxRecDepth 100000 in
theorem c_X0_cut0a (l : Launch) (hlt : l.stackTraces = false) (D : va_G) (cI : ClassId) (sa : Nat) (h0 kw sc so tp ct sr : Nat) (kb kr : Int32) (sz0 : Nat) (i : Int32) (sz : Nat) (hbad : i < nI 0) : vx_Met l yX0_cut wsX0_cut ({ frames := 6, cells := 1, slots := 6, locals := 82 }) (va_Pc [.ref h0, .int i] (fun U => PW D [(cI, .int)] [(h0, .inr (0, [.ref kw, .int kb, .int kr, .ref sc, .ref so, .ref tp, .int (nI sz0), .ref ct, .ref sr]))] sz U ∧ thw "java/lang/IllegalArgumentException" 93 "the tape has no such length to keep" sa (va_A [(h0, .inr (0, [.ref kw, .int kb, .int kr, .ref sc, .ref so, .ref tp, .int (nI sz0), .ref ct, .ref sr]))] sz) U U.heap)) (va_Qi (fun (_ : Int32) (_ : Unit) => False) (fun _ _ => True) (va_A [(h0, .inr (0, [.ref kw, .int kb, .int kr, .ref sc, .ref so, .ref tp, .int (nI sz0), .ref ct, .ref sr]))] sz)) (vx_X (fun _ : Unit => True) (fun E _ t => E = "java/lang/IllegalArgumentException" ∧ BW D [(cI, .int)] (va_A [(h0, .inr (0, [.ref kw, .int kb, .int kr, .ref sc, .ref so, .ref tp, .int (nI sz0), .ref ct, .ref sr]))] sz) [(h0, .inr (0, [.ref kw, .int kb, .int kr, .ref sc, .ref so, .ref tp, .int (nI sz0), .ref ct, .ref sr]))] t) (va_A [(h0, .inr (0, [.ref kw, .int kb, .int kr, .ref sc, .ref so, .ref tp, .int (nI sz0), .ref ct, .ref sr]))] sz)) 1 6 (va_A [(h0, .inr (0, [.ref kw, .int kb, .int kr, .ref sc, .ref so, .ref tp, .int (nI sz0), .ref ct, .ref sr]))] sz) := by
  refine vx_ofW (cc := cX0_cut) (maxL := 2) (ret := (some .int)) (by decide) rfl ?_
  intro p e s m args below meth c s₁ B hml htab hv
  obtain ⟨rfl, ⟨hsz, hP, hK, hD0⟩, hth⟩ := hv
  have hx := B.exec
  have hb := B.bytes
  have hr := B.returns
  have hts := atoms_spec (ws := wsX0_cut) B.pre
  have hown : s.vm.findClass RX0 = some m.cls := findClass_of_methodNamed B.named
  have hlocks := B.notSynchronized
  subst hsz
  have hD := hD0.self (sz := s.heap.size)
  have hinX0 := in_X0_cut
  generalize hAe : va_A [(h0, .inr (0, [.ref kw, .int kb, .int kr, .ref sc, .ref so, .ref tp, .int (nI sz0), .ref ct, .ref sr]))] s.heap.size = A at hth hD ⊢
  have hA : ∀ q : Nat, s.heap.size ≤ q → A q := fun q h => by rw [← hAe]; exact Or.inr h
  have hS : va_S A s.heap s.heap [] := va_S.rf
  have hl := lv_entry ([.ref h0, .int i]) (n := 2) (Nat.le_of_ble_eq_true rfl)
  rw [lg_entry_eq]
  generalize (lg_sl ([.ref h0, .int i]) ++ List.replicate (2 - (lg_sl ([.ref h0, .int i])).length) Slot.unset).toArray = ls at hl ⊢
  have hl : lv_has ls 2 [(0, .ref h0), (1, .int i)] := hl
  refine lv_iload_n hx hb dX0_cut_0 rfl (lv_at hl 1 rfl) ?_
  refine lv_if_lt (tgt := 12) hx hb dX0_cut_1 (by decide) (fun c1 => ?_) (fun c1 => absurd c1 (fun h => h hbad))
  exact vx_throwS (names := ["java/lang/RuntimeException", "java/lang/Exception"]) hx hb hlt hown (by decide +kernel) (by decide +kernel) (hts (.classLink RX0 46 "java/lang/IllegalArgumentException") (by decide +kernel)) (hts (.initialized "java/lang/IllegalArgumentException") (by decide +kernel)) hth.2.2.2.2.2.2 (vx_hat (L := vx_atS RX0 50 "java/lang/IllegalArgumentException" ["java/lang/RuntimeException", "java/lang/Exception"]) (B := [.declares (Bundle.initS "java/lang/RuntimeException"), .declares (Bundle.initS "java/lang/Exception"), .declares (Bundle.initS Bundle.tN), .castable "java/lang/IllegalArgumentException" "java/lang/IllegalArgumentException"]) (fun w hw => hts w ((by decide +kernel : ∀ w ∈ (vx_atS RX0 50 "java/lang/IllegalArgumentException" ["java/lang/RuntimeException", "java/lang/Exception"]).filter goodWord, w ∈ wsX0_cut) w hw)) (by decide +kernel) (vx_c (va_Nw.use rfl hth.1) (vx_c (va_Nw.use rfl hth.2.1) (vx_c (va_Nw.use rfl hth.2.2.1) (vx_c (va_Nw.use rfl hth.2.2.2.1) vx_n))))) (by decide +kernel) hth.2.2.2.2.1 hth.2.2.2.2.2.1 hS (hl.1.trans hml.symm) dX0_cut_12 dX0_cut_15 dX0_cut_16 dX0_cut_18 dX0_cut_21 (fun x hx9 => (htab x hx9).elim) (Nat.le_of_ble_eq_true rfl) (Nat.le_of_ble_eq_true rfl) (Nat.le_of_ble_eq_true rfl) (Nat.le_of_ble_eq_true rfl) hlocks (fun t hal hz hk => ⟨(), trivial, ⟨rfl, hP.kept (fun k q hq => hk _ (vx_lt hP hq)), va_K.moved hal hK, hD⟩, ⟨hz, fun q hq _ => hk q hq⟩⟩) (fun z hz => absurd hz List.not_mem_nil) (Nat.le_refl _) (Nat.le_refl _)
set_option maxHeartbeats 4000000 in
set_option maxRecDepth 100000 in
theorem c_X0_cut0b (l : Launch) (hlt : l.stackTraces = false) (D : va_G) (cI : ClassId) (sa : Nat) (h0 kw sc so tp ct sr : Nat) (kb kr : Int32) (sz0 : Nat) (i : Int32) (sz : Nat) (hbad : ¬ i < nI 0 ∧ ¬ i ≤ nI sz0) : vx_Met l yX0_cut wsX0_cut ({ frames := 6, cells := 1, slots := 6, locals := 82 }) (va_Pc [.ref h0, .int i] (fun U => PW D [(cI, .int)] [(h0, .inr (0, [.ref kw, .int kb, .int kr, .ref sc, .ref so, .ref tp, .int (nI sz0), .ref ct, .ref sr]))] sz U ∧ thw "java/lang/IllegalArgumentException" 93 "the tape has no such length to keep" sa (va_A [(h0, .inr (0, [.ref kw, .int kb, .int kr, .ref sc, .ref so, .ref tp, .int (nI sz0), .ref ct, .ref sr]))] sz) U U.heap)) (va_Qi (fun (_ : Int32) (_ : Unit) => False) (fun _ _ => True) (va_A [(h0, .inr (0, [.ref kw, .int kb, .int kr, .ref sc, .ref so, .ref tp, .int (nI sz0), .ref ct, .ref sr]))] sz)) (vx_X (fun _ : Unit => True) (fun E _ t => E = "java/lang/IllegalArgumentException" ∧ BW D [(cI, .int)] (va_A [(h0, .inr (0, [.ref kw, .int kb, .int kr, .ref sc, .ref so, .ref tp, .int (nI sz0), .ref ct, .ref sr]))] sz) [(h0, .inr (0, [.ref kw, .int kb, .int kr, .ref sc, .ref so, .ref tp, .int (nI sz0), .ref ct, .ref sr]))] t) (va_A [(h0, .inr (0, [.ref kw, .int kb, .int kr, .ref sc, .ref so, .ref tp, .int (nI sz0), .ref ct, .ref sr]))] sz)) 1 6 (va_A [(h0, .inr (0, [.ref kw, .int kb, .int kr, .ref sc, .ref so, .ref tp, .int (nI sz0), .ref ct, .ref sr]))] sz) := by
  refine vx_ofW (cc := cX0_cut) (maxL := 2) (ret := (some .int)) (by decide) rfl ?_
  intro p e s m args below meth c s₁ B hml htab hv
  obtain ⟨rfl, ⟨hsz, hP, hK, hD0⟩, hth⟩ := hv
  have hx := B.exec
  have hb := B.bytes
  have hr := B.returns
  have hts := atoms_spec (ws := wsX0_cut) B.pre
  have hown : s.vm.findClass RX0 = some m.cls := findClass_of_methodNamed B.named
  have hlocks := B.notSynchronized
  subst hsz
  have hD := hD0.self (sz := s.heap.size)
  have hinX0 := in_X0_cut
  generalize hAe : va_A [(h0, .inr (0, [.ref kw, .int kb, .int kr, .ref sc, .ref so, .ref tp, .int (nI sz0), .ref ct, .ref sr]))] s.heap.size = A at hth hD ⊢
  have hA : ∀ q : Nat, s.heap.size ≤ q → A q := fun q h => by rw [← hAe]; exact Or.inr h
  have hS : va_S A s.heap s.heap [] := va_S.rf
  have hl := lv_entry ([.ref h0, .int i]) (n := 2) (Nat.le_of_ble_eq_true rfl)
  rw [lg_entry_eq]
  generalize (lg_sl ([.ref h0, .int i]) ++ List.replicate (2 - (lg_sl ([.ref h0, .int i])).length) Slot.unset).toArray = ls at hl ⊢
  have hl : lv_has ls 2 [(0, .ref h0), (1, .int i)] := hl
  refine lv_iload_n hx hb dX0_cut_0 rfl (lv_at hl 1 rfl) ?_
  refine lv_if_lt (tgt := 12) hx hb dX0_cut_1 (by decide) (fun c1 => absurd c1 (hbad.1)) (fun c1 => ?_)
  refine lv_iload_n hx hb dX0_cut_4 rfl (lv_at hl 1 rfl) ?_
  refine lv_aload_n hx hb dX0_cut_5 rfl (lv_at hl 0 rfl) ?_
  refine va_get (D := D) (ci := 0) (v := .int (nI sz0)) (C := RX0) (T := TX0) (N := 9) hx hb hts hinX0 hown hK hP 0 rfl rfl 6 (by decide) (hts (.fieldLink RX0 36 "SlicedCipher" "tapeLength" "I") (by decide +kernel)) (fun _ h9 => h9) rfl dX0_cut_6 ?_
  refine lv_icmp_le (tgt := 22) hx hb dX0_cut_9 (by decide) (fun c9 => absurd c9 (hbad.2)) (fun c9 => ?_)
  exact vx_throwS (names := ["java/lang/RuntimeException", "java/lang/Exception"]) hx hb hlt hown (by decide +kernel) (by decide +kernel) (hts (.classLink RX0 46 "java/lang/IllegalArgumentException") (by decide +kernel)) (hts (.initialized "java/lang/IllegalArgumentException") (by decide +kernel)) hth.2.2.2.2.2.2 (vx_hat (L := vx_atS RX0 50 "java/lang/IllegalArgumentException" ["java/lang/RuntimeException", "java/lang/Exception"]) (B := [.declares (Bundle.initS "java/lang/RuntimeException"), .declares (Bundle.initS "java/lang/Exception"), .declares (Bundle.initS Bundle.tN), .castable "java/lang/IllegalArgumentException" "java/lang/IllegalArgumentException"]) (fun w hw => hts w ((by decide +kernel : ∀ w ∈ (vx_atS RX0 50 "java/lang/IllegalArgumentException" ["java/lang/RuntimeException", "java/lang/Exception"]).filter goodWord, w ∈ wsX0_cut) w hw)) (by decide +kernel) (vx_c (va_Nw.use rfl hth.1) (vx_c (va_Nw.use rfl hth.2.1) (vx_c (va_Nw.use rfl hth.2.2.1) (vx_c (va_Nw.use rfl hth.2.2.2.1) vx_n))))) (by decide +kernel) hth.2.2.2.2.1 hth.2.2.2.2.2.1 hS (hl.1.trans hml.symm) dX0_cut_12 dX0_cut_15 dX0_cut_16 dX0_cut_18 dX0_cut_21 (fun x hx9 => (htab x hx9).elim) (Nat.le_of_ble_eq_true rfl) (Nat.le_of_ble_eq_true rfl) (Nat.le_of_ble_eq_true rfl) (Nat.le_of_ble_eq_true rfl) hlocks (fun t hal hz hk => ⟨(), trivial, ⟨rfl, hP.kept (fun k q hq => hk _ (vx_lt hP hq)), va_K.moved hal hK, hD⟩, ⟨hz, fun q hq _ => hk q hq⟩⟩) (fun z hz => absurd hz List.not_mem_nil) (Nat.le_refl _) (Nat.le_refl _)
set_option maxHeartbeats 4000000 in
set_option maxRecDepth 100000 in
theorem c_X0_word0a (l : Launch) (hlt : l.stackTraces = false) (D : va_G) (cI : ClassId) (sa : Nat) (h0 kw sc so tp ct sr : Nat) (kb kr : Int32) (sz0 : Nat) (i : Int32) (sz : Nat) (hbad : i < nI 0) : vx_Met l yX0_word wsX0_word ({ frames := 6, cells := 1, slots := 6, locals := 82 }) (va_Pc [.ref h0, .int i] (fun U => PW D [(cI, .int)] [(h0, .inr (0, [.ref kw, .int kb, .int kr, .ref sc, .ref so, .ref tp, .int (nI sz0), .ref ct, .ref sr]))] sz U ∧ thw "java/lang/IndexOutOfBoundsException" 95 "no such word of the tape" sa (va_A [(h0, .inr (0, [.ref kw, .int kb, .int kr, .ref sc, .ref so, .ref tp, .int (nI sz0), .ref ct, .ref sr]))] sz) U U.heap)) (va_Qi (fun (_ : Int32) (_ : Unit) => False) (fun _ _ => True) (va_A [(h0, .inr (0, [.ref kw, .int kb, .int kr, .ref sc, .ref so, .ref tp, .int (nI sz0), .ref ct, .ref sr]))] sz)) (vx_X (fun _ : Unit => True) (fun E _ t => E = "java/lang/IndexOutOfBoundsException" ∧ BW D [(cI, .int)] (va_A [(h0, .inr (0, [.ref kw, .int kb, .int kr, .ref sc, .ref so, .ref tp, .int (nI sz0), .ref ct, .ref sr]))] sz) [(h0, .inr (0, [.ref kw, .int kb, .int kr, .ref sc, .ref so, .ref tp, .int (nI sz0), .ref ct, .ref sr]))] t) (va_A [(h0, .inr (0, [.ref kw, .int kb, .int kr, .ref sc, .ref so, .ref tp, .int (nI sz0), .ref ct, .ref sr]))] sz)) 1 6 (va_A [(h0, .inr (0, [.ref kw, .int kb, .int kr, .ref sc, .ref so, .ref tp, .int (nI sz0), .ref ct, .ref sr]))] sz) := by
  refine vx_ofW (cc := cX0_word) (maxL := 2) (ret := (some .int)) (by decide) rfl ?_
  intro p e s m args below meth c s₁ B hml htab hv
  obtain ⟨rfl, ⟨hsz, hP, hK, hD0⟩, hth⟩ := hv
  have hx := B.exec
  have hb := B.bytes
  have hr := B.returns
  have hts := atoms_spec (ws := wsX0_word) B.pre
  have hown : s.vm.findClass RX0 = some m.cls := findClass_of_methodNamed B.named
  have hlocks := B.notSynchronized
  subst hsz
  have hD := hD0.self (sz := s.heap.size)
  have hinX0 := in_X0_word
  generalize hAe : va_A [(h0, .inr (0, [.ref kw, .int kb, .int kr, .ref sc, .ref so, .ref tp, .int (nI sz0), .ref ct, .ref sr]))] s.heap.size = A at hth hD ⊢
  have hA : ∀ q : Nat, s.heap.size ≤ q → A q := fun q h => by rw [← hAe]; exact Or.inr h
  have hS : va_S A s.heap s.heap [] := va_S.rf
  have hl := lv_entry ([.ref h0, .int i]) (n := 2) (Nat.le_of_ble_eq_true rfl)
  rw [lg_entry_eq]
  generalize (lg_sl ([.ref h0, .int i]) ++ List.replicate (2 - (lg_sl ([.ref h0, .int i])).length) Slot.unset).toArray = ls at hl ⊢
  have hl : lv_has ls 2 [(0, .ref h0), (1, .int i)] := hl
  refine lv_iload_n hx hb dX0_word_0 rfl (lv_at hl 1 rfl) ?_
  refine lv_if_lt (tgt := 12) hx hb dX0_word_1 (by decide) (fun c1 => ?_) (fun c1 => absurd c1 (fun h => h hbad))
  exact vx_throwS (names := ["java/lang/RuntimeException", "java/lang/Exception"]) hx hb hlt hown (by decide +kernel) (by decide +kernel) (hts (.classLink RX0 39 "java/lang/IndexOutOfBoundsException") (by decide +kernel)) (hts (.initialized "java/lang/IndexOutOfBoundsException") (by decide +kernel)) hth.2.2.2.2.2.2 (vx_hat (L := vx_atS RX0 43 "java/lang/IndexOutOfBoundsException" ["java/lang/RuntimeException", "java/lang/Exception"]) (B := [.declares (Bundle.initS "java/lang/RuntimeException"), .declares (Bundle.initS "java/lang/Exception"), .declares (Bundle.initS Bundle.tN), .castable "java/lang/IndexOutOfBoundsException" "java/lang/IndexOutOfBoundsException"]) (fun w hw => hts w ((by decide +kernel : ∀ w ∈ (vx_atS RX0 43 "java/lang/IndexOutOfBoundsException" ["java/lang/RuntimeException", "java/lang/Exception"]).filter goodWord, w ∈ wsX0_word) w hw)) (by decide +kernel) (vx_c (va_Nw.use rfl hth.1) (vx_c (va_Nw.use rfl hth.2.1) (vx_c (va_Nw.use rfl hth.2.2.1) (vx_c (va_Nw.use rfl hth.2.2.2.1) vx_n))))) (by decide +kernel) hth.2.2.2.2.1 hth.2.2.2.2.2.1 hS (hl.1.trans hml.symm) dX0_word_12 dX0_word_15 dX0_word_16 dX0_word_18 dX0_word_21 (fun x hx9 => (htab x hx9).elim) (Nat.le_of_ble_eq_true rfl) (Nat.le_of_ble_eq_true rfl) (Nat.le_of_ble_eq_true rfl) (Nat.le_of_ble_eq_true rfl) hlocks (fun t hal hz hk => ⟨(), trivial, ⟨rfl, hP.kept (fun k q hq => hk _ (vx_lt hP hq)), va_K.moved hal hK, hD⟩, ⟨hz, fun q hq _ => hk q hq⟩⟩) (fun z hz => absurd hz List.not_mem_nil) (Nat.le_refl _) (Nat.le_refl _)
set_option maxHeartbeats 4000000 in
set_option maxRecDepth 100000 in
theorem c_X0_word0b (l : Launch) (hlt : l.stackTraces = false) (D : va_G) (cI : ClassId) (sa : Nat) (h0 kw sc so tp ct sr : Nat) (kb kr : Int32) (sz0 : Nat) (i : Int32) (sz : Nat) (hbad : ¬ i < nI 0 ∧ ¬ i < nI sz0) : vx_Met l yX0_word wsX0_word ({ frames := 6, cells := 1, slots := 6, locals := 82 }) (va_Pc [.ref h0, .int i] (fun U => PW D [(cI, .int)] [(h0, .inr (0, [.ref kw, .int kb, .int kr, .ref sc, .ref so, .ref tp, .int (nI sz0), .ref ct, .ref sr]))] sz U ∧ thw "java/lang/IndexOutOfBoundsException" 95 "no such word of the tape" sa (va_A [(h0, .inr (0, [.ref kw, .int kb, .int kr, .ref sc, .ref so, .ref tp, .int (nI sz0), .ref ct, .ref sr]))] sz) U U.heap)) (va_Qi (fun (_ : Int32) (_ : Unit) => False) (fun _ _ => True) (va_A [(h0, .inr (0, [.ref kw, .int kb, .int kr, .ref sc, .ref so, .ref tp, .int (nI sz0), .ref ct, .ref sr]))] sz)) (vx_X (fun _ : Unit => True) (fun E _ t => E = "java/lang/IndexOutOfBoundsException" ∧ BW D [(cI, .int)] (va_A [(h0, .inr (0, [.ref kw, .int kb, .int kr, .ref sc, .ref so, .ref tp, .int (nI sz0), .ref ct, .ref sr]))] sz) [(h0, .inr (0, [.ref kw, .int kb, .int kr, .ref sc, .ref so, .ref tp, .int (nI sz0), .ref ct, .ref sr]))] t) (va_A [(h0, .inr (0, [.ref kw, .int kb, .int kr, .ref sc, .ref so, .ref tp, .int (nI sz0), .ref ct, .ref sr]))] sz)) 1 6 (va_A [(h0, .inr (0, [.ref kw, .int kb, .int kr, .ref sc, .ref so, .ref tp, .int (nI sz0), .ref ct, .ref sr]))] sz) := by
  refine vx_ofW (cc := cX0_word) (maxL := 2) (ret := (some .int)) (by decide) rfl ?_
  intro p e s m args below meth c s₁ B hml htab hv
  obtain ⟨rfl, ⟨hsz, hP, hK, hD0⟩, hth⟩ := hv
  have hx := B.exec
  have hb := B.bytes
  have hr := B.returns
  have hts := atoms_spec (ws := wsX0_word) B.pre
  have hown : s.vm.findClass RX0 = some m.cls := findClass_of_methodNamed B.named
  have hlocks := B.notSynchronized
  subst hsz
  have hD := hD0.self (sz := s.heap.size)
  have hinX0 := in_X0_word
  generalize hAe : va_A [(h0, .inr (0, [.ref kw, .int kb, .int kr, .ref sc, .ref so, .ref tp, .int (nI sz0), .ref ct, .ref sr]))] s.heap.size = A at hth hD ⊢
  have hA : ∀ q : Nat, s.heap.size ≤ q → A q := fun q h => by rw [← hAe]; exact Or.inr h
  have hS : va_S A s.heap s.heap [] := va_S.rf
  have hl := lv_entry ([.ref h0, .int i]) (n := 2) (Nat.le_of_ble_eq_true rfl)
  rw [lg_entry_eq]
  generalize (lg_sl ([.ref h0, .int i]) ++ List.replicate (2 - (lg_sl ([.ref h0, .int i])).length) Slot.unset).toArray = ls at hl ⊢
  have hl : lv_has ls 2 [(0, .ref h0), (1, .int i)] := hl
  refine lv_iload_n hx hb dX0_word_0 rfl (lv_at hl 1 rfl) ?_
  refine lv_if_lt (tgt := 12) hx hb dX0_word_1 (by decide) (fun c1 => absurd c1 (hbad.1)) (fun c1 => ?_)
  refine lv_iload_n hx hb dX0_word_4 rfl (lv_at hl 1 rfl) ?_
  refine lv_aload_n hx hb dX0_word_5 rfl (lv_at hl 0 rfl) ?_
  refine va_get (D := D) (ci := 0) (v := .int (nI sz0)) (C := RX0) (T := TX0) (N := 9) hx hb hts hinX0 hown hK hP 0 rfl rfl 6 (by decide) (hts (.fieldLink RX0 36 "SlicedCipher" "tapeLength" "I") (by decide +kernel)) (fun _ h9 => h9) rfl dX0_word_6 ?_
  refine lv_icmp_lt (tgt := 22) hx hb dX0_word_9 (by decide) (fun c9 => absurd c9 (hbad.2)) (fun c9 => ?_)
  exact vx_throwS (names := ["java/lang/RuntimeException", "java/lang/Exception"]) hx hb hlt hown (by decide +kernel) (by decide +kernel) (hts (.classLink RX0 39 "java/lang/IndexOutOfBoundsException") (by decide +kernel)) (hts (.initialized "java/lang/IndexOutOfBoundsException") (by decide +kernel)) hth.2.2.2.2.2.2 (vx_hat (L := vx_atS RX0 43 "java/lang/IndexOutOfBoundsException" ["java/lang/RuntimeException", "java/lang/Exception"]) (B := [.declares (Bundle.initS "java/lang/RuntimeException"), .declares (Bundle.initS "java/lang/Exception"), .declares (Bundle.initS Bundle.tN), .castable "java/lang/IndexOutOfBoundsException" "java/lang/IndexOutOfBoundsException"]) (fun w hw => hts w ((by decide +kernel : ∀ w ∈ (vx_atS RX0 43 "java/lang/IndexOutOfBoundsException" ["java/lang/RuntimeException", "java/lang/Exception"]).filter goodWord, w ∈ wsX0_word) w hw)) (by decide +kernel) (vx_c (va_Nw.use rfl hth.1) (vx_c (va_Nw.use rfl hth.2.1) (vx_c (va_Nw.use rfl hth.2.2.1) (vx_c (va_Nw.use rfl hth.2.2.2.1) vx_n))))) (by decide +kernel) hth.2.2.2.2.1 hth.2.2.2.2.2.1 hS (hl.1.trans hml.symm) dX0_word_12 dX0_word_15 dX0_word_16 dX0_word_18 dX0_word_21 (fun x hx9 => (htab x hx9).elim) (Nat.le_of_ble_eq_true rfl) (Nat.le_of_ble_eq_true rfl) (Nat.le_of_ble_eq_true rfl) (Nat.le_of_ble_eq_true rfl) hlocks (fun t hal hz hk => ⟨(), trivial, ⟨rfl, hP.kept (fun k q hq => hk _ (vx_lt hP hq)), va_K.moved hal hK, hD⟩, ⟨hz, fun q hq _ => hk q hq⟩⟩) (fun z hz => absurd hz List.not_mem_nil) (Nat.le_refl _) (Nat.le_refl _)
set_option maxHeartbeats 4000000 in
set_option maxRecDepth 100000 in
theorem c_X0_run0a (l : Launch) (hlt : l.stackTraces = false) (D : va_G) (cI : ClassId) (sa : Nat) (h0 kw sc so tp ct sr : Nat) (kb kr tl : Int32) (i bb : Int32) (sz : Nat) (hbad : i < nI 0) : vx_Met l yX0_run wsX0_run ({ frames := 7, cells := 1, slots := 6, locals := 112 }) (va_Pc [.ref h0, .int i, .int bb] (fun U => PW D [(cI, .int)] [(h0, .inr (0, [.ref kw, .int kb, .int kr, .ref sc, .ref so, .ref tp, .int tl, .ref ct, .ref sr]))] sz U ∧ thw "java/lang/IllegalArgumentException" 97 "no such mode" sa (va_A [(h0, .inr (0, [.ref kw, .int kb, .int kr, .ref sc, .ref so, .ref tp, .int tl, .ref ct, .ref sr]))] sz) U U.heap)) (va_Qi (fun (_ : Int32) (_ : Unit) => False) (fun _ _ => True) (va_A [(h0, .inr (0, [.ref kw, .int kb, .int kr, .ref sc, .ref so, .ref tp, .int tl, .ref ct, .ref sr]))] sz)) (vx_X (fun _ : Unit => True) (fun E _ t => E = "java/lang/IllegalArgumentException" ∧ BW D [(cI, .int)] (va_A [(h0, .inr (0, [.ref kw, .int kb, .int kr, .ref sc, .ref so, .ref tp, .int tl, .ref ct, .ref sr]))] sz) [(h0, .inr (0, [.ref kw, .int kb, .int kr, .ref sc, .ref so, .ref tp, .int tl, .ref ct, .ref sr]))] t) (va_A [(h0, .inr (0, [.ref kw, .int kb, .int kr, .ref sc, .ref so, .ref tp, .int tl, .ref ct, .ref sr]))] sz)) 1 6 (va_A [(h0, .inr (0, [.ref kw, .int kb, .int kr, .ref sc, .ref so, .ref tp, .int tl, .ref ct, .ref sr]))] sz) := by
  refine vx_ofW (cc := cX0_run) (maxL := 3) (ret := (some .int)) (by decide) rfl ?_
  intro p e s m args below meth c s₁ B hml htab hv
  obtain ⟨rfl, ⟨hsz, hP, hK, hD0⟩, hth⟩ := hv
  have hx := B.exec
  have hb := B.bytes
  have hr := B.returns
  have hts := atoms_spec (ws := wsX0_run) B.pre
  have hown : s.vm.findClass RX0 = some m.cls := findClass_of_methodNamed B.named
  have hlocks := B.notSynchronized
  subst hsz
  have hD := hD0.self (sz := s.heap.size)
  have hinX0 := in_X0_run
  generalize hAe : va_A [(h0, .inr (0, [.ref kw, .int kb, .int kr, .ref sc, .ref so, .ref tp, .int tl, .ref ct, .ref sr]))] s.heap.size = A at hth hD ⊢
  have hA : ∀ q : Nat, s.heap.size ≤ q → A q := fun q h => by rw [← hAe]; exact Or.inr h
  have hS : va_S A s.heap s.heap [] := va_S.rf
  have hl := lv_entry ([.ref h0, .int i, .int bb]) (n := 3) (Nat.le_of_ble_eq_true rfl)
  rw [lg_entry_eq]
  generalize (lg_sl ([.ref h0, .int i, .int bb]) ++ List.replicate (3 - (lg_sl ([.ref h0, .int i, .int bb])).length) Slot.unset).toArray = ls at hl ⊢
  have hl : lv_has ls 3 [(0, .ref h0), (1, .int i), (2, .int bb)] := hl
  refine lv_iload_n hx hb dX0_run_0 rfl (lv_at hl 1 rfl) ?_
  refine lv_if_lt (tgt := 9) hx hb dX0_run_1 (by decide) (fun c1 => ?_) (fun c1 => absurd c1 (fun h => h hbad))
  exact vx_throwS (names := ["java/lang/RuntimeException", "java/lang/Exception"]) hx hb hlt hown (by decide +kernel) (by decide +kernel) (hts (.classLink RX0 46 "java/lang/IllegalArgumentException") (by decide +kernel)) (hts (.initialized "java/lang/IllegalArgumentException") (by decide +kernel)) hth.2.2.2.2.2.2 (vx_hat (L := vx_atS RX0 50 "java/lang/IllegalArgumentException" ["java/lang/RuntimeException", "java/lang/Exception"]) (B := [.declares (Bundle.initS "java/lang/RuntimeException"), .declares (Bundle.initS "java/lang/Exception"), .declares (Bundle.initS Bundle.tN), .castable "java/lang/IllegalArgumentException" "java/lang/IllegalArgumentException"]) (fun w hw => hts w ((by decide +kernel : ∀ w ∈ (vx_atS RX0 50 "java/lang/IllegalArgumentException" ["java/lang/RuntimeException", "java/lang/Exception"]).filter goodWord, w ∈ wsX0_run) w hw)) (by decide +kernel) (vx_c (va_Nw.use rfl hth.1) (vx_c (va_Nw.use rfl hth.2.1) (vx_c (va_Nw.use rfl hth.2.2.1) (vx_c (va_Nw.use rfl hth.2.2.2.1) vx_n))))) (by decide +kernel) hth.2.2.2.2.1 hth.2.2.2.2.2.1 hS (hl.1.trans hml.symm) dX0_run_9 dX0_run_12 dX0_run_13 dX0_run_15 dX0_run_18 (fun x hx9 => (htab x hx9).elim) (Nat.le_of_ble_eq_true rfl) (Nat.le_of_ble_eq_true rfl) (Nat.le_of_ble_eq_true rfl) (Nat.le_of_ble_eq_true rfl) hlocks (fun t hal hz hk => ⟨(), trivial, ⟨rfl, hP.kept (fun k q hq => hk _ (vx_lt hP hq)), va_K.moved hal hK, hD⟩, ⟨hz, fun q hq _ => hk q hq⟩⟩) (fun z hz => absurd hz List.not_mem_nil) (Nat.le_refl _) (Nat.le_refl _)
set_option maxHeartbeats 4000000 in
set_option maxRecDepth 100000 in
theorem c_X0_run0b (l : Launch) (hlt : l.stackTraces = false) (D : va_G) (cI : ClassId) (sa : Nat) (h0 kw sc so tp ct sr : Nat) (kb kr tl : Int32) (i bb : Int32) (sz : Nat) (hbad : ¬ i < nI 0 ∧ ¬ i ≤ nI 2) : vx_Met l yX0_run wsX0_run ({ frames := 7, cells := 1, slots := 6, locals := 112 }) (va_Pc [.ref h0, .int i, .int bb] (fun U => PW D [(cI, .int)] [(h0, .inr (0, [.ref kw, .int kb, .int kr, .ref sc, .ref so, .ref tp, .int tl, .ref ct, .ref sr]))] sz U ∧ thw "java/lang/IllegalArgumentException" 97 "no such mode" sa (va_A [(h0, .inr (0, [.ref kw, .int kb, .int kr, .ref sc, .ref so, .ref tp, .int tl, .ref ct, .ref sr]))] sz) U U.heap)) (va_Qi (fun (_ : Int32) (_ : Unit) => False) (fun _ _ => True) (va_A [(h0, .inr (0, [.ref kw, .int kb, .int kr, .ref sc, .ref so, .ref tp, .int tl, .ref ct, .ref sr]))] sz)) (vx_X (fun _ : Unit => True) (fun E _ t => E = "java/lang/IllegalArgumentException" ∧ BW D [(cI, .int)] (va_A [(h0, .inr (0, [.ref kw, .int kb, .int kr, .ref sc, .ref so, .ref tp, .int tl, .ref ct, .ref sr]))] sz) [(h0, .inr (0, [.ref kw, .int kb, .int kr, .ref sc, .ref so, .ref tp, .int tl, .ref ct, .ref sr]))] t) (va_A [(h0, .inr (0, [.ref kw, .int kb, .int kr, .ref sc, .ref so, .ref tp, .int tl, .ref ct, .ref sr]))] sz)) 1 6 (va_A [(h0, .inr (0, [.ref kw, .int kb, .int kr, .ref sc, .ref so, .ref tp, .int tl, .ref ct, .ref sr]))] sz) := by
  refine vx_ofW (cc := cX0_run) (maxL := 3) (ret := (some .int)) (by decide) rfl ?_
  intro p e s m args below meth c s₁ B hml htab hv
  obtain ⟨rfl, ⟨hsz, hP, hK, hD0⟩, hth⟩ := hv
  have hx := B.exec
  have hb := B.bytes
  have hr := B.returns
  have hts := atoms_spec (ws := wsX0_run) B.pre
  have hown : s.vm.findClass RX0 = some m.cls := findClass_of_methodNamed B.named
  have hlocks := B.notSynchronized
  subst hsz
  have hD := hD0.self (sz := s.heap.size)
  have hinX0 := in_X0_run
  generalize hAe : va_A [(h0, .inr (0, [.ref kw, .int kb, .int kr, .ref sc, .ref so, .ref tp, .int tl, .ref ct, .ref sr]))] s.heap.size = A at hth hD ⊢
  have hA : ∀ q : Nat, s.heap.size ≤ q → A q := fun q h => by rw [← hAe]; exact Or.inr h
  have hS : va_S A s.heap s.heap [] := va_S.rf
  have hl := lv_entry ([.ref h0, .int i, .int bb]) (n := 3) (Nat.le_of_ble_eq_true rfl)
  rw [lg_entry_eq]
  generalize (lg_sl ([.ref h0, .int i, .int bb]) ++ List.replicate (3 - (lg_sl ([.ref h0, .int i, .int bb])).length) Slot.unset).toArray = ls at hl ⊢
  have hl : lv_has ls 3 [(0, .ref h0), (1, .int i), (2, .int bb)] := hl
  refine lv_iload_n hx hb dX0_run_0 rfl (lv_at hl 1 rfl) ?_
  refine lv_if_lt (tgt := 9) hx hb dX0_run_1 (by decide) (fun c1 => absurd c1 (hbad.1)) (fun c1 => ?_)
  refine lv_iload_n hx hb dX0_run_4 rfl (lv_at hl 1 rfl) ?_
  refine lv_iconst (v := nI 2) hx hb dX0_run_5 (by decide) ?_
  refine lv_icmp_le (tgt := 19) hx hb dX0_run_6 (by decide) (fun c6 => absurd c6 (hbad.2)) (fun c6 => ?_)
  exact vx_throwS (names := ["java/lang/RuntimeException", "java/lang/Exception"]) hx hb hlt hown (by decide +kernel) (by decide +kernel) (hts (.classLink RX0 46 "java/lang/IllegalArgumentException") (by decide +kernel)) (hts (.initialized "java/lang/IllegalArgumentException") (by decide +kernel)) hth.2.2.2.2.2.2 (vx_hat (L := vx_atS RX0 50 "java/lang/IllegalArgumentException" ["java/lang/RuntimeException", "java/lang/Exception"]) (B := [.declares (Bundle.initS "java/lang/RuntimeException"), .declares (Bundle.initS "java/lang/Exception"), .declares (Bundle.initS Bundle.tN), .castable "java/lang/IllegalArgumentException" "java/lang/IllegalArgumentException"]) (fun w hw => hts w ((by decide +kernel : ∀ w ∈ (vx_atS RX0 50 "java/lang/IllegalArgumentException" ["java/lang/RuntimeException", "java/lang/Exception"]).filter goodWord, w ∈ wsX0_run) w hw)) (by decide +kernel) (vx_c (va_Nw.use rfl hth.1) (vx_c (va_Nw.use rfl hth.2.1) (vx_c (va_Nw.use rfl hth.2.2.1) (vx_c (va_Nw.use rfl hth.2.2.2.1) vx_n))))) (by decide +kernel) hth.2.2.2.2.1 hth.2.2.2.2.2.1 hS (hl.1.trans hml.symm) dX0_run_9 dX0_run_12 dX0_run_13 dX0_run_15 dX0_run_18 (fun x hx9 => (htab x hx9).elim) (Nat.le_of_ble_eq_true rfl) (Nat.le_of_ble_eq_true rfl) (Nat.le_of_ble_eq_true rfl) (Nat.le_of_ble_eq_true rfl) hlocks (fun t hal hz hk => ⟨(), trivial, ⟨rfl, hP.kept (fun k q hq => hk _ (vx_lt hP hq)), va_K.moved hal hK, hD⟩, ⟨hz, fun q hq _ => hk q hq⟩⟩) (fun z hz => absurd hz List.not_mem_nil) (Nat.le_refl _) (Nat.le_refl _)
set_option maxHeartbeats 4000000 in
set_option maxRecDepth 100000 in
theorem c_X0_seal0a (l : Launch) (hlt : l.stackTraces = false) (D : va_G) (cI : ClassId) (sa : Nat) (h0 kw sc so tp ct sr : Nat) (kb kr tl : Int32) (i : Int32) (sz : Nat) (hbad : i < nI 0) : vx_Met l yX0_seal wsX0_seal ({ frames := 7, cells := 1, slots := 6, locals := 112 }) (va_Pc [.ref h0, .int i] (fun U => PW D [(cI, .int)] [(h0, .inr (0, [.ref kw, .int kb, .int kr, .ref sc, .ref so, .ref tp, .int tl, .ref ct, .ref sr]))] sz U ∧ thw "java/lang/IndexOutOfBoundsException" 115 "no such word of the seal" sa (va_A [(h0, .inr (0, [.ref kw, .int kb, .int kr, .ref sc, .ref so, .ref tp, .int tl, .ref ct, .ref sr]))] sz) U U.heap)) (va_Qi (fun (_ : Int32) (_ : Unit) => False) (fun _ _ => True) (va_A [(h0, .inr (0, [.ref kw, .int kb, .int kr, .ref sc, .ref so, .ref tp, .int tl, .ref ct, .ref sr]))] sz)) (vx_X (fun _ : Unit => True) (fun E _ t => E = "java/lang/IndexOutOfBoundsException" ∧ BW D [(cI, .int)] (va_A [(h0, .inr (0, [.ref kw, .int kb, .int kr, .ref sc, .ref so, .ref tp, .int tl, .ref ct, .ref sr]))] sz) [(h0, .inr (0, [.ref kw, .int kb, .int kr, .ref sc, .ref so, .ref tp, .int tl, .ref ct, .ref sr]))] t) (va_A [(h0, .inr (0, [.ref kw, .int kb, .int kr, .ref sc, .ref so, .ref tp, .int tl, .ref ct, .ref sr]))] sz)) 1 6 (va_A [(h0, .inr (0, [.ref kw, .int kb, .int kr, .ref sc, .ref so, .ref tp, .int tl, .ref ct, .ref sr]))] sz) := by
  refine vx_ofW (cc := cX0_seal) (maxL := 3) (ret := (some .int)) (by decide) rfl ?_
  intro p e s m args below meth c s₁ B hml htab hv
  obtain ⟨rfl, ⟨hsz, hP, hK, hD0⟩, hth⟩ := hv
  have hx := B.exec
  have hb := B.bytes
  have hr := B.returns
  have hts := atoms_spec (ws := wsX0_seal) B.pre
  have hown : s.vm.findClass RX0 = some m.cls := findClass_of_methodNamed B.named
  have hlocks := B.notSynchronized
  subst hsz
  have hD := hD0.self (sz := s.heap.size)
  have hinX0 := in_X0_seal
  generalize hAe : va_A [(h0, .inr (0, [.ref kw, .int kb, .int kr, .ref sc, .ref so, .ref tp, .int tl, .ref ct, .ref sr]))] s.heap.size = A at hth hD ⊢
  have hA : ∀ q : Nat, s.heap.size ≤ q → A q := fun q h => by rw [← hAe]; exact Or.inr h
  have hS : va_S A s.heap s.heap [] := va_S.rf
  have hl := lv_entry ([.ref h0, .int i]) (n := 3) (Nat.le_of_ble_eq_true rfl)
  rw [lg_entry_eq]
  generalize (lg_sl ([.ref h0, .int i]) ++ List.replicate (3 - (lg_sl ([.ref h0, .int i])).length) Slot.unset).toArray = ls at hl ⊢
  have hl : lv_has ls 3 [(0, .ref h0), (1, .int i)] := hl
  refine lv_iload_n hx hb dX0_seal_0 rfl (lv_at hl 1 rfl) ?_
  refine lv_if_lt (tgt := 9) hx hb dX0_seal_1 (by decide) (fun c1 => ?_) (fun c1 => absurd c1 (fun h => h hbad))
  exact vx_throwS (names := ["java/lang/RuntimeException", "java/lang/Exception"]) hx hb hlt hown (by decide +kernel) (by decide +kernel) (hts (.classLink RX0 39 "java/lang/IndexOutOfBoundsException") (by decide +kernel)) (hts (.initialized "java/lang/IndexOutOfBoundsException") (by decide +kernel)) hth.2.2.2.2.2.2 (vx_hat (L := vx_atS RX0 43 "java/lang/IndexOutOfBoundsException" ["java/lang/RuntimeException", "java/lang/Exception"]) (B := [.declares (Bundle.initS "java/lang/RuntimeException"), .declares (Bundle.initS "java/lang/Exception"), .declares (Bundle.initS Bundle.tN), .castable "java/lang/IndexOutOfBoundsException" "java/lang/IndexOutOfBoundsException"]) (fun w hw => hts w ((by decide +kernel : ∀ w ∈ (vx_atS RX0 43 "java/lang/IndexOutOfBoundsException" ["java/lang/RuntimeException", "java/lang/Exception"]).filter goodWord, w ∈ wsX0_seal) w hw)) (by decide +kernel) (vx_c (va_Nw.use rfl hth.1) (vx_c (va_Nw.use rfl hth.2.1) (vx_c (va_Nw.use rfl hth.2.2.1) (vx_c (va_Nw.use rfl hth.2.2.2.1) vx_n))))) (by decide +kernel) hth.2.2.2.2.1 hth.2.2.2.2.2.1 hS (hl.1.trans hml.symm) dX0_seal_9 dX0_seal_12 dX0_seal_13 dX0_seal_15 dX0_seal_18 (fun x hx9 => (htab x hx9).elim) (Nat.le_of_ble_eq_true rfl) (Nat.le_of_ble_eq_true rfl) (Nat.le_of_ble_eq_true rfl) (Nat.le_of_ble_eq_true rfl) hlocks (fun t hal hz hk => ⟨(), trivial, ⟨rfl, hP.kept (fun k q hq => hk _ (vx_lt hP hq)), va_K.moved hal hK, hD⟩, ⟨hz, fun q hq _ => hk q hq⟩⟩) (fun z hz => absurd hz List.not_mem_nil) (Nat.le_refl _) (Nat.le_refl _)
set_option maxHeartbeats 4000000 in
set_option maxRecDepth 100000 in
theorem c_X0_seal0b (l : Launch) (hlt : l.stackTraces = false) (D : va_G) (cI : ClassId) (sa : Nat) (h0 kw sc so tp ct sr : Nat) (kb kr tl : Int32) (i : Int32) (sz : Nat) (hbad : ¬ i < nI 0 ∧ ¬ i < nI 4) : vx_Met l yX0_seal wsX0_seal ({ frames := 7, cells := 1, slots := 6, locals := 112 }) (va_Pc [.ref h0, .int i] (fun U => PW D [(cI, .int)] [(h0, .inr (0, [.ref kw, .int kb, .int kr, .ref sc, .ref so, .ref tp, .int tl, .ref ct, .ref sr]))] sz U ∧ thw "java/lang/IndexOutOfBoundsException" 115 "no such word of the seal" sa (va_A [(h0, .inr (0, [.ref kw, .int kb, .int kr, .ref sc, .ref so, .ref tp, .int tl, .ref ct, .ref sr]))] sz) U U.heap)) (va_Qi (fun (_ : Int32) (_ : Unit) => False) (fun _ _ => True) (va_A [(h0, .inr (0, [.ref kw, .int kb, .int kr, .ref sc, .ref so, .ref tp, .int tl, .ref ct, .ref sr]))] sz)) (vx_X (fun _ : Unit => True) (fun E _ t => E = "java/lang/IndexOutOfBoundsException" ∧ BW D [(cI, .int)] (va_A [(h0, .inr (0, [.ref kw, .int kb, .int kr, .ref sc, .ref so, .ref tp, .int tl, .ref ct, .ref sr]))] sz) [(h0, .inr (0, [.ref kw, .int kb, .int kr, .ref sc, .ref so, .ref tp, .int tl, .ref ct, .ref sr]))] t) (va_A [(h0, .inr (0, [.ref kw, .int kb, .int kr, .ref sc, .ref so, .ref tp, .int tl, .ref ct, .ref sr]))] sz)) 1 6 (va_A [(h0, .inr (0, [.ref kw, .int kb, .int kr, .ref sc, .ref so, .ref tp, .int tl, .ref ct, .ref sr]))] sz) := by
  refine vx_ofW (cc := cX0_seal) (maxL := 3) (ret := (some .int)) (by decide) rfl ?_
  intro p e s m args below meth c s₁ B hml htab hv
  obtain ⟨rfl, ⟨hsz, hP, hK, hD0⟩, hth⟩ := hv
  have hx := B.exec
  have hb := B.bytes
  have hr := B.returns
  have hts := atoms_spec (ws := wsX0_seal) B.pre
  have hown : s.vm.findClass RX0 = some m.cls := findClass_of_methodNamed B.named
  have hlocks := B.notSynchronized
  subst hsz
  have hD := hD0.self (sz := s.heap.size)
  have hinX0 := in_X0_seal
  generalize hAe : va_A [(h0, .inr (0, [.ref kw, .int kb, .int kr, .ref sc, .ref so, .ref tp, .int tl, .ref ct, .ref sr]))] s.heap.size = A at hth hD ⊢
  have hA : ∀ q : Nat, s.heap.size ≤ q → A q := fun q h => by rw [← hAe]; exact Or.inr h
  have hS : va_S A s.heap s.heap [] := va_S.rf
  have hl := lv_entry ([.ref h0, .int i]) (n := 3) (Nat.le_of_ble_eq_true rfl)
  rw [lg_entry_eq]
  generalize (lg_sl ([.ref h0, .int i]) ++ List.replicate (3 - (lg_sl ([.ref h0, .int i])).length) Slot.unset).toArray = ls at hl ⊢
  have hl : lv_has ls 3 [(0, .ref h0), (1, .int i)] := hl
  refine lv_iload_n hx hb dX0_seal_0 rfl (lv_at hl 1 rfl) ?_
  refine lv_if_lt (tgt := 9) hx hb dX0_seal_1 (by decide) (fun c1 => absurd c1 (hbad.1)) (fun c1 => ?_)
  refine lv_iload_n hx hb dX0_seal_4 rfl (lv_at hl 1 rfl) ?_
  refine lv_iconst (v := nI 4) hx hb dX0_seal_5 (by decide) ?_
  refine lv_icmp_lt (tgt := 19) hx hb dX0_seal_6 (by decide) (fun c6 => absurd c6 (hbad.2)) (fun c6 => ?_)
  exact vx_throwS (names := ["java/lang/RuntimeException", "java/lang/Exception"]) hx hb hlt hown (by decide +kernel) (by decide +kernel) (hts (.classLink RX0 39 "java/lang/IndexOutOfBoundsException") (by decide +kernel)) (hts (.initialized "java/lang/IndexOutOfBoundsException") (by decide +kernel)) hth.2.2.2.2.2.2 (vx_hat (L := vx_atS RX0 43 "java/lang/IndexOutOfBoundsException" ["java/lang/RuntimeException", "java/lang/Exception"]) (B := [.declares (Bundle.initS "java/lang/RuntimeException"), .declares (Bundle.initS "java/lang/Exception"), .declares (Bundle.initS Bundle.tN), .castable "java/lang/IndexOutOfBoundsException" "java/lang/IndexOutOfBoundsException"]) (fun w hw => hts w ((by decide +kernel : ∀ w ∈ (vx_atS RX0 43 "java/lang/IndexOutOfBoundsException" ["java/lang/RuntimeException", "java/lang/Exception"]).filter goodWord, w ∈ wsX0_seal) w hw)) (by decide +kernel) (vx_c (va_Nw.use rfl hth.1) (vx_c (va_Nw.use rfl hth.2.1) (vx_c (va_Nw.use rfl hth.2.2.1) (vx_c (va_Nw.use rfl hth.2.2.2.1) vx_n))))) (by decide +kernel) hth.2.2.2.2.1 hth.2.2.2.2.2.1 hS (hl.1.trans hml.symm) dX0_seal_9 dX0_seal_12 dX0_seal_13 dX0_seal_15 dX0_seal_18 (fun x hx9 => (htab x hx9).elim) (Nat.le_of_ble_eq_true rfl) (Nat.le_of_ble_eq_true rfl) (Nat.le_of_ble_eq_true rfl) (Nat.le_of_ble_eq_true rfl) hlocks (fun t hal hz hk => ⟨(), trivial, ⟨rfl, hP.kept (fun k q hq => hk _ (vx_lt hP hq)), va_K.moved hal hK, hD⟩, ⟨hz, fun q hq _ => hk q hq⟩⟩) (fun z hz => absurd hz List.not_mem_nil) (Nat.le_refl _) (Nat.le_refl _)
set_option maxHeartbeats 4000000 in
set_option maxRecDepth 100000 in
theorem c_X0_round0a (l : Launch) (hlt : l.stackTraces = false) (D : va_G) (cI : ClassId) (sa : Nat) (h0 kw sc so tp ct sr : Nat) (kb kr tl : Int32) (i j : Int32) (sz : Nat) (hbad : i < nI 0) : vx_Met l yX0_round wsX0_round ({ frames := 7, cells := 1, slots := 6, locals := 112 }) (va_Pc [.ref h0, .int i, .int j] (fun U => PW D [(cI, .int)] [(h0, .inr (0, [.ref kw, .int kb, .int kr, .ref sc, .ref so, .ref tp, .int tl, .ref ct, .ref sr]))] sz U ∧ thw "java/lang/IndexOutOfBoundsException" 71 "no such word of a round key" sa (va_A [(h0, .inr (0, [.ref kw, .int kb, .int kr, .ref sc, .ref so, .ref tp, .int tl, .ref ct, .ref sr]))] sz) U U.heap)) (va_Qi (fun (_ : Int32) (_ : Unit) => False) (fun _ _ => True) (va_A [(h0, .inr (0, [.ref kw, .int kb, .int kr, .ref sc, .ref so, .ref tp, .int tl, .ref ct, .ref sr]))] sz)) (vx_X (fun _ : Unit => True) (fun E _ t => E = "java/lang/IndexOutOfBoundsException" ∧ BW D [(cI, .int)] (va_A [(h0, .inr (0, [.ref kw, .int kb, .int kr, .ref sc, .ref so, .ref tp, .int tl, .ref ct, .ref sr]))] sz) [(h0, .inr (0, [.ref kw, .int kb, .int kr, .ref sc, .ref so, .ref tp, .int tl, .ref ct, .ref sr]))] t) (va_A [(h0, .inr (0, [.ref kw, .int kb, .int kr, .ref sc, .ref so, .ref tp, .int tl, .ref ct, .ref sr]))] sz)) 1 6 (va_A [(h0, .inr (0, [.ref kw, .int kb, .int kr, .ref sc, .ref so, .ref tp, .int tl, .ref ct, .ref sr]))] sz) := by
  refine vx_ofW (cc := cX0_round) (maxL := 3) (ret := (some .int)) (by decide) rfl ?_
  intro p e s m args below meth c s₁ B hml htab hv
  obtain ⟨rfl, ⟨hsz, hP, hK, hD0⟩, hth⟩ := hv
  have hx := B.exec
  have hb := B.bytes
  have hr := B.returns
  have hts := atoms_spec (ws := wsX0_round) B.pre
  have hown : s.vm.findClass RX0 = some m.cls := findClass_of_methodNamed B.named
  have hlocks := B.notSynchronized
  subst hsz
  have hD := hD0.self (sz := s.heap.size)
  have hinX0 := in_X0_round
  generalize hAe : va_A [(h0, .inr (0, [.ref kw, .int kb, .int kr, .ref sc, .ref so, .ref tp, .int tl, .ref ct, .ref sr]))] s.heap.size = A at hth hD ⊢
  have hA : ∀ q : Nat, s.heap.size ≤ q → A q := fun q h => by rw [← hAe]; exact Or.inr h
  have hS : va_S A s.heap s.heap [] := va_S.rf
  have hl := lv_entry ([.ref h0, .int i, .int j]) (n := 3) (Nat.le_of_ble_eq_true rfl)
  rw [lg_entry_eq]
  generalize (lg_sl ([.ref h0, .int i, .int j]) ++ List.replicate (3 - (lg_sl ([.ref h0, .int i, .int j])).length) Slot.unset).toArray = ls at hl ⊢
  have hl : lv_has ls 3 [(0, .ref h0), (1, .int i), (2, .int j)] := hl
  refine lv_iload_n hx hb dX0_round_0 rfl (lv_at hl 1 rfl) ?_
  refine lv_if_lt (tgt := 19) hx hb dX0_round_1 (by decide) (fun c1 => ?_) (fun c1 => absurd c1 (fun h => h hbad))
  exact vx_throwS (names := ["java/lang/RuntimeException", "java/lang/Exception"]) hx hb hlt hown (by decide +kernel) (by decide +kernel) (hts (.classLink RX0 39 "java/lang/IndexOutOfBoundsException") (by decide +kernel)) (hts (.initialized "java/lang/IndexOutOfBoundsException") (by decide +kernel)) hth.2.2.2.2.2.2 (vx_hat (L := vx_atS RX0 43 "java/lang/IndexOutOfBoundsException" ["java/lang/RuntimeException", "java/lang/Exception"]) (B := [.declares (Bundle.initS "java/lang/RuntimeException"), .declares (Bundle.initS "java/lang/Exception"), .declares (Bundle.initS Bundle.tN), .castable "java/lang/IndexOutOfBoundsException" "java/lang/IndexOutOfBoundsException"]) (fun w hw => hts w ((by decide +kernel : ∀ w ∈ (vx_atS RX0 43 "java/lang/IndexOutOfBoundsException" ["java/lang/RuntimeException", "java/lang/Exception"]).filter goodWord, w ∈ wsX0_round) w hw)) (by decide +kernel) (vx_c (va_Nw.use rfl hth.1) (vx_c (va_Nw.use rfl hth.2.1) (vx_c (va_Nw.use rfl hth.2.2.1) (vx_c (va_Nw.use rfl hth.2.2.2.1) vx_n))))) (by decide +kernel) hth.2.2.2.2.1 hth.2.2.2.2.2.1 hS (hl.1.trans hml.symm) dX0_round_19 dX0_round_22 dX0_round_23 dX0_round_25 dX0_round_28 (fun x hx9 => (htab x hx9).elim) (Nat.le_of_ble_eq_true rfl) (Nat.le_of_ble_eq_true rfl) (Nat.le_of_ble_eq_true rfl) (Nat.le_of_ble_eq_true rfl) hlocks (fun t hal hz hk => ⟨(), trivial, ⟨rfl, hP.kept (fun k q hq => hk _ (vx_lt hP hq)), va_K.moved hal hK, hD⟩, ⟨hz, fun q hq _ => hk q hq⟩⟩) (fun z hz => absurd hz List.not_mem_nil) (Nat.le_refl _) (Nat.le_refl _)
set_option maxHeartbeats 4000000 in
set_option maxRecDepth 100000 in
theorem c_X0_round0b (l : Launch) (hlt : l.stackTraces = false) (D : va_G) (cI : ClassId) (sa : Nat) (h0 kw sc so tp ct sr : Nat) (kb kr tl : Int32) (i j : Int32) (sz : Nat) (hbad : ¬ i < nI 0 ∧ nI 32 < i) : vx_Met l yX0_round wsX0_round ({ frames := 7, cells := 1, slots := 6, locals := 112 }) (va_Pc [.ref h0, .int i, .int j] (fun U => PW D [(cI, .int)] [(h0, .inr (0, [.ref kw, .int kb, .int kr, .ref sc, .ref so, .ref tp, .int tl, .ref ct, .ref sr]))] sz U ∧ thw "java/lang/IndexOutOfBoundsException" 71 "no such word of a round key" sa (va_A [(h0, .inr (0, [.ref kw, .int kb, .int kr, .ref sc, .ref so, .ref tp, .int tl, .ref ct, .ref sr]))] sz) U U.heap)) (va_Qi (fun (_ : Int32) (_ : Unit) => False) (fun _ _ => True) (va_A [(h0, .inr (0, [.ref kw, .int kb, .int kr, .ref sc, .ref so, .ref tp, .int tl, .ref ct, .ref sr]))] sz)) (vx_X (fun _ : Unit => True) (fun E _ t => E = "java/lang/IndexOutOfBoundsException" ∧ BW D [(cI, .int)] (va_A [(h0, .inr (0, [.ref kw, .int kb, .int kr, .ref sc, .ref so, .ref tp, .int tl, .ref ct, .ref sr]))] sz) [(h0, .inr (0, [.ref kw, .int kb, .int kr, .ref sc, .ref so, .ref tp, .int tl, .ref ct, .ref sr]))] t) (va_A [(h0, .inr (0, [.ref kw, .int kb, .int kr, .ref sc, .ref so, .ref tp, .int tl, .ref ct, .ref sr]))] sz)) 1 6 (va_A [(h0, .inr (0, [.ref kw, .int kb, .int kr, .ref sc, .ref so, .ref tp, .int tl, .ref ct, .ref sr]))] sz) := by
  refine vx_ofW (cc := cX0_round) (maxL := 3) (ret := (some .int)) (by decide) rfl ?_
  intro p e s m args below meth c s₁ B hml htab hv
  obtain ⟨rfl, ⟨hsz, hP, hK, hD0⟩, hth⟩ := hv
  have hx := B.exec
  have hb := B.bytes
  have hr := B.returns
  have hts := atoms_spec (ws := wsX0_round) B.pre
  have hown : s.vm.findClass RX0 = some m.cls := findClass_of_methodNamed B.named
  have hlocks := B.notSynchronized
  subst hsz
  have hD := hD0.self (sz := s.heap.size)
  have hinX0 := in_X0_round
  generalize hAe : va_A [(h0, .inr (0, [.ref kw, .int kb, .int kr, .ref sc, .ref so, .ref tp, .int tl, .ref ct, .ref sr]))] s.heap.size = A at hth hD ⊢
  have hA : ∀ q : Nat, s.heap.size ≤ q → A q := fun q h => by rw [← hAe]; exact Or.inr h
  have hS : va_S A s.heap s.heap [] := va_S.rf
  have hl := lv_entry ([.ref h0, .int i, .int j]) (n := 3) (Nat.le_of_ble_eq_true rfl)
  rw [lg_entry_eq]
  generalize (lg_sl ([.ref h0, .int i, .int j]) ++ List.replicate (3 - (lg_sl ([.ref h0, .int i, .int j])).length) Slot.unset).toArray = ls at hl ⊢
  have hl : lv_has ls 3 [(0, .ref h0), (1, .int i), (2, .int j)] := hl
  refine lv_iload_n hx hb dX0_round_0 rfl (lv_at hl 1 rfl) ?_
  refine lv_if_lt (tgt := 19) hx hb dX0_round_1 (by decide) (fun c1 => absurd c1 (hbad.1)) (fun c1 => ?_)
  refine lv_iload_n hx hb dX0_round_4 rfl (lv_at hl 1 rfl) ?_
  refine lv_bipush (v := nI 32) hx hb dX0_round_5 (by decide) ?_
  refine lv_icmp_gt (tgt := 19) hx hb dX0_round_7 (by decide) (fun c7 => ?_) (fun c7 => absurd c7 (fun h => h hbad.2))
  exact vx_throwS (names := ["java/lang/RuntimeException", "java/lang/Exception"]) hx hb hlt hown (by decide +kernel) (by decide +kernel) (hts (.classLink RX0 39 "java/lang/IndexOutOfBoundsException") (by decide +kernel)) (hts (.initialized "java/lang/IndexOutOfBoundsException") (by decide +kernel)) hth.2.2.2.2.2.2 (vx_hat (L := vx_atS RX0 43 "java/lang/IndexOutOfBoundsException" ["java/lang/RuntimeException", "java/lang/Exception"]) (B := [.declares (Bundle.initS "java/lang/RuntimeException"), .declares (Bundle.initS "java/lang/Exception"), .declares (Bundle.initS Bundle.tN), .castable "java/lang/IndexOutOfBoundsException" "java/lang/IndexOutOfBoundsException"]) (fun w hw => hts w ((by decide +kernel : ∀ w ∈ (vx_atS RX0 43 "java/lang/IndexOutOfBoundsException" ["java/lang/RuntimeException", "java/lang/Exception"]).filter goodWord, w ∈ wsX0_round) w hw)) (by decide +kernel) (vx_c (va_Nw.use rfl hth.1) (vx_c (va_Nw.use rfl hth.2.1) (vx_c (va_Nw.use rfl hth.2.2.1) (vx_c (va_Nw.use rfl hth.2.2.2.1) vx_n))))) (by decide +kernel) hth.2.2.2.2.1 hth.2.2.2.2.2.1 hS (hl.1.trans hml.symm) dX0_round_19 dX0_round_22 dX0_round_23 dX0_round_25 dX0_round_28 (fun x hx9 => (htab x hx9).elim) (Nat.le_of_ble_eq_true rfl) (Nat.le_of_ble_eq_true rfl) (Nat.le_of_ble_eq_true rfl) (Nat.le_of_ble_eq_true rfl) hlocks (fun t hal hz hk => ⟨(), trivial, ⟨rfl, hP.kept (fun k q hq => hk _ (vx_lt hP hq)), va_K.moved hal hK, hD⟩, ⟨hz, fun q hq _ => hk q hq⟩⟩) (fun z hz => absurd hz List.not_mem_nil) (Nat.le_refl _) (Nat.le_refl _)
set_option maxHeartbeats 4000000 in
set_option maxRecDepth 100000 in
theorem c_X0_round0c (l : Launch) (hlt : l.stackTraces = false) (D : va_G) (cI : ClassId) (sa : Nat) (h0 kw sc so tp ct sr : Nat) (kb kr tl : Int32) (r : Nat) (j : Int32) (sz : Nat) (hr : r ≤ 32) (hbad : j < nI 0) : vx_Met l yX0_round wsX0_round ({ frames := 7, cells := 1, slots := 6, locals := 112 }) (va_Pc [.ref h0, .int (nI r), .int j] (fun U => PW D [(cI, .int)] [(h0, .inr (0, [.ref kw, .int kb, .int kr, .ref sc, .ref so, .ref tp, .int tl, .ref ct, .ref sr]))] sz U ∧ thw "java/lang/IndexOutOfBoundsException" 71 "no such word of a round key" sa (va_A [(h0, .inr (0, [.ref kw, .int kb, .int kr, .ref sc, .ref so, .ref tp, .int tl, .ref ct, .ref sr]))] sz) U U.heap)) (va_Qi (fun (_ : Int32) (_ : Unit) => False) (fun _ _ => True) (va_A [(h0, .inr (0, [.ref kw, .int kb, .int kr, .ref sc, .ref so, .ref tp, .int tl, .ref ct, .ref sr]))] sz)) (vx_X (fun _ : Unit => True) (fun E _ t => E = "java/lang/IndexOutOfBoundsException" ∧ BW D [(cI, .int)] (va_A [(h0, .inr (0, [.ref kw, .int kb, .int kr, .ref sc, .ref so, .ref tp, .int tl, .ref ct, .ref sr]))] sz) [(h0, .inr (0, [.ref kw, .int kb, .int kr, .ref sc, .ref so, .ref tp, .int tl, .ref ct, .ref sr]))] t) (va_A [(h0, .inr (0, [.ref kw, .int kb, .int kr, .ref sc, .ref so, .ref tp, .int tl, .ref ct, .ref sr]))] sz)) 1 6 (va_A [(h0, .inr (0, [.ref kw, .int kb, .int kr, .ref sc, .ref so, .ref tp, .int tl, .ref ct, .ref sr]))] sz) := by
  refine vx_ofW (cc := cX0_round) (maxL := 3) (ret := (some .int)) (by decide) rfl ?_
  intro p e s m args below meth c s₁ B hml htab hv
  obtain ⟨rfl, ⟨hsz, hP, hK, hD0⟩, hth⟩ := hv
  have hx := B.exec
  have hb := B.bytes
  have hr := B.returns
  have hts := atoms_spec (ws := wsX0_round) B.pre
  have hown : s.vm.findClass RX0 = some m.cls := findClass_of_methodNamed B.named
  have hlocks := B.notSynchronized
  subst hsz
  have hD := hD0.self (sz := s.heap.size)
  have hinX0 := in_X0_round
  generalize hAe : va_A [(h0, .inr (0, [.ref kw, .int kb, .int kr, .ref sc, .ref so, .ref tp, .int tl, .ref ct, .ref sr]))] s.heap.size = A at hth hD ⊢
  have hA : ∀ q : Nat, s.heap.size ≤ q → A q := fun q h => by rw [← hAe]; exact Or.inr h
  have hS : va_S A s.heap s.heap [] := va_S.rf
  have hl := lv_entry ([.ref h0, .int (nI r), .int j]) (n := 3) (Nat.le_of_ble_eq_true rfl)
  rw [lg_entry_eq]
  generalize (lg_sl ([.ref h0, .int (nI r), .int j]) ++ List.replicate (3 - (lg_sl ([.ref h0, .int (nI r), .int j])).length) Slot.unset).toArray = ls at hl ⊢
  have hl : lv_has ls 3 [(0, .ref h0), (1, .int (nI r)), (2, .int j)] := hl
  refine lv_iload_n hx hb dX0_round_0 rfl (lv_at hl 1 rfl) ?_
  refine lv_if_lt (tgt := 19) hx hb dX0_round_1 (by decide) (fun c1 => absurd c1 (nI_pos (by omega))) (fun c1 => ?_)
  refine lv_iload_n hx hb dX0_round_4 rfl (lv_at hl 1 rfl) ?_
  refine lv_bipush (v := nI 32) hx hb dX0_round_5 (by decide) ?_
  refine wk_gtN (tgt := 19) hx hb (a := r) (b := 32) (by omega) (by decide) dX0_round_7 (by decide) (fun c7 => absurd c7 (by omega)) (fun c7 => ?_)
  refine lv_iload_n hx hb dX0_round_10 rfl (lv_at hl 2 rfl) ?_
  refine lv_if_lt (tgt := 19) hx hb dX0_round_11 (by decide) (fun c11 => ?_) (fun c11 => absurd c11 (fun h => h hbad))
  exact vx_throwS (names := ["java/lang/RuntimeException", "java/lang/Exception"]) hx hb hlt hown (by decide +kernel) (by decide +kernel) (hts (.classLink RX0 39 "java/lang/IndexOutOfBoundsException") (by decide +kernel)) (hts (.initialized "java/lang/IndexOutOfBoundsException") (by decide +kernel)) hth.2.2.2.2.2.2 (vx_hat (L := vx_atS RX0 43 "java/lang/IndexOutOfBoundsException" ["java/lang/RuntimeException", "java/lang/Exception"]) (B := [.declares (Bundle.initS "java/lang/RuntimeException"), .declares (Bundle.initS "java/lang/Exception"), .declares (Bundle.initS Bundle.tN), .castable "java/lang/IndexOutOfBoundsException" "java/lang/IndexOutOfBoundsException"]) (fun w hw => hts w ((by decide +kernel : ∀ w ∈ (vx_atS RX0 43 "java/lang/IndexOutOfBoundsException" ["java/lang/RuntimeException", "java/lang/Exception"]).filter goodWord, w ∈ wsX0_round) w hw)) (by decide +kernel) (vx_c (va_Nw.use rfl hth.1) (vx_c (va_Nw.use rfl hth.2.1) (vx_c (va_Nw.use rfl hth.2.2.1) (vx_c (va_Nw.use rfl hth.2.2.2.1) vx_n))))) (by decide +kernel) hth.2.2.2.2.1 hth.2.2.2.2.2.1 hS (hl.1.trans hml.symm) dX0_round_19 dX0_round_22 dX0_round_23 dX0_round_25 dX0_round_28 (fun x hx9 => (htab x hx9).elim) (Nat.le_of_ble_eq_true rfl) (Nat.le_of_ble_eq_true rfl) (Nat.le_of_ble_eq_true rfl) (Nat.le_of_ble_eq_true rfl) hlocks (fun t hal hz hk => ⟨(), trivial, ⟨rfl, hP.kept (fun k q hq => hk _ (vx_lt hP hq)), va_K.moved hal hK, hD⟩, ⟨hz, fun q hq _ => hk q hq⟩⟩) (fun z hz => absurd hz List.not_mem_nil) (Nat.le_refl _) (Nat.le_refl _)
set_option maxHeartbeats 4000000 in
set_option maxRecDepth 100000 in
theorem c_X0_round0d (l : Launch) (hlt : l.stackTraces = false) (D : va_G) (cI : ClassId) (sa : Nat) (h0 kw sc so tp ct sr : Nat) (kb kr tl : Int32) (r : Nat) (j : Int32) (sz : Nat) (hr : r ≤ 32) (hbad : ¬ j < nI 0 ∧ ¬ j < nI 4) : vx_Met l yX0_round wsX0_round ({ frames := 7, cells := 1, slots := 6, locals := 112 }) (va_Pc [.ref h0, .int (nI r), .int j] (fun U => PW D [(cI, .int)] [(h0, .inr (0, [.ref kw, .int kb, .int kr, .ref sc, .ref so, .ref tp, .int tl, .ref ct, .ref sr]))] sz U ∧ thw "java/lang/IndexOutOfBoundsException" 71 "no such word of a round key" sa (va_A [(h0, .inr (0, [.ref kw, .int kb, .int kr, .ref sc, .ref so, .ref tp, .int tl, .ref ct, .ref sr]))] sz) U U.heap)) (va_Qi (fun (_ : Int32) (_ : Unit) => False) (fun _ _ => True) (va_A [(h0, .inr (0, [.ref kw, .int kb, .int kr, .ref sc, .ref so, .ref tp, .int tl, .ref ct, .ref sr]))] sz)) (vx_X (fun _ : Unit => True) (fun E _ t => E = "java/lang/IndexOutOfBoundsException" ∧ BW D [(cI, .int)] (va_A [(h0, .inr (0, [.ref kw, .int kb, .int kr, .ref sc, .ref so, .ref tp, .int tl, .ref ct, .ref sr]))] sz) [(h0, .inr (0, [.ref kw, .int kb, .int kr, .ref sc, .ref so, .ref tp, .int tl, .ref ct, .ref sr]))] t) (va_A [(h0, .inr (0, [.ref kw, .int kb, .int kr, .ref sc, .ref so, .ref tp, .int tl, .ref ct, .ref sr]))] sz)) 1 6 (va_A [(h0, .inr (0, [.ref kw, .int kb, .int kr, .ref sc, .ref so, .ref tp, .int tl, .ref ct, .ref sr]))] sz) := by
  refine vx_ofW (cc := cX0_round) (maxL := 3) (ret := (some .int)) (by decide) rfl ?_
  intro p e s m args below meth c s₁ B hml htab hv
  obtain ⟨rfl, ⟨hsz, hP, hK, hD0⟩, hth⟩ := hv
  have hx := B.exec
  have hb := B.bytes
  have hr := B.returns
  have hts := atoms_spec (ws := wsX0_round) B.pre
  have hown : s.vm.findClass RX0 = some m.cls := findClass_of_methodNamed B.named
  have hlocks := B.notSynchronized
  subst hsz
  have hD := hD0.self (sz := s.heap.size)
  have hinX0 := in_X0_round
  generalize hAe : va_A [(h0, .inr (0, [.ref kw, .int kb, .int kr, .ref sc, .ref so, .ref tp, .int tl, .ref ct, .ref sr]))] s.heap.size = A at hth hD ⊢
  have hA : ∀ q : Nat, s.heap.size ≤ q → A q := fun q h => by rw [← hAe]; exact Or.inr h
  have hS : va_S A s.heap s.heap [] := va_S.rf
  have hl := lv_entry ([.ref h0, .int (nI r), .int j]) (n := 3) (Nat.le_of_ble_eq_true rfl)
  rw [lg_entry_eq]
  generalize (lg_sl ([.ref h0, .int (nI r), .int j]) ++ List.replicate (3 - (lg_sl ([.ref h0, .int (nI r), .int j])).length) Slot.unset).toArray = ls at hl ⊢
  have hl : lv_has ls 3 [(0, .ref h0), (1, .int (nI r)), (2, .int j)] := hl
  refine lv_iload_n hx hb dX0_round_0 rfl (lv_at hl 1 rfl) ?_
  refine lv_if_lt (tgt := 19) hx hb dX0_round_1 (by decide) (fun c1 => absurd c1 (nI_pos (by omega))) (fun c1 => ?_)
  refine lv_iload_n hx hb dX0_round_4 rfl (lv_at hl 1 rfl) ?_
  refine lv_bipush (v := nI 32) hx hb dX0_round_5 (by decide) ?_
  refine wk_gtN (tgt := 19) hx hb (a := r) (b := 32) (by omega) (by decide) dX0_round_7 (by decide) (fun c7 => absurd c7 (by omega)) (fun c7 => ?_)
  refine lv_iload_n hx hb dX0_round_10 rfl (lv_at hl 2 rfl) ?_
  refine lv_if_lt (tgt := 19) hx hb dX0_round_11 (by decide) (fun c11 => absurd c11 (hbad.1)) (fun c11 => ?_)
  refine lv_iload_n hx hb dX0_round_14 rfl (lv_at hl 2 rfl) ?_
  refine lv_iconst (v := nI 4) hx hb dX0_round_15 (by decide) ?_
  refine lv_icmp_lt (tgt := 29) hx hb dX0_round_16 (by decide) (fun c16 => absurd c16 (hbad.2)) (fun c16 => ?_)
  exact vx_throwS (names := ["java/lang/RuntimeException", "java/lang/Exception"]) hx hb hlt hown (by decide +kernel) (by decide +kernel) (hts (.classLink RX0 39 "java/lang/IndexOutOfBoundsException") (by decide +kernel)) (hts (.initialized "java/lang/IndexOutOfBoundsException") (by decide +kernel)) hth.2.2.2.2.2.2 (vx_hat (L := vx_atS RX0 43 "java/lang/IndexOutOfBoundsException" ["java/lang/RuntimeException", "java/lang/Exception"]) (B := [.declares (Bundle.initS "java/lang/RuntimeException"), .declares (Bundle.initS "java/lang/Exception"), .declares (Bundle.initS Bundle.tN), .castable "java/lang/IndexOutOfBoundsException" "java/lang/IndexOutOfBoundsException"]) (fun w hw => hts w ((by decide +kernel : ∀ w ∈ (vx_atS RX0 43 "java/lang/IndexOutOfBoundsException" ["java/lang/RuntimeException", "java/lang/Exception"]).filter goodWord, w ∈ wsX0_round) w hw)) (by decide +kernel) (vx_c (va_Nw.use rfl hth.1) (vx_c (va_Nw.use rfl hth.2.1) (vx_c (va_Nw.use rfl hth.2.2.1) (vx_c (va_Nw.use rfl hth.2.2.2.1) vx_n))))) (by decide +kernel) hth.2.2.2.2.1 hth.2.2.2.2.2.1 hS (hl.1.trans hml.symm) dX0_round_19 dX0_round_22 dX0_round_23 dX0_round_25 dX0_round_28 (fun x hx9 => (htab x hx9).elim) (Nat.le_of_ble_eq_true rfl) (Nat.le_of_ble_eq_true rfl) (Nat.le_of_ble_eq_true rfl) (Nat.le_of_ble_eq_true rfl) hlocks (fun t hal hz hk => ⟨(), trivial, ⟨rfl, hP.kept (fun k q hq => hk _ (vx_lt hP hq)), va_K.moved hal hK, hD⟩, ⟨hz, fun q hq _ => hk q hq⟩⟩) (fun z hz => absurd hz List.not_mem_nil) (Nat.le_refl _) (Nat.le_refl _)
set_option maxHeartbeats 4000000 in
set_option maxRecDepth 100000 in
theorem c_X0_needReadyKey0 (l : Launch) (hlt : l.stackTraces = false) (D : va_G) (cI : ClassId) (sa : Nat) (h0 kw sc so tp ct sr : Nat) (kb tl : Int32) (sz : Nat) : vx_Met l yX0_needReadyKey wsX0_needReadyKey ({ frames := 6, cells := 1, slots := 6, locals := 82 }) (va_Pc [.ref h0] (fun U => PW D [(cI, .int)] [(h0, .inr (0, [.ref kw, .int kb, .int (nI 0), .ref sc, .ref so, .ref tp, .int tl, .ref ct, .ref sr]))] sz U ∧ thw "java/lang/IllegalStateException" 125 "the key is not ready" sa (va_A [(h0, .inr (0, [.ref kw, .int kb, .int (nI 0), .ref sc, .ref so, .ref tp, .int tl, .ref ct, .ref sr]))] sz) U U.heap)) (va_Qv (fun _ : Unit => False) (fun _ _ => True) (va_A [(h0, .inr (0, [.ref kw, .int kb, .int (nI 0), .ref sc, .ref so, .ref tp, .int tl, .ref ct, .ref sr]))] sz)) (vx_X (fun _ : Unit => True) (fun E _ t => E = "java/lang/IllegalStateException" ∧ BW D [(cI, .int)] (va_A [(h0, .inr (0, [.ref kw, .int kb, .int (nI 0), .ref sc, .ref so, .ref tp, .int tl, .ref ct, .ref sr]))] sz) [(h0, .inr (0, [.ref kw, .int kb, .int (nI 0), .ref sc, .ref so, .ref tp, .int tl, .ref ct, .ref sr]))] t) (va_A [(h0, .inr (0, [.ref kw, .int kb, .int (nI 0), .ref sc, .ref so, .ref tp, .int tl, .ref ct, .ref sr]))] sz)) 1 6 (va_A [(h0, .inr (0, [.ref kw, .int kb, .int (nI 0), .ref sc, .ref so, .ref tp, .int tl, .ref ct, .ref sr]))] sz) := by
  refine vx_ofW (cc := cX0_needReadyKey) (maxL := 1) (ret := none) (by decide) rfl ?_
  intro p e s m args below meth c s₁ B hml htab hv
  obtain ⟨rfl, ⟨hsz, hP, hK, hD0⟩, hth⟩ := hv
  have hx := B.exec
  have hb := B.bytes
  have hr := B.returns
  have hts := atoms_spec (ws := wsX0_needReadyKey) B.pre
  have hown : s.vm.findClass RX0 = some m.cls := findClass_of_methodNamed B.named
  have hlocks := B.notSynchronized
  subst hsz
  have hD := hD0.self (sz := s.heap.size)
  have hinX0 := in_X0_needReadyKey
  generalize hAe : va_A [(h0, .inr (0, [.ref kw, .int kb, .int (nI 0), .ref sc, .ref so, .ref tp, .int tl, .ref ct, .ref sr]))] s.heap.size = A at hth hD ⊢
  have hA : ∀ q : Nat, s.heap.size ≤ q → A q := fun q h => by rw [← hAe]; exact Or.inr h
  have hS : va_S A s.heap s.heap [] := va_S.rf
  have hl := lv_entry ([.ref h0]) (n := 1) (Nat.le_of_ble_eq_true rfl)
  rw [lg_entry_eq]
  generalize (lg_sl ([.ref h0]) ++ List.replicate (1 - (lg_sl ([.ref h0])).length) Slot.unset).toArray = ls at hl ⊢
  have hl : lv_has ls 1 [(0, .ref h0)] := hl
  refine lv_aload_n hx hb dX0_needReadyKey_0 rfl (lv_at hl 0 rfl) ?_
  refine va_get (D := D) (ci := 0) (v := .int (nI 0)) (C := RX0) (T := TX0) (N := 9) hx hb hts hinX0 hown hK hP 0 rfl rfl 2 (by decide) (hts (.fieldLink RX0 32 "SlicedCipher" "keyIsReady" "Z") (by decide +kernel)) (fun _ h9 => h9) rfl dX0_needReadyKey_1 ?_
  refine wk_ne0N (tgt := 17) hx hb (a := 0) (by decide) dX0_needReadyKey_4 (by decide) (fun c4 => absurd c4 (fun h => h rfl)) (fun c4 => ?_)
  exact vx_throwS (names := ["java/lang/RuntimeException", "java/lang/Exception"]) hx hb hlt hown (by decide +kernel) (by decide +kernel) (hts (.classLink RX0 88 "java/lang/IllegalStateException") (by decide +kernel)) (hts (.initialized "java/lang/IllegalStateException") (by decide +kernel)) hth.2.2.2.2.2.2 (vx_hat (L := vx_atS RX0 92 "java/lang/IllegalStateException" ["java/lang/RuntimeException", "java/lang/Exception"]) (B := [.declares (Bundle.initS "java/lang/RuntimeException"), .declares (Bundle.initS "java/lang/Exception"), .declares (Bundle.initS Bundle.tN), .castable "java/lang/IllegalStateException" "java/lang/IllegalStateException"]) (fun w hw => hts w ((by decide +kernel : ∀ w ∈ (vx_atS RX0 92 "java/lang/IllegalStateException" ["java/lang/RuntimeException", "java/lang/Exception"]).filter goodWord, w ∈ wsX0_needReadyKey) w hw)) (by decide +kernel) (vx_c (va_Nw.use rfl hth.1) (vx_c (va_Nw.use rfl hth.2.1) (vx_c (va_Nw.use rfl hth.2.2.1) (vx_c (va_Nw.use rfl hth.2.2.2.1) vx_n))))) (by decide +kernel) hth.2.2.2.2.1 hth.2.2.2.2.2.1 hS (hl.1.trans hml.symm) dX0_needReadyKey_7 dX0_needReadyKey_10 dX0_needReadyKey_11 dX0_needReadyKey_13 dX0_needReadyKey_16 (fun x hx9 => (htab x hx9).elim) (Nat.le_of_ble_eq_true rfl) (Nat.le_of_ble_eq_true rfl) (Nat.le_of_ble_eq_true rfl) (Nat.le_of_ble_eq_true rfl) hlocks (fun t hal hz hk => ⟨(), trivial, ⟨rfl, hP.kept (fun k q hq => hk _ (vx_lt hP hq)), va_K.moved hal hK, hD⟩, ⟨hz, fun q hq _ => hk q hq⟩⟩) (fun z hz => absurd hz List.not_mem_nil) (Nat.le_refl _) (Nat.le_refl _)
set_option maxHeartbeats 4000000 in
set_option maxRecDepth 100000 in
theorem c_X0_needWholeBlocks0 (l : Launch) (hlt : l.stackTraces = false) (D : va_G) (cI : ClassId) (sa : Nat) (h0 kw sc so tp ct sr : Nat) (kb kr : Int32) (sz0 : Nat) (sz : Nat) (hz : sz0 ≤ 256) (h4 : sz0 % 4 ≠ 0) : vx_Met l yX0_needWholeBlocks wsX0_needWholeBlocks ({ frames := 6, cells := 1, slots := 6, locals := 82 }) (va_Pc [.ref h0] (fun U => PW D [(cI, .int)] [(h0, .inr (0, [.ref kw, .int kb, .int kr, .ref sc, .ref so, .ref tp, .int (nI sz0), .ref ct, .ref sr]))] sz U ∧ thw "java/lang/IllegalStateException" 127 "the tape ends within a block" sa (va_A [(h0, .inr (0, [.ref kw, .int kb, .int kr, .ref sc, .ref so, .ref tp, .int (nI sz0), .ref ct, .ref sr]))] sz) U U.heap)) (va_Qv (fun _ : Unit => False) (fun _ _ => True) (va_A [(h0, .inr (0, [.ref kw, .int kb, .int kr, .ref sc, .ref so, .ref tp, .int (nI sz0), .ref ct, .ref sr]))] sz)) (vx_X (fun _ : Unit => True) (fun E _ t => E = "java/lang/IllegalStateException" ∧ BW D [(cI, .int)] (va_A [(h0, .inr (0, [.ref kw, .int kb, .int kr, .ref sc, .ref so, .ref tp, .int (nI sz0), .ref ct, .ref sr]))] sz) [(h0, .inr (0, [.ref kw, .int kb, .int kr, .ref sc, .ref so, .ref tp, .int (nI sz0), .ref ct, .ref sr]))] t) (va_A [(h0, .inr (0, [.ref kw, .int kb, .int kr, .ref sc, .ref so, .ref tp, .int (nI sz0), .ref ct, .ref sr]))] sz)) 1 6 (va_A [(h0, .inr (0, [.ref kw, .int kb, .int kr, .ref sc, .ref so, .ref tp, .int (nI sz0), .ref ct, .ref sr]))] sz) := by
  refine vx_ofW (cc := cX0_needWholeBlocks) (maxL := 1) (ret := none) (by decide) rfl ?_
  intro p e s m args below meth c s₁ B hml htab hv
  obtain ⟨rfl, ⟨hsz, hP, hK, hD0⟩, hth⟩ := hv
  have hx := B.exec
  have hb := B.bytes
  have hr := B.returns
  have hts := atoms_spec (ws := wsX0_needWholeBlocks) B.pre
  have hown : s.vm.findClass RX0 = some m.cls := findClass_of_methodNamed B.named
  have hlocks := B.notSynchronized
  subst hsz
  have hD := hD0.self (sz := s.heap.size)
  have hinX0 := in_X0_needWholeBlocks
  generalize hAe : va_A [(h0, .inr (0, [.ref kw, .int kb, .int kr, .ref sc, .ref so, .ref tp, .int (nI sz0), .ref ct, .ref sr]))] s.heap.size = A at hth hD ⊢
  have hA : ∀ q : Nat, s.heap.size ≤ q → A q := fun q h => by rw [← hAe]; exact Or.inr h
  have hS : va_S A s.heap s.heap [] := va_S.rf
  have hl := lv_entry ([.ref h0]) (n := 1) (Nat.le_of_ble_eq_true rfl)
  rw [lg_entry_eq]
  generalize (lg_sl ([.ref h0]) ++ List.replicate (1 - (lg_sl ([.ref h0])).length) Slot.unset).toArray = ls at hl ⊢
  have hl : lv_has ls 1 [(0, .ref h0)] := hl
  refine lv_aload_n hx hb dX0_needWholeBlocks_0 rfl (lv_at hl 0 rfl) ?_
  refine va_get (D := D) (ci := 0) (v := .int (nI sz0)) (C := RX0) (T := TX0) (N := 9) hx hb hts hinX0 hown hK hP 0 rfl rfl 6 (by decide) (hts (.fieldLink RX0 36 "SlicedCipher" "tapeLength" "I") (by decide +kernel)) (fun _ h9 => h9) rfl dX0_needWholeBlocks_1 ?_
  refine lv_iconst (v := nI 4) hx hb dX0_needWholeBlocks_4 (by decide) ?_
  refine wk_iremN hx hb (a := sz0) (b := 4) (by omega) (by decide) (by decide) dX0_needWholeBlocks_5 ?_
  refine wk_eq0N (tgt := 19) hx hb (a := sz0 % 4) (by omega) dX0_needWholeBlocks_6 (by decide) (fun c6 => absurd c6 (fun h => h4 h)) (fun c6 => ?_)
  exact vx_throwS (names := ["java/lang/RuntimeException", "java/lang/Exception"]) hx hb hlt hown (by decide +kernel) (by decide +kernel) (hts (.classLink RX0 88 "java/lang/IllegalStateException") (by decide +kernel)) (hts (.initialized "java/lang/IllegalStateException") (by decide +kernel)) hth.2.2.2.2.2.2 (vx_hat (L := vx_atS RX0 92 "java/lang/IllegalStateException" ["java/lang/RuntimeException", "java/lang/Exception"]) (B := [.declares (Bundle.initS "java/lang/RuntimeException"), .declares (Bundle.initS "java/lang/Exception"), .declares (Bundle.initS Bundle.tN), .castable "java/lang/IllegalStateException" "java/lang/IllegalStateException"]) (fun w hw => hts w ((by decide +kernel : ∀ w ∈ (vx_atS RX0 92 "java/lang/IllegalStateException" ["java/lang/RuntimeException", "java/lang/Exception"]).filter goodWord, w ∈ wsX0_needWholeBlocks) w hw)) (by decide +kernel) (vx_c (va_Nw.use rfl hth.1) (vx_c (va_Nw.use rfl hth.2.1) (vx_c (va_Nw.use rfl hth.2.2.1) (vx_c (va_Nw.use rfl hth.2.2.2.1) vx_n))))) (by decide +kernel) hth.2.2.2.2.1 hth.2.2.2.2.2.1 hS (hl.1.trans hml.symm) dX0_needWholeBlocks_9 dX0_needWholeBlocks_12 dX0_needWholeBlocks_13 dX0_needWholeBlocks_15 dX0_needWholeBlocks_18 (fun x hx9 => (htab x hx9).elim) (Nat.le_of_ble_eq_true rfl) (Nat.le_of_ble_eq_true rfl) (Nat.le_of_ble_eq_true rfl) (Nat.le_of_ble_eq_true rfl) hlocks (fun t hal hz hk => ⟨(), trivial, ⟨rfl, hP.kept (fun k q hq => hk _ (vx_lt hP hq)), va_K.moved hal hK, hD⟩, ⟨hz, fun q hq _ => hk q hq⟩⟩) (fun z hz => absurd hz List.not_mem_nil) (Nat.le_refl _) (Nat.le_refl _)
set_option maxHeartbeats 4000000 in
set_option maxRecDepth 100000 in
theorem c_X0_round2 (l : Launch) (hlt : l.stackTraces = false) (D : va_G) (cI : ClassId) (sa : Nat) (h0 kw sc so tp ct sr : Nat) (kb tl : Int32) (r j : Nat) (sz : Nat) (hr : r ≤ 32) (hj : j ≤ 3) : vx_Met l yX0_round wsX0_round ({ frames := 7, cells := 1, slots := 6, locals := 112 }) (va_Pc [.ref h0, .int (nI r), .int (nI j)] (fun U => PW D [(cI, .int)] [(h0, .inr (0, [.ref kw, .int kb, .int (nI 0), .ref sc, .ref so, .ref tp, .int tl, .ref ct, .ref sr]))] sz U ∧ thw "java/lang/IllegalStateException" 125 "the key is not ready" sa (va_A [(h0, .inr (0, [.ref kw, .int kb, .int (nI 0), .ref sc, .ref so, .ref tp, .int tl, .ref ct, .ref sr]))] sz) U U.heap)) (va_Qi (fun (_ : Int32) (_ : Unit) => False) (fun _ _ => True) (va_A [(h0, .inr (0, [.ref kw, .int kb, .int (nI 0), .ref sc, .ref so, .ref tp, .int tl, .ref ct, .ref sr]))] sz)) (vx_X (fun _ : Unit => True) (fun E _ t => E = "java/lang/IllegalStateException" ∧ BW D [(cI, .int)] (va_A [(h0, .inr (0, [.ref kw, .int kb, .int (nI 0), .ref sc, .ref so, .ref tp, .int tl, .ref ct, .ref sr]))] sz) [(h0, .inr (0, [.ref kw, .int kb, .int (nI 0), .ref sc, .ref so, .ref tp, .int tl, .ref ct, .ref sr]))] t) (va_A [(h0, .inr (0, [.ref kw, .int kb, .int (nI 0), .ref sc, .ref so, .ref tp, .int tl, .ref ct, .ref sr]))] sz)) 1 6 (va_A [(h0, .inr (0, [.ref kw, .int kb, .int (nI 0), .ref sc, .ref so, .ref tp, .int tl, .ref ct, .ref sr]))] sz) := by
  refine vx_ofW (cc := cX0_round) (maxL := 3) (ret := (some .int)) (by decide) rfl ?_
  intro p e s m args below meth c s₁ B hml htab hv
  obtain ⟨rfl, ⟨hsz, hP, hK, hD0⟩, hth⟩ := hv
  have hx := B.exec
  have hb := B.bytes
  have hr := B.returns
  have hts := atoms_spec (ws := wsX0_round) B.pre
  have hown : s.vm.findClass RX0 = some m.cls := findClass_of_methodNamed B.named
  have hlocks := B.notSynchronized
  subst hsz
  have hD := hD0.self (sz := s.heap.size)
  have hinX0 := in_X0_round
  generalize hAe : va_A [(h0, .inr (0, [.ref kw, .int kb, .int (nI 0), .ref sc, .ref so, .ref tp, .int tl, .ref ct, .ref sr]))] s.heap.size = A at hth hD ⊢
  have hA : ∀ q : Nat, s.heap.size ≤ q → A q := fun q h => by rw [← hAe]; exact Or.inr h
  have hS : va_S A s.heap s.heap [] := va_S.rf
  have hl := lv_entry ([.ref h0, .int (nI r), .int (nI j)]) (n := 3) (Nat.le_of_ble_eq_true rfl)
  rw [lg_entry_eq]
  generalize (lg_sl ([.ref h0, .int (nI r), .int (nI j)]) ++ List.replicate (3 - (lg_sl ([.ref h0, .int (nI r), .int (nI j)])).length) Slot.unset).toArray = ls at hl ⊢
  have hl : lv_has ls 3 [(0, .ref h0), (1, .int (nI r)), (2, .int (nI j))] := hl
  refine lv_iload_n hx hb dX0_round_0 rfl (lv_at hl 1 rfl) ?_
  refine lv_if_lt (tgt := 19) hx hb dX0_round_1 (by decide) (fun c1 => absurd c1 (nI_pos (by omega))) (fun c1 => ?_)
  refine lv_iload_n hx hb dX0_round_4 rfl (lv_at hl 1 rfl) ?_
  refine lv_bipush (v := nI 32) hx hb dX0_round_5 (by decide) ?_
  refine wk_gtN (tgt := 19) hx hb (a := r) (b := 32) (by omega) (by decide) dX0_round_7 (by decide) (fun c7 => absurd c7 (by omega)) (fun c7 => ?_)
  refine lv_iload_n hx hb dX0_round_10 rfl (lv_at hl 2 rfl) ?_
  refine lv_if_lt (tgt := 19) hx hb dX0_round_11 (by decide) (fun c11 => absurd c11 (nI_pos (by omega))) (fun c11 => ?_)
  refine lv_iload_n hx hb dX0_round_14 rfl (lv_at hl 2 rfl) ?_
  refine lv_iconst (v := nI 4) hx hb dX0_round_15 (by decide) ?_
  refine wk_ltN (tgt := 29) hx hb (a := j) (b := 4) (by omega) (by decide) dX0_round_16 (by decide) (fun c16 => ?_) (fun c16 => absurd c16 (by omega))
  refine lv_aload_n hx hb dX0_round_29 rfl (lv_at hl 0 rfl) ?_
  refine wk_Vxv (b := h0) (As := []) (rest := []) (wc := [(h0, .inr (0, [.ref kw, .int kb, .int (nI 0), .ref sc, .ref so, .ref tp, .int tl, .ref ct, .ref sr]))]) (wr := []) (ci := 0) (q0 := 0) ⟨hx, hb, hml, hown, hts⟩ (c_X0_needReadyKey0 l hlt D cI sa h0 kw sc so tp ct sr kb tl _) (cwV 0 hts gX0_round_X0_needReadyKey rfl rfl rfl (by decide +kernel) ⟨Nat.le_of_ble_eq_true rfl, Nat.le_of_ble_eq_true rfl⟩) (fun V g mk a h => thw.call g mk a h) (fun hF V hU hW => hth.give hS hF hU hW) hK hP hD hS hA rfl rfl [0] [] rfl (by decide) rfl (by decide) (by decide) [0] rfl (by decide) rfl hl.1 rfl (Nat.le_of_ble_eq_true rfl) dX0_round_30 ⟨Nat.le_of_ble_eq_true rfl, Nat.le_of_ble_eq_true rfl⟩ (fun ce q9 H locs hP hD hS hce hcv hcl => ?_)
  exact vx_out (fun x hx9 => (htab x hx9).elim) hlocks hce hcv hcl (fun t ht hal => ⟨(), trivial, ⟨rfl, by rw [ht]; exact hP, va_K.moved hal hK, hD⟩, hS.F ht⟩) hS.2.2 (Nat.le_refl _) (Nat.le_refl _)
set_option maxHeartbeats 4000000 in
set_option maxRecDepth 100000 in
theorem c_X0_run2a (l : Launch) (hlt : l.stackTraces = false) (D : va_G) (cI : ClassId) (sa : Nat) (h0 kw sc so tp ct sr : Nat) (kb tl : Int32) (k : Nat) (bb : Int32) (sz : Nat) (hk : k ≤ 2) : vx_Met l yX0_run wsX0_run ({ frames := 7, cells := 1, slots := 6, locals := 112 }) (va_Pc [.ref h0, .int (nI k), .int bb] (fun U => PW D [(cI, .int)] [(h0, .inr (0, [.ref kw, .int kb, .int (nI 0), .ref sc, .ref so, .ref tp, .int tl, .ref ct, .ref sr]))] sz U ∧ thw "java/lang/IllegalStateException" 125 "the key is not ready" sa (va_A [(h0, .inr (0, [.ref kw, .int kb, .int (nI 0), .ref sc, .ref so, .ref tp, .int tl, .ref ct, .ref sr]))] sz) U U.heap)) (va_Qi (fun (_ : Int32) (_ : Unit) => False) (fun _ _ => True) (va_A [(h0, .inr (0, [.ref kw, .int kb, .int (nI 0), .ref sc, .ref so, .ref tp, .int tl, .ref ct, .ref sr]))] sz)) (vx_X (fun _ : Unit => True) (fun E _ t => E = "java/lang/IllegalStateException" ∧ BW D [(cI, .int)] (va_A [(h0, .inr (0, [.ref kw, .int kb, .int (nI 0), .ref sc, .ref so, .ref tp, .int tl, .ref ct, .ref sr]))] sz) [(h0, .inr (0, [.ref kw, .int kb, .int (nI 0), .ref sc, .ref so, .ref tp, .int tl, .ref ct, .ref sr]))] t) (va_A [(h0, .inr (0, [.ref kw, .int kb, .int (nI 0), .ref sc, .ref so, .ref tp, .int tl, .ref ct, .ref sr]))] sz)) 1 6 (va_A [(h0, .inr (0, [.ref kw, .int kb, .int (nI 0), .ref sc, .ref so, .ref tp, .int tl, .ref ct, .ref sr]))] sz) := by
  refine vx_ofW (cc := cX0_run) (maxL := 3) (ret := (some .int)) (by decide) rfl ?_
  intro p e s m args below meth c s₁ B hml htab hv
  obtain ⟨rfl, ⟨hsz, hP, hK, hD0⟩, hth⟩ := hv
  have hx := B.exec
  have hb := B.bytes
  have hr := B.returns
  have hts := atoms_spec (ws := wsX0_run) B.pre
  have hown : s.vm.findClass RX0 = some m.cls := findClass_of_methodNamed B.named
  have hlocks := B.notSynchronized
  subst hsz
  have hD := hD0.self (sz := s.heap.size)
  have hinX0 := in_X0_run
  generalize hAe : va_A [(h0, .inr (0, [.ref kw, .int kb, .int (nI 0), .ref sc, .ref so, .ref tp, .int tl, .ref ct, .ref sr]))] s.heap.size = A at hth hD ⊢
  have hA : ∀ q : Nat, s.heap.size ≤ q → A q := fun q h => by rw [← hAe]; exact Or.inr h
  have hS : va_S A s.heap s.heap [] := va_S.rf
  have hl := lv_entry ([.ref h0, .int (nI k), .int bb]) (n := 3) (Nat.le_of_ble_eq_true rfl)
  rw [lg_entry_eq]
  generalize (lg_sl ([.ref h0, .int (nI k), .int bb]) ++ List.replicate (3 - (lg_sl ([.ref h0, .int (nI k), .int bb])).length) Slot.unset).toArray = ls at hl ⊢
  have hl : lv_has ls 3 [(0, .ref h0), (1, .int (nI k)), (2, .int bb)] := hl
  refine lv_iload_n hx hb dX0_run_0 rfl (lv_at hl 1 rfl) ?_
  refine lv_if_lt (tgt := 9) hx hb dX0_run_1 (by decide) (fun c1 => absurd c1 (nI_pos (by omega))) (fun c1 => ?_)
  refine lv_iload_n hx hb dX0_run_4 rfl (lv_at hl 1 rfl) ?_
  refine lv_iconst (v := nI 2) hx hb dX0_run_5 (by decide) ?_
  refine wk_leN (tgt := 19) hx hb (a := k) (b := 2) (by omega) (by decide) dX0_run_6 (by decide) (fun c6 => ?_) (fun c6 => absurd c6 (by omega))
  refine lv_aload_n hx hb dX0_run_19 rfl (lv_at hl 0 rfl) ?_
  refine wk_Vxv (b := h0) (As := []) (rest := []) (wc := [(h0, .inr (0, [.ref kw, .int kb, .int (nI 0), .ref sc, .ref so, .ref tp, .int tl, .ref ct, .ref sr]))]) (wr := []) (ci := 0) (q0 := 0) ⟨hx, hb, hml, hown, hts⟩ (c_X0_needReadyKey0 l hlt D cI sa h0 kw sc so tp ct sr kb tl _) (cwV 0 hts gX0_run_X0_needReadyKey rfl rfl rfl (by decide +kernel) ⟨Nat.le_of_ble_eq_true rfl, Nat.le_of_ble_eq_true rfl⟩) (fun V g mk a h => thw.call g mk a h) (fun hF V hU hW => hth.give hS hF hU hW) hK hP hD hS hA rfl rfl [0] [] rfl (by decide) rfl (by decide) (by decide) [0] rfl (by decide) rfl hl.1 rfl (Nat.le_of_ble_eq_true rfl) dX0_run_20 ⟨Nat.le_of_ble_eq_true rfl, Nat.le_of_ble_eq_true rfl⟩ (fun ce q9 H locs hP hD hS hce hcv hcl => ?_)
  exact vx_out (fun x hx9 => (htab x hx9).elim) hlocks hce hcv hcl (fun t ht hal => ⟨(), trivial, ⟨rfl, by rw [ht]; exact hP, va_K.moved hal hK, hD⟩, hS.F ht⟩) hS.2.2 (Nat.le_refl _) (Nat.le_refl _)
set_option maxHeartbeats 4000000 in
set_option maxRecDepth 100000 in
theorem c_X0_run2b (l : Launch) (hlt : l.stackTraces = false) (D : va_G) (cI : ClassId) (sa : Nat) (h0 kw sc so tp ct sr : Nat) (kb : Int32) (sz0 k : Nat) (bb : Int32) (sz : Nat) (hz : sz0 ≤ 256) (h4 : sz0 % 4 ≠ 0) (hk : k ≤ 2) : vx_Met l yX0_run wsX0_run ({ frames := 7, cells := 1, slots := 6, locals := 112 }) (va_Pc [.ref h0, .int (nI k), .int bb] (fun U => PW D [(cI, .int)] [(h0, .inr (0, [.ref kw, .int kb, .int (nI 1), .ref sc, .ref so, .ref tp, .int (nI sz0), .ref ct, .ref sr]))] sz U ∧ thw "java/lang/IllegalStateException" 127 "the tape ends within a block" sa (va_A [(h0, .inr (0, [.ref kw, .int kb, .int (nI 1), .ref sc, .ref so, .ref tp, .int (nI sz0), .ref ct, .ref sr]))] sz) U U.heap)) (va_Qi (fun (_ : Int32) (_ : Unit) => False) (fun _ _ => True) (va_A [(h0, .inr (0, [.ref kw, .int kb, .int (nI 1), .ref sc, .ref so, .ref tp, .int (nI sz0), .ref ct, .ref sr]))] sz)) (vx_X (fun _ : Unit => True) (fun E _ t => E = "java/lang/IllegalStateException" ∧ BW D [(cI, .int)] (va_A [(h0, .inr (0, [.ref kw, .int kb, .int (nI 1), .ref sc, .ref so, .ref tp, .int (nI sz0), .ref ct, .ref sr]))] sz) [(h0, .inr (0, [.ref kw, .int kb, .int (nI 1), .ref sc, .ref so, .ref tp, .int (nI sz0), .ref ct, .ref sr]))] t) (va_A [(h0, .inr (0, [.ref kw, .int kb, .int (nI 1), .ref sc, .ref so, .ref tp, .int (nI sz0), .ref ct, .ref sr]))] sz)) 1 6 (va_A [(h0, .inr (0, [.ref kw, .int kb, .int (nI 1), .ref sc, .ref so, .ref tp, .int (nI sz0), .ref ct, .ref sr]))] sz) := by
  refine vx_ofW (cc := cX0_run) (maxL := 3) (ret := (some .int)) (by decide) rfl ?_
  intro p e s m args below meth c s₁ B hml htab hv
  obtain ⟨rfl, ⟨hsz, hP, hK, hD0⟩, hth⟩ := hv
  have hx := B.exec
  have hb := B.bytes
  have hr := B.returns
  have hts := atoms_spec (ws := wsX0_run) B.pre
  have hown : s.vm.findClass RX0 = some m.cls := findClass_of_methodNamed B.named
  have hlocks := B.notSynchronized
  subst hsz
  have hD := hD0.self (sz := s.heap.size)
  have hinX0 := in_X0_run
  generalize hAe : va_A [(h0, .inr (0, [.ref kw, .int kb, .int (nI 1), .ref sc, .ref so, .ref tp, .int (nI sz0), .ref ct, .ref sr]))] s.heap.size = A at hth hD ⊢
  have hA : ∀ q : Nat, s.heap.size ≤ q → A q := fun q h => by rw [← hAe]; exact Or.inr h
  have hS : va_S A s.heap s.heap [] := va_S.rf
  have hl := lv_entry ([.ref h0, .int (nI k), .int bb]) (n := 3) (Nat.le_of_ble_eq_true rfl)
  rw [lg_entry_eq]
  generalize (lg_sl ([.ref h0, .int (nI k), .int bb]) ++ List.replicate (3 - (lg_sl ([.ref h0, .int (nI k), .int bb])).length) Slot.unset).toArray = ls at hl ⊢
  have hl : lv_has ls 3 [(0, .ref h0), (1, .int (nI k)), (2, .int bb)] := hl
  refine lv_iload_n hx hb dX0_run_0 rfl (lv_at hl 1 rfl) ?_
  refine lv_if_lt (tgt := 9) hx hb dX0_run_1 (by decide) (fun c1 => absurd c1 (nI_pos (by omega))) (fun c1 => ?_)
  refine lv_iload_n hx hb dX0_run_4 rfl (lv_at hl 1 rfl) ?_
  refine lv_iconst (v := nI 2) hx hb dX0_run_5 (by decide) ?_
  refine wk_leN (tgt := 19) hx hb (a := k) (b := 2) (by omega) (by decide) dX0_run_6 (by decide) (fun c6 => ?_) (fun c6 => absurd c6 (by omega))
  refine lv_aload_n hx hb dX0_run_19 rfl (lv_at hl 0 rfl) ?_
  refine wk_Vv (b := h0) (As := []) (rest := []) (wc := [(h0, .inr (0, [.ref kw, .int kb, .int (nI 1), .ref sc, .ref so, .ref tp, .int (nI sz0), .ref ct, .ref sr]))]) (wr := []) (w1 := [(h0, .inr (0, [.ref kw, .int kb, .int (nI 1), .ref sc, .ref so, .ref tp, .int (nI sz0), .ref ct, .ref sr]))]) (w2 := [(h0, .inr (0, [.ref kw, .int kb, .int (nI 1), .ref sc, .ref so, .ref tp, .int (nI sz0), .ref ct, .ref sr]))]) (ci := 0) (q0 := 0) ⟨hx, hb, hml, hown, hts⟩ (c_X0_needReadyKey1 l D cI _ h0 kw sc so tp ct sr kb (nI sz0)) (cwV 0 hts gX0_run_X0_needReadyKey rfl rfl rfl (by decide +kernel) ⟨Nat.le_of_ble_eq_true rfl, Nat.le_of_ble_eq_true rfl⟩) (fun _ _ _ _ h => h) (fun _ _ _ _ => trivial) hK hP hD hS hA rfl rfl [0] [] rfl (by decide) rfl (by decide) (by decide) [0] rfl (by decide) rfl hl.1 rfl (Nat.le_of_ble_eq_true rfl) dX0_run_20 ⟨Nat.zero_le _, Nat.zero_le _⟩ (fun H locs hP hD hS => ?_)
  refine lv_aload_n hx hb dX0_run_23 rfl (lv_at hl 0 rfl) ?_
  refine wk_Vxv (b := h0) (As := []) (rest := []) (wc := [(h0, .inr (0, [.ref kw, .int kb, .int (nI 1), .ref sc, .ref so, .ref tp, .int (nI sz0), .ref ct, .ref sr]))]) (wr := []) (ci := 0) (q0 := 0) ⟨hx, hb, hml, hown, hts⟩ (c_X0_needWholeBlocks0 l hlt D cI sa h0 kw sc so tp ct sr kb (nI 1) sz0 _ hz h4) (cwV 0 hts gX0_run_X0_needWholeBlocks rfl rfl rfl (by decide +kernel) ⟨Nat.le_of_ble_eq_true rfl, Nat.le_of_ble_eq_true rfl⟩) (fun V g mk a h => thw.call g mk a h) (fun hF V hU hW => hth.give hS hF hU hW) hK hP hD hS hA rfl rfl [0] [] rfl (by decide) rfl (by decide) (by decide) [0] rfl (by decide) rfl hl.1 rfl (Nat.le_of_ble_eq_true rfl) dX0_run_24 ⟨Nat.le_of_ble_eq_true rfl, Nat.le_of_ble_eq_true rfl⟩ (fun ce q9 H locs hP hD hS hce hcv hcl => ?_)
  exact vx_out (fun x hx9 => (htab x hx9).elim) hlocks hce hcv hcl (fun t ht hal => ⟨(), trivial, ⟨rfl, by rw [ht]; exact hP, va_K.moved hal hK, hD⟩, hS.F ht⟩) hS.2.2 (Nat.le_refl _) (Nat.le_refl _)
set_option maxHeartbeats 4000000 in
set_option maxRecDepth 100000 in
theorem c_X0_seal2a (l : Launch) (hlt : l.stackTraces = false) (D : va_G) (cI : ClassId) (sa : Nat) (h0 kw sc so tp ct sr : Nat) (kb tl : Int32) (k : Nat) (sz : Nat) (hk : k < 4) : vx_Met l yX0_seal wsX0_seal ({ frames := 7, cells := 1, slots := 6, locals := 112 }) (va_Pc [.ref h0, .int (nI k)] (fun U => PW D [(cI, .int)] [(h0, .inr (0, [.ref kw, .int kb, .int (nI 0), .ref sc, .ref so, .ref tp, .int tl, .ref ct, .ref sr]))] sz U ∧ thw "java/lang/IllegalStateException" 125 "the key is not ready" sa (va_A [(h0, .inr (0, [.ref kw, .int kb, .int (nI 0), .ref sc, .ref so, .ref tp, .int tl, .ref ct, .ref sr]))] sz) U U.heap)) (va_Qi (fun (_ : Int32) (_ : Unit) => False) (fun _ _ => True) (va_A [(h0, .inr (0, [.ref kw, .int kb, .int (nI 0), .ref sc, .ref so, .ref tp, .int tl, .ref ct, .ref sr]))] sz)) (vx_X (fun _ : Unit => True) (fun E _ t => E = "java/lang/IllegalStateException" ∧ BW D [(cI, .int)] (va_A [(h0, .inr (0, [.ref kw, .int kb, .int (nI 0), .ref sc, .ref so, .ref tp, .int tl, .ref ct, .ref sr]))] sz) [(h0, .inr (0, [.ref kw, .int kb, .int (nI 0), .ref sc, .ref so, .ref tp, .int tl, .ref ct, .ref sr]))] t) (va_A [(h0, .inr (0, [.ref kw, .int kb, .int (nI 0), .ref sc, .ref so, .ref tp, .int tl, .ref ct, .ref sr]))] sz)) 1 6 (va_A [(h0, .inr (0, [.ref kw, .int kb, .int (nI 0), .ref sc, .ref so, .ref tp, .int tl, .ref ct, .ref sr]))] sz) := by
  refine vx_ofW (cc := cX0_seal) (maxL := 3) (ret := (some .int)) (by decide) rfl ?_
  intro p e s m args below meth c s₁ B hml htab hv
  obtain ⟨rfl, ⟨hsz, hP, hK, hD0⟩, hth⟩ := hv
  have hx := B.exec
  have hb := B.bytes
  have hr := B.returns
  have hts := atoms_spec (ws := wsX0_seal) B.pre
  have hown : s.vm.findClass RX0 = some m.cls := findClass_of_methodNamed B.named
  have hlocks := B.notSynchronized
  subst hsz
  have hD := hD0.self (sz := s.heap.size)
  have hinX0 := in_X0_seal
  generalize hAe : va_A [(h0, .inr (0, [.ref kw, .int kb, .int (nI 0), .ref sc, .ref so, .ref tp, .int tl, .ref ct, .ref sr]))] s.heap.size = A at hth hD ⊢
  have hA : ∀ q : Nat, s.heap.size ≤ q → A q := fun q h => by rw [← hAe]; exact Or.inr h
  have hS : va_S A s.heap s.heap [] := va_S.rf
  have hl := lv_entry ([.ref h0, .int (nI k)]) (n := 3) (Nat.le_of_ble_eq_true rfl)
  rw [lg_entry_eq]
  generalize (lg_sl ([.ref h0, .int (nI k)]) ++ List.replicate (3 - (lg_sl ([.ref h0, .int (nI k)])).length) Slot.unset).toArray = ls at hl ⊢
  have hl : lv_has ls 3 [(0, .ref h0), (1, .int (nI k))] := hl
  refine lv_iload_n hx hb dX0_seal_0 rfl (lv_at hl 1 rfl) ?_
  refine lv_if_lt (tgt := 9) hx hb dX0_seal_1 (by decide) (fun c1 => absurd c1 (nI_pos (by omega))) (fun c1 => ?_)
  refine lv_iload_n hx hb dX0_seal_4 rfl (lv_at hl 1 rfl) ?_
  refine lv_iconst (v := nI 4) hx hb dX0_seal_5 (by decide) ?_
  refine wk_ltN (tgt := 19) hx hb (a := k) (b := 4) (by omega) (by decide) dX0_seal_6 (by decide) (fun c6 => ?_) (fun c6 => absurd c6 (by omega))
  refine lv_aload_n hx hb dX0_seal_19 rfl (lv_at hl 0 rfl) ?_
  refine wk_Vxv (b := h0) (As := []) (rest := []) (wc := [(h0, .inr (0, [.ref kw, .int kb, .int (nI 0), .ref sc, .ref so, .ref tp, .int tl, .ref ct, .ref sr]))]) (wr := []) (ci := 0) (q0 := 0) ⟨hx, hb, hml, hown, hts⟩ (c_X0_needReadyKey0 l hlt D cI sa h0 kw sc so tp ct sr kb tl _) (cwV 0 hts gX0_seal_X0_needReadyKey rfl rfl rfl (by decide +kernel) ⟨Nat.le_of_ble_eq_true rfl, Nat.le_of_ble_eq_true rfl⟩) (fun V g mk a h => thw.call g mk a h) (fun hF V hU hW => hth.give hS hF hU hW) hK hP hD hS hA rfl rfl [0] [] rfl (by decide) rfl (by decide) (by decide) [0] rfl (by decide) rfl hl.1 rfl (Nat.le_of_ble_eq_true rfl) dX0_seal_20 ⟨Nat.le_of_ble_eq_true rfl, Nat.le_of_ble_eq_true rfl⟩ (fun ce q9 H locs hP hD hS hce hcv hcl => ?_)
  exact vx_out (fun x hx9 => (htab x hx9).elim) hlocks hce hcv hcl (fun t ht hal => ⟨(), trivial, ⟨rfl, by rw [ht]; exact hP, va_K.moved hal hK, hD⟩, hS.F ht⟩) hS.2.2 (Nat.le_refl _) (Nat.le_refl _)
set_option maxHeartbeats 4000000 in
set_option maxRecDepth 100000 in
theorem c_X0_seal2b (l : Launch) (hlt : l.stackTraces = false) (D : va_G) (cI : ClassId) (sa : Nat) (h0 kw sc so tp ct sr : Nat) (kb : Int32) (sz0 k : Nat) (sz : Nat) (hz : sz0 ≤ 256) (h4 : sz0 % 4 ≠ 0) (hk : k < 4) : vx_Met l yX0_seal wsX0_seal ({ frames := 7, cells := 1, slots := 6, locals := 112 }) (va_Pc [.ref h0, .int (nI k)] (fun U => PW D [(cI, .int)] [(h0, .inr (0, [.ref kw, .int kb, .int (nI 1), .ref sc, .ref so, .ref tp, .int (nI sz0), .ref ct, .ref sr]))] sz U ∧ thw "java/lang/IllegalStateException" 127 "the tape ends within a block" sa (va_A [(h0, .inr (0, [.ref kw, .int kb, .int (nI 1), .ref sc, .ref so, .ref tp, .int (nI sz0), .ref ct, .ref sr]))] sz) U U.heap)) (va_Qi (fun (_ : Int32) (_ : Unit) => False) (fun _ _ => True) (va_A [(h0, .inr (0, [.ref kw, .int kb, .int (nI 1), .ref sc, .ref so, .ref tp, .int (nI sz0), .ref ct, .ref sr]))] sz)) (vx_X (fun _ : Unit => True) (fun E _ t => E = "java/lang/IllegalStateException" ∧ BW D [(cI, .int)] (va_A [(h0, .inr (0, [.ref kw, .int kb, .int (nI 1), .ref sc, .ref so, .ref tp, .int (nI sz0), .ref ct, .ref sr]))] sz) [(h0, .inr (0, [.ref kw, .int kb, .int (nI 1), .ref sc, .ref so, .ref tp, .int (nI sz0), .ref ct, .ref sr]))] t) (va_A [(h0, .inr (0, [.ref kw, .int kb, .int (nI 1), .ref sc, .ref so, .ref tp, .int (nI sz0), .ref ct, .ref sr]))] sz)) 1 6 (va_A [(h0, .inr (0, [.ref kw, .int kb, .int (nI 1), .ref sc, .ref so, .ref tp, .int (nI sz0), .ref ct, .ref sr]))] sz) := by
  refine vx_ofW (cc := cX0_seal) (maxL := 3) (ret := (some .int)) (by decide) rfl ?_
  intro p e s m args below meth c s₁ B hml htab hv
  obtain ⟨rfl, ⟨hsz, hP, hK, hD0⟩, hth⟩ := hv
  have hx := B.exec
  have hb := B.bytes
  have hr := B.returns
  have hts := atoms_spec (ws := wsX0_seal) B.pre
  have hown : s.vm.findClass RX0 = some m.cls := findClass_of_methodNamed B.named
  have hlocks := B.notSynchronized
  subst hsz
  have hD := hD0.self (sz := s.heap.size)
  have hinX0 := in_X0_seal
  generalize hAe : va_A [(h0, .inr (0, [.ref kw, .int kb, .int (nI 1), .ref sc, .ref so, .ref tp, .int (nI sz0), .ref ct, .ref sr]))] s.heap.size = A at hth hD ⊢
  have hA : ∀ q : Nat, s.heap.size ≤ q → A q := fun q h => by rw [← hAe]; exact Or.inr h
  have hS : va_S A s.heap s.heap [] := va_S.rf
  have hl := lv_entry ([.ref h0, .int (nI k)]) (n := 3) (Nat.le_of_ble_eq_true rfl)
  rw [lg_entry_eq]
  generalize (lg_sl ([.ref h0, .int (nI k)]) ++ List.replicate (3 - (lg_sl ([.ref h0, .int (nI k)])).length) Slot.unset).toArray = ls at hl ⊢
  have hl : lv_has ls 3 [(0, .ref h0), (1, .int (nI k))] := hl
  refine lv_iload_n hx hb dX0_seal_0 rfl (lv_at hl 1 rfl) ?_
  refine lv_if_lt (tgt := 9) hx hb dX0_seal_1 (by decide) (fun c1 => absurd c1 (nI_pos (by omega))) (fun c1 => ?_)
  refine lv_iload_n hx hb dX0_seal_4 rfl (lv_at hl 1 rfl) ?_
  refine lv_iconst (v := nI 4) hx hb dX0_seal_5 (by decide) ?_
  refine wk_ltN (tgt := 19) hx hb (a := k) (b := 4) (by omega) (by decide) dX0_seal_6 (by decide) (fun c6 => ?_) (fun c6 => absurd c6 (by omega))
  refine lv_aload_n hx hb dX0_seal_19 rfl (lv_at hl 0 rfl) ?_
  refine wk_Vv (b := h0) (As := []) (rest := []) (wc := [(h0, .inr (0, [.ref kw, .int kb, .int (nI 1), .ref sc, .ref so, .ref tp, .int (nI sz0), .ref ct, .ref sr]))]) (wr := []) (w1 := [(h0, .inr (0, [.ref kw, .int kb, .int (nI 1), .ref sc, .ref so, .ref tp, .int (nI sz0), .ref ct, .ref sr]))]) (w2 := [(h0, .inr (0, [.ref kw, .int kb, .int (nI 1), .ref sc, .ref so, .ref tp, .int (nI sz0), .ref ct, .ref sr]))]) (ci := 0) (q0 := 0) ⟨hx, hb, hml, hown, hts⟩ (c_X0_needReadyKey1 l D cI _ h0 kw sc so tp ct sr kb (nI sz0)) (cwV 0 hts gX0_seal_X0_needReadyKey rfl rfl rfl (by decide +kernel) ⟨Nat.le_of_ble_eq_true rfl, Nat.le_of_ble_eq_true rfl⟩) (fun _ _ _ _ h => h) (fun _ _ _ _ => trivial) hK hP hD hS hA rfl rfl [0] [] rfl (by decide) rfl (by decide) (by decide) [0] rfl (by decide) rfl hl.1 rfl (Nat.le_of_ble_eq_true rfl) dX0_seal_20 ⟨Nat.zero_le _, Nat.zero_le _⟩ (fun H locs hP hD hS => ?_)
  refine lv_aload_n hx hb dX0_seal_23 rfl (lv_at hl 0 rfl) ?_
  refine wk_Vxv (b := h0) (As := []) (rest := []) (wc := [(h0, .inr (0, [.ref kw, .int kb, .int (nI 1), .ref sc, .ref so, .ref tp, .int (nI sz0), .ref ct, .ref sr]))]) (wr := []) (ci := 0) (q0 := 0) ⟨hx, hb, hml, hown, hts⟩ (c_X0_needWholeBlocks0 l hlt D cI sa h0 kw sc so tp ct sr kb (nI 1) sz0 _ hz h4) (cwV 0 hts gX0_seal_X0_needWholeBlocks rfl rfl rfl (by decide +kernel) ⟨Nat.le_of_ble_eq_true rfl, Nat.le_of_ble_eq_true rfl⟩) (fun V g mk a h => thw.call g mk a h) (fun hF V hU hW => hth.give hS hF hU hW) hK hP hD hS hA rfl rfl [0] [] rfl (by decide) rfl (by decide) (by decide) [0] rfl (by decide) rfl hl.1 rfl (Nat.le_of_ble_eq_true rfl) dX0_seal_24 ⟨Nat.le_of_ble_eq_true rfl, Nat.le_of_ble_eq_true rfl⟩ (fun ce q9 H locs hP hD hS hce hcv hcl => ?_)
  exact vx_out (fun x hx9 => (htab x hx9).elim) hlocks hce hcv hcl (fun t ht hal => ⟨(), trivial, ⟨rfl, by rw [ht]; exact hP, va_K.moved hal hK, hD⟩, hS.F ht⟩) hS.2.2 (Nat.le_refl _) (Nat.le_refl _)
