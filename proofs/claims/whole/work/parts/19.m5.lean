theorem c_X1_isIn0 (l : Launch) (v lo hi : Int32) (h : v < lo ∨ (¬ v < lo ∧ hi < v)) : Met l yX1_isIn wsX1_isIn ({ frames := 0, cells := 0, slots := 0, locals := 0 }) (va_Pc [.int v, .int lo, .int hi] (fun _ => True)) (vp_Si (fun r9 => r9 = nI 0)) 0 0 (fun _ => False) := h.elim (c_X1_isIn0a l v lo hi) (fun h => c_X1_isIn0b l v lo hi h.1 h.2)
def isInV (v lo hi : Int32) : Int32 := if v < lo then nI 0 else if hi < v then nI 0 else nI 1
theorem c_X1_isIn (l : Launch) (v lo hi : Int32) : Met l yX1_isIn wsX1_isIn ({ frames := 0, cells := 0, slots := 0, locals := 0 }) (va_Pc [.int v, .int lo, .int hi] (fun _ => True)) (vp_Si (fun r9 => r9 = isInV v lo hi)) 0 0 (fun _ => False) := by
  unfold isInV
  by_cases h1 : v < lo
  · rw [if_pos h1]; exact c_X1_isIn0a l v lo hi h1
  · rw [if_neg h1]
    by_cases h2 : hi < v
    · rw [if_pos h2]; exact c_X1_isIn0b l v lo hi h1 h2
    · rw [if_neg h2]; exact c_X1_isIn1 l v lo hi h1 h2
set_option maxRecDepth 100000 in
theorem in_X1_good : ∀ w ∈ wsX10, w ∈ wsX1_good := by decide +kernel
set_option maxHeartbeats 4000000 in
set_option maxRecDepth 100000 in
theorem c_X1_good1 (l : Launch) (D : va_G) (cI : ClassId) (sz : Nat) (h0 a1 a4 a5 a6 a7 a9 a10 a11 a12 : Nat) (th by0 rd zz : Int32) (y : Int32) : Met l yX1_good wsX1_good ({ frames := 0, cells := 0, slots := 0, locals := 0 }) (va_Pc [.ref h0, .int (nI 0), .int y] (fun U => PW D [(cI, .int)] [(h0, .inr (1, [.int th, .ref a1, .int by0, .int rd, .ref a4, .ref a5, .ref a6, .ref a7, .int zz, .ref a9, .ref a10, .ref a11, .ref a12]))] sz U ∧ True)) (va_Qi (fun r9 (u : Nat → Nat → Int32) => r9 = nI 0) (fun u => BW D [(cI, .int)] (va_A [(h0, .inr (1, [.int th, .ref a1, .int by0, .int rd, .ref a4, .ref a5, .ref a6, .ref a7, .int zz, .ref a9, .ref a10, .ref a11, .ref a12]))] sz) [(h0, .inr (1, [.int (nI 1), .ref a1, .int by0, .int rd, .ref a4, .ref a5, .ref a6, .ref a7, .int zz, .ref a9, .ref a10, .ref a11, .ref a12]))]) (va_A [(h0, .inr (1, [.int th, .ref a1, .int by0, .int rd, .ref a4, .ref a5, .ref a6, .ref a7, .int zz, .ref a9, .ref a10, .ref a11, .ref a12]))] sz)) 0 0 (va_A [(h0, .inr (1, [.int th, .ref a1, .int by0, .int rd, .ref a4, .ref a5, .ref a6, .ref a7, .int zz, .ref a9, .ref a10, .ref a11, .ref a12]))] sz) := by
  refine Met.ofW (cc := cX1_good) (maxL := 3) (ret := (some .boolean)) (by decide) rfl ?_
  intro p e s m args below meth c s₁ B hml hv
  obtain ⟨rfl, ⟨hsz, hP, hK, hD0⟩, -⟩ := hv
  have hx := B.exec
  have hb := B.bytes
  have hr := B.returns
  have hts := atoms_spec (ws := wsX1_good) B.pre
  have hown : s.vm.findClass RX1 = some m.cls := findClass_of_methodNamed B.named
  have hlocks := B.notSynchronized
  subst hsz
  have hD := hD0.self (sz := s.heap.size)
  have hinX1 := in_X1_good
  generalize hAe : va_A [(h0, .inr (1, [.int th, .ref a1, .int by0, .int rd, .ref a4, .ref a5, .ref a6, .ref a7, .int zz, .ref a9, .ref a10, .ref a11, .ref a12]))] s.heap.size = A at hD ⊢
  have hA : ∀ q : Nat, s.heap.size ≤ q → A q := fun q h => by rw [← hAe]; exact Or.inr h
  have hS : va_S A s.heap s.heap [] := va_S.rf
  have hl := lv_entry ([.ref h0, .int (nI 0), .int y]) (n := 3) (Nat.le_of_ble_eq_true rfl)
  rw [lg_entry_eq]
  generalize (lg_sl ([.ref h0, .int (nI 0), .int y]) ++ List.replicate (3 - (lg_sl ([.ref h0, .int (nI 0), .int y])).length) Slot.unset).toArray = ls at hl ⊢
  have hl : lv_has ls 3 [(0, .ref h0), (1, .int (nI 0)), (2, .int y)] := hl
  refine lv_aload_n hx hb dX1_good_0 rfl (lv_at hl 0 rfl) ?_
  refine lv_iload_n hx hb dX1_good_1 rfl (lv_at hl 1 rfl) ?_
  refine wk_ne0N (tgt := 9) hx hb (a := 0) (by decide) dX1_good_2 (by decide) (fun c2 => absurd c2 (fun h => h rfl)) (fun c2 => ?_)
  refine lv_iconst (v := nI 1) hx hb dX1_good_5 (by decide) ?_
  refine lv_goto (tgt := 18) hx hb dX1_good_6 (by decide) ?_
  refine va_put (D := D) (ci := 1) (v := .int (nI 1)) (ty := .int) (C := RX1) (T := TX1) (N := 13) hx hb hts hinX1 tyX1 tyX1_ok nmX1 hown hK hP hD hS 0 rfl rfl 0 (by decide) (hts (.fieldLink RX1 41 "SlicedCipherModel" "thrown" "I") (by decide +kernel)) (fun _ h9 => h9) rfl (by decide +kernel) rfl rfl (Nat.le_of_ble_eq_true rfl) dX1_good_18 (fun H locs hP hD hS => ?_)
  have hP : va_P D vwCl [(h0, .inr (1, [.int (nI 1), .ref a1, .int by0, .int rd, .ref a4, .ref a5, .ref a6, .ref a7, .int zz, .ref a9, .ref a10, .ref a11, .ref a12]))] H := hP
  have hD : va_D A [(h0, .inr (1, [.int (nI 1), .ref a1, .int by0, .int rd, .ref a4, .ref a5, .ref a6, .ref a7, .int zz, .ref a9, .ref a10, .ref a11, .ref a12]))] := hD
  refine lv_aload_n hx hb dX1_good_21 rfl (lv_at hl 0 rfl) ?_
  refine va_get (D := D) (ci := 1) (v := .int (nI 1)) (C := RX1) (T := TX1) (N := 13) hx hb hts hinX1 hown hK hP 0 rfl rfl 0 (by decide) (hts (.fieldLink RX1 41 "SlicedCipherModel" "thrown" "I") (by decide +kernel)) (fun _ h9 => h9) rfl dX1_good_22 ?_
  refine wk_ne0N (tgt := 32) hx hb (a := 1) (by decide) dX1_good_25 (by decide) (fun c25 => ?_) (fun c25 => absurd c25 (by decide))
  refine lv_iconst (v := nI 0) hx hb dX1_good_32 (by decide) ?_
  exact W.zret (v := nI 0) (ty := .boolean) hx hb hr rfl (fun t ht hW => ⟨⟨_, (fun _ _ => 0), rfl, rfl, by rw [ht]; exact hP, va_K.moved hW.alike hK, hD⟩, hS.F ht⟩) hS.2.2 dX1_good_33
set_option maxHeartbeats 4000000 in
set_option maxRecDepth 100000 in
theorem c_X1_good2 (l : Launch) (D : va_G) (cI : ClassId) (sz : Nat) (h0 a1 a4 a5 a6 a7 a9 a10 a11 a12 : Nat) (th by0 rd zz : Int32) : Met l yX1_good wsX1_good ({ frames := 0, cells := 0, slots := 0, locals := 0 }) (va_Pc [.ref h0, .int (nI 1), .int (nI 0)] (fun U => PW D [(cI, .int)] [(h0, .inr (1, [.int th, .ref a1, .int by0, .int rd, .ref a4, .ref a5, .ref a6, .ref a7, .int zz, .ref a9, .ref a10, .ref a11, .ref a12]))] sz U ∧ True)) (va_Qi (fun r9 (u : Nat → Nat → Int32) => r9 = nI 0) (fun u => BW D [(cI, .int)] (va_A [(h0, .inr (1, [.int th, .ref a1, .int by0, .int rd, .ref a4, .ref a5, .ref a6, .ref a7, .int zz, .ref a9, .ref a10, .ref a11, .ref a12]))] sz) [(h0, .inr (1, [.int (nI 2), .ref a1, .int by0, .int rd, .ref a4, .ref a5, .ref a6, .ref a7, .int zz, .ref a9, .ref a10, .ref a11, .ref a12]))]) (va_A [(h0, .inr (1, [.int th, .ref a1, .int by0, .int rd, .ref a4, .ref a5, .ref a6, .ref a7, .int zz, .ref a9, .ref a10, .ref a11, .ref a12]))] sz)) 0 0 (va_A [(h0, .inr (1, [.int th, .ref a1, .int by0, .int rd, .ref a4, .ref a5, .ref a6, .ref a7, .int zz, .ref a9, .ref a10, .ref a11, .ref a12]))] sz) := by
  refine Met.ofW (cc := cX1_good) (maxL := 3) (ret := (some .boolean)) (by decide) rfl ?_
  intro p e s m args below meth c s₁ B hml hv
  obtain ⟨rfl, ⟨hsz, hP, hK, hD0⟩, -⟩ := hv
  have hx := B.exec
  have hb := B.bytes
  have hr := B.returns
  have hts := atoms_spec (ws := wsX1_good) B.pre
  have hown : s.vm.findClass RX1 = some m.cls := findClass_of_methodNamed B.named
  have hlocks := B.notSynchronized
  subst hsz
  have hD := hD0.self (sz := s.heap.size)
  have hinX1 := in_X1_good
  generalize hAe : va_A [(h0, .inr (1, [.int th, .ref a1, .int by0, .int rd, .ref a4, .ref a5, .ref a6, .ref a7, .int zz, .ref a9, .ref a10, .ref a11, .ref a12]))] s.heap.size = A at hD ⊢
  have hA : ∀ q : Nat, s.heap.size ≤ q → A q := fun q h => by rw [← hAe]; exact Or.inr h
  have hS : va_S A s.heap s.heap [] := va_S.rf
  have hl := lv_entry ([.ref h0, .int (nI 1), .int (nI 0)]) (n := 3) (Nat.le_of_ble_eq_true rfl)
  rw [lg_entry_eq]
  generalize (lg_sl ([.ref h0, .int (nI 1), .int (nI 0)]) ++ List.replicate (3 - (lg_sl ([.ref h0, .int (nI 1), .int (nI 0)])).length) Slot.unset).toArray = ls at hl ⊢
  have hl : lv_has ls 3 [(0, .ref h0), (1, .int (nI 1)), (2, .int (nI 0))] := hl
  refine lv_aload_n hx hb dX1_good_0 rfl (lv_at hl 0 rfl) ?_
  refine lv_iload_n hx hb dX1_good_1 rfl (lv_at hl 1 rfl) ?_
  refine wk_ne0N (tgt := 9) hx hb (a := 1) (by decide) dX1_good_2 (by decide) (fun c2 => ?_) (fun c2 => absurd c2 (by decide))
  refine lv_iload_n hx hb dX1_good_9 rfl (lv_at hl 2 rfl) ?_
  refine wk_ne0N (tgt := 17) hx hb (a := 0) (by decide) dX1_good_10 (by decide) (fun c10 => absurd c10 (fun h => h rfl)) (fun c10 => ?_)
  refine lv_iconst (v := nI 2) hx hb dX1_good_13 (by decide) ?_
  refine lv_goto (tgt := 18) hx hb dX1_good_14 (by decide) ?_
  refine va_put (D := D) (ci := 1) (v := .int (nI 2)) (ty := .int) (C := RX1) (T := TX1) (N := 13) hx hb hts hinX1 tyX1 tyX1_ok nmX1 hown hK hP hD hS 0 rfl rfl 0 (by decide) (hts (.fieldLink RX1 41 "SlicedCipherModel" "thrown" "I") (by decide +kernel)) (fun _ h9 => h9) rfl (by decide +kernel) rfl rfl (Nat.le_of_ble_eq_true rfl) dX1_good_18 (fun H locs hP hD hS => ?_)
  have hP : va_P D vwCl [(h0, .inr (1, [.int (nI 2), .ref a1, .int by0, .int rd, .ref a4, .ref a5, .ref a6, .ref a7, .int zz, .ref a9, .ref a10, .ref a11, .ref a12]))] H := hP
  have hD : va_D A [(h0, .inr (1, [.int (nI 2), .ref a1, .int by0, .int rd, .ref a4, .ref a5, .ref a6, .ref a7, .int zz, .ref a9, .ref a10, .ref a11, .ref a12]))] := hD
  refine lv_aload_n hx hb dX1_good_21 rfl (lv_at hl 0 rfl) ?_
  refine va_get (D := D) (ci := 1) (v := .int (nI 2)) (C := RX1) (T := TX1) (N := 13) hx hb hts hinX1 hown hK hP 0 rfl rfl 0 (by decide) (hts (.fieldLink RX1 41 "SlicedCipherModel" "thrown" "I") (by decide +kernel)) (fun _ h9 => h9) rfl dX1_good_22 ?_
  refine wk_ne0N (tgt := 32) hx hb (a := 2) (by decide) dX1_good_25 (by decide) (fun c25 => ?_) (fun c25 => absurd c25 (by decide))
  refine lv_iconst (v := nI 0) hx hb dX1_good_32 (by decide) ?_
  exact W.zret (v := nI 0) (ty := .boolean) hx hb hr rfl (fun t ht hW => ⟨⟨_, (fun _ _ => 0), rfl, rfl, by rw [ht]; exact hP, va_K.moved hW.alike hK, hD⟩, hS.F ht⟩) hS.2.2 dX1_good_33
set_option maxHeartbeats 4000000 in
set_option maxRecDepth 100000 in
theorem c_X1_good0 (l : Launch) (D : va_G) (cI : ClassId) (sz : Nat) (h0 a1 a4 a5 a6 a7 a9 a10 a11 a12 : Nat) (th by0 rd zz : Int32) : Met l yX1_good wsX1_good ({ frames := 0, cells := 0, slots := 0, locals := 0 }) (va_Pc [.ref h0, .int (nI 1), .int (nI 1)] (fun U => PW D [(cI, .int)] [(h0, .inr (1, [.int th, .ref a1, .int by0, .int rd, .ref a4, .ref a5, .ref a6, .ref a7, .int zz, .ref a9, .ref a10, .ref a11, .ref a12]))] sz U ∧ True)) (va_Qi (fun r9 (u : Nat → Nat → Int32) => r9 = nI 1) (fun u => BW D [(cI, .int)] (va_A [(h0, .inr (1, [.int th, .ref a1, .int by0, .int rd, .ref a4, .ref a5, .ref a6, .ref a7, .int zz, .ref a9, .ref a10, .ref a11, .ref a12]))] sz) [(h0, .inr (1, [.int (nI 0), .ref a1, .int by0, .int rd, .ref a4, .ref a5, .ref a6, .ref a7, .int zz, .ref a9, .ref a10, .ref a11, .ref a12]))]) (va_A [(h0, .inr (1, [.int th, .ref a1, .int by0, .int rd, .ref a4, .ref a5, .ref a6, .ref a7, .int zz, .ref a9, .ref a10, .ref a11, .ref a12]))] sz)) 0 0 (va_A [(h0, .inr (1, [.int th, .ref a1, .int by0, .int rd, .ref a4, .ref a5, .ref a6, .ref a7, .int zz, .ref a9, .ref a10, .ref a11, .ref a12]))] sz) := by
  refine Met.ofW (cc := cX1_good) (maxL := 3) (ret := (some .boolean)) (by decide) rfl ?_
  intro p e s m args below meth c s₁ B hml hv
  obtain ⟨rfl, ⟨hsz, hP, hK, hD0⟩, -⟩ := hv
  have hx := B.exec
  have hb := B.bytes
  have hr := B.returns
  have hts := atoms_spec (ws := wsX1_good) B.pre
  have hown : s.vm.findClass RX1 = some m.cls := findClass_of_methodNamed B.named
  have hlocks := B.notSynchronized
  subst hsz
  have hD := hD0.self (sz := s.heap.size)
  have hinX1 := in_X1_good
  generalize hAe : va_A [(h0, .inr (1, [.int th, .ref a1, .int by0, .int rd, .ref a4, .ref a5, .ref a6, .ref a7, .int zz, .ref a9, .ref a10, .ref a11, .ref a12]))] s.heap.size = A at hD ⊢
  have hA : ∀ q : Nat, s.heap.size ≤ q → A q := fun q h => by rw [← hAe]; exact Or.inr h
  have hS : va_S A s.heap s.heap [] := va_S.rf
  have hl := lv_entry ([.ref h0, .int (nI 1), .int (nI 1)]) (n := 3) (Nat.le_of_ble_eq_true rfl)
  rw [lg_entry_eq]
  generalize (lg_sl ([.ref h0, .int (nI 1), .int (nI 1)]) ++ List.replicate (3 - (lg_sl ([.ref h0, .int (nI 1), .int (nI 1)])).length) Slot.unset).toArray = ls at hl ⊢
  have hl : lv_has ls 3 [(0, .ref h0), (1, .int (nI 1)), (2, .int (nI 1))] := hl
  refine lv_aload_n hx hb dX1_good_0 rfl (lv_at hl 0 rfl) ?_
  refine lv_iload_n hx hb dX1_good_1 rfl (lv_at hl 1 rfl) ?_
  refine wk_ne0N (tgt := 9) hx hb (a := 1) (by decide) dX1_good_2 (by decide) (fun c2 => ?_) (fun c2 => absurd c2 (by decide))
  refine lv_iload_n hx hb dX1_good_9 rfl (lv_at hl 2 rfl) ?_
  refine wk_ne0N (tgt := 17) hx hb (a := 1) (by decide) dX1_good_10 (by decide) (fun c10 => ?_) (fun c10 => absurd c10 (by decide))
  refine lv_iconst (v := nI 0) hx hb dX1_good_17 (by decide) ?_
  refine va_put (D := D) (ci := 1) (v := .int (nI 0)) (ty := .int) (C := RX1) (T := TX1) (N := 13) hx hb hts hinX1 tyX1 tyX1_ok nmX1 hown hK hP hD hS 0 rfl rfl 0 (by decide) (hts (.fieldLink RX1 41 "SlicedCipherModel" "thrown" "I") (by decide +kernel)) (fun _ h9 => h9) rfl (by decide +kernel) rfl rfl (Nat.le_of_ble_eq_true rfl) dX1_good_18 (fun H locs hP hD hS => ?_)
  have hP : va_P D vwCl [(h0, .inr (1, [.int (nI 0), .ref a1, .int by0, .int rd, .ref a4, .ref a5, .ref a6, .ref a7, .int zz, .ref a9, .ref a10, .ref a11, .ref a12]))] H := hP
  have hD : va_D A [(h0, .inr (1, [.int (nI 0), .ref a1, .int by0, .int rd, .ref a4, .ref a5, .ref a6, .ref a7, .int zz, .ref a9, .ref a10, .ref a11, .ref a12]))] := hD
  refine lv_aload_n hx hb dX1_good_21 rfl (lv_at hl 0 rfl) ?_
  refine va_get (D := D) (ci := 1) (v := .int (nI 0)) (C := RX1) (T := TX1) (N := 13) hx hb hts hinX1 hown hK hP 0 rfl rfl 0 (by decide) (hts (.fieldLink RX1 41 "SlicedCipherModel" "thrown" "I") (by decide +kernel)) (fun _ h9 => h9) rfl dX1_good_22 ?_
  refine wk_ne0N (tgt := 32) hx hb (a := 0) (by decide) dX1_good_25 (by decide) (fun c25 => absurd c25 (fun h => h rfl)) (fun c25 => ?_)
  refine lv_iconst (v := nI 1) hx hb dX1_good_28 (by decide) ?_
  refine lv_goto (tgt := 33) hx hb dX1_good_29 (by decide) ?_
  exact W.zret (v := nI 1) (ty := .boolean) hx hb hr rfl (fun t ht hW => ⟨⟨_, (fun _ _ => 0), rfl, rfl, by rw [ht]; exact hP, va_K.moved hW.alike hK, hD⟩, hS.F ht⟩) hS.2.2 dX1_good_33
set_option maxRecDepth 100000 in
theorem in_X1_thrown : ∀ w ∈ wsX10, w ∈ wsX1_thrown := by decide +kernel
set_option maxHeartbeats 4000000 in
set_option maxRecDepth 100000 in
theorem c_X1_thrown (l : Launch) (D : va_G) (cI : ClassId) (sz : Nat) (h0 a1 a4 a5 a6 a7 a9 a10 a11 a12 : Nat) (th by0 rd zz : Int32) : Met l yX1_thrown wsX1_thrown ({ frames := 0, cells := 0, slots := 0, locals := 0 }) (va_Pc [.ref h0] (fun U => PW D [(cI, .int)] [(h0, .inr (1, [.int th, .ref a1, .int by0, .int rd, .ref a4, .ref a5, .ref a6, .ref a7, .int zz, .ref a9, .ref a10, .ref a11, .ref a12]))] sz U ∧ True)) (vp_Si (fun r9 => r9 = th)) 0 0 (fun _ => False) := by
  refine Met.ofW (cc := cX1_thrown) (maxL := 1) (ret := (some .int)) (by decide) rfl ?_
  intro p e s m args below meth c s₁ B hml hv
  obtain ⟨rfl, ⟨hsz, hP, hK, hD0⟩, -⟩ := hv
  have hx := B.exec
  have hb := B.bytes
  have hr := B.returns
  have hts := atoms_spec (ws := wsX1_thrown) B.pre
  have hown : s.vm.findClass RX1 = some m.cls := findClass_of_methodNamed B.named
  have hlocks := B.notSynchronized
  subst hsz
  have hD := hD0.self (sz := s.heap.size)
  have hinX1 := in_X1_thrown
  generalize hAe : va_A [(h0, .inr (1, [.int th, .ref a1, .int by0, .int rd, .ref a4, .ref a5, .ref a6, .ref a7, .int zz, .ref a9, .ref a10, .ref a11, .ref a12]))] s.heap.size = A at hD
  have hA : ∀ q : Nat, s.heap.size ≤ q → A q := fun q h => by rw [← hAe]; exact Or.inr h
  have hS : va_S A s.heap s.heap [] := va_S.rf
  have hl := lv_entry ([.ref h0]) (n := 1) (Nat.le_of_ble_eq_true rfl)
  rw [lg_entry_eq]
  generalize (lg_sl ([.ref h0]) ++ List.replicate (1 - (lg_sl ([.ref h0])).length) Slot.unset).toArray = ls at hl ⊢
  have hl : lv_has ls 1 [(0, .ref h0)] := hl
  refine lv_aload_n hx hb dX1_thrown_0 rfl (lv_at hl 0 rfl) ?_
  refine va_get (D := D) (ci := 1) (v := .int th) (C := RX1) (T := TX1) (N := 13) hx hb hts hinX1 hown hK hP 0 rfl rfl 0 (by decide) (hts (.fieldLink RX1 41 "SlicedCipherModel" "thrown" "I") (by decide +kernel)) (fun _ h9 => h9) rfl dX1_thrown_1 ?_
  exact W.iret (v := th) hx hb hr (fun t ht hW => ⟨_, rfl, rfl, ht⟩) (fun q h => absurd h List.not_mem_nil) dX1_thrown_4
set_option maxRecDepth 100000 in
theorem in_X1_key : ∀ w ∈ wsX10, w ∈ wsX1_key := by decide +kernel
set_option maxHeartbeats 4000000 in
set_option maxRecDepth 100000 in
theorem c_X1_key1 (l : Launch) (D : va_G) (cI : ClassId) (sz : Nat) (h0 a1 a4 a5 a6 a7 a9 a10 a11 a12 : Nat) (th by0 rd zz : Int32) (k : Nat) (v : Int32) (K : Nat → Int32) (hk : k < 8) : Met l yX1_key wsX1_key ({ frames := 1, cells := 0, slots := 0, locals := 22 }) (va_Pc [.ref h0, .int (nI k), .int v] (fun U => PW D [(cI, .int)] [(h0, .inr (1, [.int th, .ref a1, .int by0, .int rd, .ref a4, .ref a5, .ref a6, .ref a7, .int zz, .ref a9, .ref a10, .ref a11, .ref a12])), (a1, .inl (cI, 8, .inl K))] sz U ∧ True)) (va_Qv (fun _ : Nat → Nat → Int32 => True) (fun u => BW D [(cI, .int)] (va_A [(h0, .inr (1, [.int th, .ref a1, .int by0, .int rd, .ref a4, .ref a5, .ref a6, .ref a7, .int zz, .ref a9, .ref a10, .ref a11, .ref a12])), (a1, .inl (cI, 8, .inl K))] sz) [(h0, .inr (1, [.int (nI 0), .ref a1, .int by0, .int (nI 0), .ref a4, .ref a5, .ref a6, .ref a7, .int zz, .ref a9, .ref a10, .ref a11, .ref a12])), (a1, .inl (cI, 8, .inl (upd K k v)))]) (va_A [(h0, .inr (1, [.int th, .ref a1, .int by0, .int rd, .ref a4, .ref a5, .ref a6, .ref a7, .int zz, .ref a9, .ref a10, .ref a11, .ref a12])), (a1, .inl (cI, 8, .inl K))] sz)) 0 0 (va_A [(h0, .inr (1, [.int th, .ref a1, .int by0, .int rd, .ref a4, .ref a5, .ref a6, .ref a7, .int zz, .ref a9, .ref a10, .ref a11, .ref a12])), (a1, .inl (cI, 8, .inl K))] sz) := by
  refine Met.ofW (cc := cX1_key) (maxL := 3) (ret := none) (by decide) rfl ?_
  intro p e s m args below meth c s₁ B hml hv
  obtain ⟨rfl, ⟨hsz, hP, hK, hD0⟩, -⟩ := hv
  have hx := B.exec
  have hb := B.bytes
  have hr := B.returns
  have hts := atoms_spec (ws := wsX1_key) B.pre
  have hown : s.vm.findClass RX1 = some m.cls := findClass_of_methodNamed B.named
  have hlocks := B.notSynchronized
  subst hsz
  have hD := hD0.self (sz := s.heap.size)
  have hinX1 := in_X1_key
  generalize hAe : va_A [(h0, .inr (1, [.int th, .ref a1, .int by0, .int rd, .ref a4, .ref a5, .ref a6, .ref a7, .int zz, .ref a9, .ref a10, .ref a11, .ref a12])), (a1, .inl (cI, 8, .inl K))] s.heap.size = A at hD ⊢
  have hA : ∀ q : Nat, s.heap.size ≤ q → A q := fun q h => by rw [← hAe]; exact Or.inr h
  have hS : va_S A s.heap s.heap [] := va_S.rf
  have hl := lv_entry ([.ref h0, .int (nI k), .int v]) (n := 3) (Nat.le_of_ble_eq_true rfl)
  rw [lg_entry_eq]
  generalize (lg_sl ([.ref h0, .int (nI k), .int v]) ++ List.replicate (3 - (lg_sl ([.ref h0, .int (nI k), .int v])).length) Slot.unset).toArray = ls at hl ⊢
  have hl : lv_has ls 3 [(0, .ref h0), (1, .int (nI k)), (2, .int v)] := hl
  refine lv_aload_n hx hb dX1_key_0 rfl (lv_at hl 0 rfl) ?_
  refine lv_iload_n hx hb dX1_key_1 rfl (lv_at hl 1 rfl) ?_
  refine lv_iconst (v := nI 0) hx hb dX1_key_2 (by decide) ?_
  refine lv_bipush (v := nI 7) hx hb dX1_key_3 (by decide) ?_
  refine wk_Sp (v := nI 1) (As := [.int (nI k), .int (nI 0), .int (nI 7)]) (rest := [.ref h0]) ⟨hx, hb, hml, hown, hts⟩ (c_X1_isIn1 l (nI k) (nI 0) (nI 7) (nI_pos (by omega)) (nI_nlt (by omega) (by omega))) (va_cwS 3 hts gX1_key_X1_isIn rfl rfl rfl (by decide +kernel) ⟨Nat.le_of_ble_eq_true rfl, Nat.le_of_ble_eq_true rfl⟩) rfl hl.1 rfl (Nat.le_of_ble_eq_true rfl) dX1_key_5 ⟨Nat.zero_le _, Nat.zero_le _⟩ ?_
  refine lv_iconst (v := nI 1) hx hb dX1_key_8 (by decide) ?_
  refine wk_VI (b := h0) (As := [.int (nI 1), .int (nI 1)]) (rest := []) (wc := [(h0, .inr (1, [.int th, .ref a1, .int by0, .int rd, .ref a4, .ref a5, .ref a6, .ref a7, .int zz, .ref a9, .ref a10, .ref a11, .ref a12]))]) (wr := [(a1, .inl (cI, 8, .inl K))]) (w1 := fun (u1 : Nat → Nat → Int32) => [(h0, .inr (1, [.int (nI 0), .ref a1, .int by0, .int rd, .ref a4, .ref a5, .ref a6, .ref a7, .int zz, .ref a9, .ref a10, .ref a11, .ref a12]))]) (w2 := fun (u1 : Nat → Nat → Int32) => [(h0, .inr (1, [.int (nI 0), .ref a1, .int by0, .int rd, .ref a4, .ref a5, .ref a6, .ref a7, .int zz, .ref a9, .ref a10, .ref a11, .ref a12])), (a1, .inl (cI, 8, .inl K))]) (ci := 1) (q0 := 0) ⟨hx, hb, hml, hown, hts⟩ (c_X1_good0 l D cI _ h0 a1 a4 a5 a6 a7 a9 a10 a11 a12 th by0 rd zz) (cwV 2 hts gX1_key_X1_good rfl rfl rfl (by decide +kernel) ⟨Nat.le_of_ble_eq_true rfl, Nat.le_of_ble_eq_true rfl⟩) (fun _ _ _ _ h => h) (fun _ _ _ _ => trivial) hK hP hD hS hA rfl rfl [0] [1] rfl (by decide) rfl (by decide) (by decide) [1, 0] (fun _ => rfl) (by decide) rfl hl.1 rfl (Nat.le_of_ble_eq_true rfl) dX1_key_9 ⟨Nat.zero_le _, Nat.zero_le _⟩ (fun zu1 u1 H locs hu1 hP hD hS => ?_)
  have hP : va_P D vwCl [(h0, .inr (1, [.int (nI 0), .ref a1, .int by0, .int rd, .ref a4, .ref a5, .ref a6, .ref a7, .int zz, .ref a9, .ref a10, .ref a11, .ref a12])), (a1, .inl (cI, 8, .inl K))] H := hP
  have hD : va_D A [(h0, .inr (1, [.int (nI 0), .ref a1, .int by0, .int rd, .ref a4, .ref a5, .ref a6, .ref a7, .int zz, .ref a9, .ref a10, .ref a11, .ref a12])), (a1, .inl (cI, 8, .inl K))] := hD
  refine wk_i (y := nI 1) hu1 ?_
  refine wk_eq0N (tgt := 27) hx hb (a := 1) (by decide) dX1_key_12 (by decide) (fun c12 => absurd c12 (by decide)) (fun c12 => ?_)
  refine lv_aload_n hx hb dX1_key_15 rfl (lv_at hl 0 rfl) ?_
  refine va_get (D := D) (ci := 1) (v := .ref a1) (C := RX1) (T := TX1) (N := 13) hx hb hts hinX1 hown hK hP 0 rfl rfl 1 (by decide) (hts (.fieldLink RX1 7 "SlicedCipherModel" "told" "[I") (by decide +kernel)) (fun _ h9 => h9) rfl dX1_key_16 ?_
  refine lv_iload_n hx hb dX1_key_19 rfl (lv_at hl 1 rfl) ?_
  refine lv_iload_n hx hb dX1_key_20 rfl (lv_at hl 2 rfl) ?_
  refine wk_iast hx hb hK hP hD hS 1 0 rfl rfl (k := k) (x := v) (by omega) (by decide) dX1_key_21 (fun H locs hP hD hS => ?_)
  have hP : va_P D vwCl [(h0, .inr (1, [.int (nI 0), .ref a1, .int by0, .int rd, .ref a4, .ref a5, .ref a6, .ref a7, .int zz, .ref a9, .ref a10, .ref a11, .ref a12])), (a1, .inl (cI, 8, .inl (upd K k v)))] H := hP
  have hD : va_D A [(h0, .inr (1, [.int (nI 0), .ref a1, .int by0, .int rd, .ref a4, .ref a5, .ref a6, .ref a7, .int zz, .ref a9, .ref a10, .ref a11, .ref a12])), (a1, .inl (cI, 8, .inl (upd K k v)))] := hD
  refine lv_aload_n hx hb dX1_key_22 rfl (lv_at hl 0 rfl) ?_
  refine lv_iconst (v := nI 0) hx hb dX1_key_23 (by decide) ?_
  refine va_put (D := D) (ci := 1) (v := .int (nI 0)) (ty := .boolean) (C := RX1) (T := TX1) (N := 13) hx hb hts hinX1 tyX1 tyX1_ok nmX1 hown hK hP hD hS 0 rfl rfl 3 (by decide) (hts (.fieldLink RX1 59 "SlicedCipherModel" "ready" "Z") (by decide +kernel)) (fun _ h9 => h9) rfl (by decide +kernel) rfl rfl (Nat.le_of_ble_eq_true rfl) dX1_key_24 (fun H locs hP hD hS => ?_)
  have hP : va_P D vwCl [(h0, .inr (1, [.int (nI 0), .ref a1, .int by0, .int (nI 0), .ref a4, .ref a5, .ref a6, .ref a7, .int zz, .ref a9, .ref a10, .ref a11, .ref a12])), (a1, .inl (cI, 8, .inl (upd K k v)))] H := hP
  have hD : va_D A [(h0, .inr (1, [.int (nI 0), .ref a1, .int by0, .int (nI 0), .ref a4, .ref a5, .ref a6, .ref a7, .int zz, .ref a9, .ref a10, .ref a11, .ref a12])), (a1, .inl (cI, 8, .inl (upd K k v)))] := hD
  exact W.vret hx hb hr (fun t ht hW => ⟨⟨(fun _ _ => 0), rfl, trivial, by rw [ht]; exact hP, va_K.moved hW.alike hK, hD⟩, hS.F ht⟩) hS.2.2 dX1_key_27
set_option maxHeartbeats 4000000 in
set_option maxRecDepth 100000 in
theorem c_X1_key0 (l : Launch) (D : va_G) (cI : ClassId) (sz : Nat) (h0 a1 a4 a5 a6 a7 a9 a10 a11 a12 : Nat) (th by0 rd zz : Int32) (i v : Int32) (hbad : i < nI 0 ∨ (¬ i < nI 0 ∧ nI 7 < i)) : Met l yX1_key wsX1_key ({ frames := 1, cells := 0, slots := 0, locals := 22 }) (va_Pc [.ref h0, .int i, .int v] (fun U => PW D [(cI, .int)] [(h0, .inr (1, [.int th, .ref a1, .int by0, .int rd, .ref a4, .ref a5, .ref a6, .ref a7, .int zz, .ref a9, .ref a10, .ref a11, .ref a12]))] sz U ∧ True)) (va_Qv (fun _ : Nat → Nat → Int32 => True) (fun u => BW D [(cI, .int)] (va_A [(h0, .inr (1, [.int th, .ref a1, .int by0, .int rd, .ref a4, .ref a5, .ref a6, .ref a7, .int zz, .ref a9, .ref a10, .ref a11, .ref a12]))] sz) [(h0, .inr (1, [.int (nI 1), .ref a1, .int by0, .int rd, .ref a4, .ref a5, .ref a6, .ref a7, .int zz, .ref a9, .ref a10, .ref a11, .ref a12]))]) (va_A [(h0, .inr (1, [.int th, .ref a1, .int by0, .int rd, .ref a4, .ref a5, .ref a6, .ref a7, .int zz, .ref a9, .ref a10, .ref a11, .ref a12]))] sz)) 0 0 (va_A [(h0, .inr (1, [.int th, .ref a1, .int by0, .int rd, .ref a4, .ref a5, .ref a6, .ref a7, .int zz, .ref a9, .ref a10, .ref a11, .ref a12]))] sz) := by
  refine Met.ofW (cc := cX1_key) (maxL := 3) (ret := none) (by decide) rfl ?_
  intro p e s m args below meth c s₁ B hml hv
  obtain ⟨rfl, ⟨hsz, hP, hK, hD0⟩, -⟩ := hv
  have hx := B.exec
  have hb := B.bytes
  have hr := B.returns
  have hts := atoms_spec (ws := wsX1_key) B.pre
  have hown : s.vm.findClass RX1 = some m.cls := findClass_of_methodNamed B.named
  have hlocks := B.notSynchronized
  subst hsz
  have hD := hD0.self (sz := s.heap.size)
  have hinX1 := in_X1_key
  generalize hAe : va_A [(h0, .inr (1, [.int th, .ref a1, .int by0, .int rd, .ref a4, .ref a5, .ref a6, .ref a7, .int zz, .ref a9, .ref a10, .ref a11, .ref a12]))] s.heap.size = A at hD ⊢
  have hA : ∀ q : Nat, s.heap.size ≤ q → A q := fun q h => by rw [← hAe]; exact Or.inr h
  have hS : va_S A s.heap s.heap [] := va_S.rf
  have hl := lv_entry ([.ref h0, .int i, .int v]) (n := 3) (Nat.le_of_ble_eq_true rfl)
  rw [lg_entry_eq]
  generalize (lg_sl ([.ref h0, .int i, .int v]) ++ List.replicate (3 - (lg_sl ([.ref h0, .int i, .int v])).length) Slot.unset).toArray = ls at hl ⊢
  have hl : lv_has ls 3 [(0, .ref h0), (1, .int i), (2, .int v)] := hl
  refine lv_aload_n hx hb dX1_key_0 rfl (lv_at hl 0 rfl) ?_
  refine lv_iload_n hx hb dX1_key_1 rfl (lv_at hl 1 rfl) ?_
  refine lv_iconst (v := nI 0) hx hb dX1_key_2 (by decide) ?_
  refine lv_bipush (v := nI 7) hx hb dX1_key_3 (by decide) ?_
  refine wk_Sp (v := nI 0) (As := [.int i, .int (nI 0), .int (nI 7)]) (rest := [.ref h0]) ⟨hx, hb, hml, hown, hts⟩ (c_X1_isIn0 l i (nI 0) (nI 7) (hbad)) (va_cwS 3 hts gX1_key_X1_isIn rfl rfl rfl (by decide +kernel) ⟨Nat.le_of_ble_eq_true rfl, Nat.le_of_ble_eq_true rfl⟩) rfl hl.1 rfl (Nat.le_of_ble_eq_true rfl) dX1_key_5 ⟨Nat.zero_le _, Nat.zero_le _⟩ ?_
  refine lv_iconst (v := nI 1) hx hb dX1_key_8 (by decide) ?_
  refine wk_VI (b := h0) (As := [.int (nI 0), .int (nI 1)]) (rest := []) (wc := [(h0, .inr (1, [.int th, .ref a1, .int by0, .int rd, .ref a4, .ref a5, .ref a6, .ref a7, .int zz, .ref a9, .ref a10, .ref a11, .ref a12]))]) (wr := []) (w1 := fun (u1 : Nat → Nat → Int32) => [(h0, .inr (1, [.int (nI 1), .ref a1, .int by0, .int rd, .ref a4, .ref a5, .ref a6, .ref a7, .int zz, .ref a9, .ref a10, .ref a11, .ref a12]))]) (w2 := fun (u1 : Nat → Nat → Int32) => [(h0, .inr (1, [.int (nI 1), .ref a1, .int by0, .int rd, .ref a4, .ref a5, .ref a6, .ref a7, .int zz, .ref a9, .ref a10, .ref a11, .ref a12]))]) (ci := 1) (q0 := 0) ⟨hx, hb, hml, hown, hts⟩ (c_X1_good1 l D cI _ h0 a1 a4 a5 a6 a7 a9 a10 a11 a12 th by0 rd zz (nI 1)) (cwV 2 hts gX1_key_X1_good rfl rfl rfl (by decide +kernel) ⟨Nat.le_of_ble_eq_true rfl, Nat.le_of_ble_eq_true rfl⟩) (fun _ _ _ _ h => h) (fun _ _ _ _ => trivial) hK hP hD hS hA rfl rfl [0] [] rfl (by decide) rfl (by decide) (by decide) [0] (fun _ => rfl) (by decide) rfl hl.1 rfl (Nat.le_of_ble_eq_true rfl) dX1_key_9 ⟨Nat.zero_le _, Nat.zero_le _⟩ (fun zu1 u1 H locs hu1 hP hD hS => ?_)
  have hP : va_P D vwCl [(h0, .inr (1, [.int (nI 1), .ref a1, .int by0, .int rd, .ref a4, .ref a5, .ref a6, .ref a7, .int zz, .ref a9, .ref a10, .ref a11, .ref a12]))] H := hP
  have hD : va_D A [(h0, .inr (1, [.int (nI 1), .ref a1, .int by0, .int rd, .ref a4, .ref a5, .ref a6, .ref a7, .int zz, .ref a9, .ref a10, .ref a11, .ref a12]))] := hD
  refine wk_i (y := nI 0) hu1 ?_
  refine wk_eq0N (tgt := 27) hx hb (a := 0) (by decide) dX1_key_12 (by decide) (fun c12 => ?_) (fun c12 => absurd c12 (fun h => h rfl))
  exact W.vret hx hb hr (fun t ht hW => ⟨⟨(fun _ _ => 0), rfl, trivial, by rw [ht]; exact hP, va_K.moved hW.alike hK, hD⟩, hS.F ht⟩) hS.2.2 dX1_key_27
set_option maxRecDepth 100000 in
theorem in_X1_size : ∀ w ∈ wsX10, w ∈ wsX1_size := by decide +kernel
set_option maxHeartbeats 4000000 in
set_option maxRecDepth 100000 in
theorem c_X1_size1 (l : Launch) (D : va_G) (cI : ClassId) (sz : Nat) (h0 a1 a4 a5 a6 a7 a9 a10 a11 a12 : Nat) (th by0 rd zz : Int32) (k : Nat) (hk : k ≤ 32) : Met l yX1_size wsX1_size ({ frames := 1, cells := 0, slots := 0, locals := 22 }) (va_Pc [.ref h0, .int (nI k)] (fun U => PW D [(cI, .int)] [(h0, .inr (1, [.int th, .ref a1, .int by0, .int rd, .ref a4, .ref a5, .ref a6, .ref a7, .int zz, .ref a9, .ref a10, .ref a11, .ref a12]))] sz U ∧ True)) (va_Qv (fun _ : Nat → Nat → Int32 => True) (fun u => BW D [(cI, .int)] (va_A [(h0, .inr (1, [.int th, .ref a1, .int by0, .int rd, .ref a4, .ref a5, .ref a6, .ref a7, .int zz, .ref a9, .ref a10, .ref a11, .ref a12]))] sz) [(h0, .inr (1, [.int (nI 0), .ref a1, .int (nI k), .int (nI 0), .ref a4, .ref a5, .ref a6, .ref a7, .int zz, .ref a9, .ref a10, .ref a11, .ref a12]))]) (va_A [(h0, .inr (1, [.int th, .ref a1, .int by0, .int rd, .ref a4, .ref a5, .ref a6, .ref a7, .int zz, .ref a9, .ref a10, .ref a11, .ref a12]))] sz)) 0 0 (va_A [(h0, .inr (1, [.int th, .ref a1, .int by0, .int rd, .ref a4, .ref a5, .ref a6, .ref a7, .int zz, .ref a9, .ref a10, .ref a11, .ref a12]))] sz) := by
  refine Met.ofW (cc := cX1_size) (maxL := 2) (ret := none) (by decide) rfl ?_
  intro p e s m args below meth c s₁ B hml hv
  obtain ⟨rfl, ⟨hsz, hP, hK, hD0⟩, -⟩ := hv
  have hx := B.exec
  have hb := B.bytes
  have hr := B.returns
  have hts := atoms_spec (ws := wsX1_size) B.pre
  have hown : s.vm.findClass RX1 = some m.cls := findClass_of_methodNamed B.named
  have hlocks := B.notSynchronized
  subst hsz
  have hD := hD0.self (sz := s.heap.size)
  have hinX1 := in_X1_size
  generalize hAe : va_A [(h0, .inr (1, [.int th, .ref a1, .int by0, .int rd, .ref a4, .ref a5, .ref a6, .ref a7, .int zz, .ref a9, .ref a10, .ref a11, .ref a12]))] s.heap.size = A at hD ⊢
  have hA : ∀ q : Nat, s.heap.size ≤ q → A q := fun q h => by rw [← hAe]; exact Or.inr h
  have hS : va_S A s.heap s.heap [] := va_S.rf
  have hl := lv_entry ([.ref h0, .int (nI k)]) (n := 2) (Nat.le_of_ble_eq_true rfl)
  rw [lg_entry_eq]
  generalize (lg_sl ([.ref h0, .int (nI k)]) ++ List.replicate (2 - (lg_sl ([.ref h0, .int (nI k)])).length) Slot.unset).toArray = ls at hl ⊢
  have hl : lv_has ls 2 [(0, .ref h0), (1, .int (nI k))] := hl
  refine lv_aload_n hx hb dX1_size_0 rfl (lv_at hl 0 rfl) ?_
  refine lv_iload_n hx hb dX1_size_1 rfl (lv_at hl 1 rfl) ?_
  refine lv_iconst (v := nI 0) hx hb dX1_size_2 (by decide) ?_
  refine lv_bipush (v := nI 32) hx hb dX1_size_3 (by decide) ?_
  refine wk_Sp (v := nI 1) (As := [.int (nI k), .int (nI 0), .int (nI 32)]) (rest := [.ref h0]) ⟨hx, hb, hml, hown, hts⟩ (c_X1_isIn1 l (nI k) (nI 0) (nI 32) (nI_pos (by omega)) (nI_nlt (by omega) (by omega))) (va_cwS 3 hts gX1_size_X1_isIn rfl rfl rfl (by decide +kernel) ⟨Nat.le_of_ble_eq_true rfl, Nat.le_of_ble_eq_true rfl⟩) rfl hl.1 rfl (Nat.le_of_ble_eq_true rfl) dX1_size_5 ⟨Nat.zero_le _, Nat.zero_le _⟩ ?_
  refine lv_iconst (v := nI 1) hx hb dX1_size_8 (by decide) ?_
  refine wk_VI (b := h0) (As := [.int (nI 1), .int (nI 1)]) (rest := []) (wc := [(h0, .inr (1, [.int th, .ref a1, .int by0, .int rd, .ref a4, .ref a5, .ref a6, .ref a7, .int zz, .ref a9, .ref a10, .ref a11, .ref a12]))]) (wr := []) (w1 := fun (u1 : Nat → Nat → Int32) => [(h0, .inr (1, [.int (nI 0), .ref a1, .int by0, .int rd, .ref a4, .ref a5, .ref a6, .ref a7, .int zz, .ref a9, .ref a10, .ref a11, .ref a12]))]) (w2 := fun (u1 : Nat → Nat → Int32) => [(h0, .inr (1, [.int (nI 0), .ref a1, .int by0, .int rd, .ref a4, .ref a5, .ref a6, .ref a7, .int zz, .ref a9, .ref a10, .ref a11, .ref a12]))]) (ci := 1) (q0 := 0) ⟨hx, hb, hml, hown, hts⟩ (c_X1_good0 l D cI _ h0 a1 a4 a5 a6 a7 a9 a10 a11 a12 th by0 rd zz) (cwV 2 hts gX1_size_X1_good rfl rfl rfl (by decide +kernel) ⟨Nat.le_of_ble_eq_true rfl, Nat.le_of_ble_eq_true rfl⟩) (fun _ _ _ _ h => h) (fun _ _ _ _ => trivial) hK hP hD hS hA rfl rfl [0] [] rfl (by decide) rfl (by decide) (by decide) [0] (fun _ => rfl) (by decide) rfl hl.1 rfl (Nat.le_of_ble_eq_true rfl) dX1_size_9 ⟨Nat.zero_le _, Nat.zero_le _⟩ (fun zu1 u1 H locs hu1 hP hD hS => ?_)
  have hP : va_P D vwCl [(h0, .inr (1, [.int (nI 0), .ref a1, .int by0, .int rd, .ref a4, .ref a5, .ref a6, .ref a7, .int zz, .ref a9, .ref a10, .ref a11, .ref a12]))] H := hP
  have hD : va_D A [(h0, .inr (1, [.int (nI 0), .ref a1, .int by0, .int rd, .ref a4, .ref a5, .ref a6, .ref a7, .int zz, .ref a9, .ref a10, .ref a11, .ref a12]))] := hD
  refine wk_i (y := nI 1) hu1 ?_
  refine wk_eq0N (tgt := 25) hx hb (a := 1) (by decide) dX1_size_12 (by decide) (fun c12 => absurd c12 (by decide)) (fun c12 => ?_)
  refine lv_aload_n hx hb dX1_size_15 rfl (lv_at hl 0 rfl) ?_
  refine lv_iload_n hx hb dX1_size_16 rfl (lv_at hl 1 rfl) ?_
  refine va_put (D := D) (ci := 1) (v := .int (nI k)) (ty := .int) (C := RX1) (T := TX1) (N := 13) hx hb hts hinX1 tyX1 tyX1_ok nmX1 hown hK hP hD hS 0 rfl rfl 2 (by decide) (hts (.fieldLink RX1 63 "SlicedCipherModel" "bytes" "I") (by decide +kernel)) (fun _ h9 => h9) rfl (by decide +kernel) rfl rfl (Nat.le_of_ble_eq_true rfl) dX1_size_17 (fun H locs hP hD hS => ?_)
  have hP : va_P D vwCl [(h0, .inr (1, [.int (nI 0), .ref a1, .int (nI k), .int rd, .ref a4, .ref a5, .ref a6, .ref a7, .int zz, .ref a9, .ref a10, .ref a11, .ref a12]))] H := hP
  have hD : va_D A [(h0, .inr (1, [.int (nI 0), .ref a1, .int (nI k), .int rd, .ref a4, .ref a5, .ref a6, .ref a7, .int zz, .ref a9, .ref a10, .ref a11, .ref a12]))] := hD
  refine lv_aload_n hx hb dX1_size_20 rfl (lv_at hl 0 rfl) ?_
  refine lv_iconst (v := nI 0) hx hb dX1_size_21 (by decide) ?_
  refine va_put (D := D) (ci := 1) (v := .int (nI 0)) (ty := .boolean) (C := RX1) (T := TX1) (N := 13) hx hb hts hinX1 tyX1 tyX1_ok nmX1 hown hK hP hD hS 0 rfl rfl 3 (by decide) (hts (.fieldLink RX1 59 "SlicedCipherModel" "ready" "Z") (by decide +kernel)) (fun _ h9 => h9) rfl (by decide +kernel) rfl rfl (Nat.le_of_ble_eq_true rfl) dX1_size_22 (fun H locs hP hD hS => ?_)
  have hP : va_P D vwCl [(h0, .inr (1, [.int (nI 0), .ref a1, .int (nI k), .int (nI 0), .ref a4, .ref a5, .ref a6, .ref a7, .int zz, .ref a9, .ref a10, .ref a11, .ref a12]))] H := hP
  have hD : va_D A [(h0, .inr (1, [.int (nI 0), .ref a1, .int (nI k), .int (nI 0), .ref a4, .ref a5, .ref a6, .ref a7, .int zz, .ref a9, .ref a10, .ref a11, .ref a12]))] := hD
  exact W.vret hx hb hr (fun t ht hW => ⟨⟨(fun _ _ => 0), rfl, trivial, by rw [ht]; exact hP, va_K.moved hW.alike hK, hD⟩, hS.F ht⟩) hS.2.2 dX1_size_25
set_option maxHeartbeats 4000000 in
set_option maxRecDepth 100000 in
theorem c_X1_size0 (l : Launch) (D : va_G) (cI : ClassId) (sz : Nat) (h0 a1 a4 a5 a6 a7 a9 a10 a11 a12 : Nat) (th by0 rd zz : Int32) (i : Int32) (hbad : i < nI 0 ∨ (¬ i < nI 0 ∧ nI 32 < i)) : Met l yX1_size wsX1_size ({ frames := 1, cells := 0, slots := 0, locals := 22 }) (va_Pc [.ref h0, .int i] (fun U => PW D [(cI, .int)] [(h0, .inr (1, [.int th, .ref a1, .int by0, .int rd, .ref a4, .ref a5, .ref a6, .ref a7, .int zz, .ref a9, .ref a10, .ref a11, .ref a12]))] sz U ∧ True)) (va_Qv (fun _ : Nat → Nat → Int32 => True) (fun u => BW D [(cI, .int)] (va_A [(h0, .inr (1, [.int th, .ref a1, .int by0, .int rd, .ref a4, .ref a5, .ref a6, .ref a7, .int zz, .ref a9, .ref a10, .ref a11, .ref a12]))] sz) [(h0, .inr (1, [.int (nI 1), .ref a1, .int by0, .int rd, .ref a4, .ref a5, .ref a6, .ref a7, .int zz, .ref a9, .ref a10, .ref a11, .ref a12]))]) (va_A [(h0, .inr (1, [.int th, .ref a1, .int by0, .int rd, .ref a4, .ref a5, .ref a6, .ref a7, .int zz, .ref a9, .ref a10, .ref a11, .ref a12]))] sz)) 0 0 (va_A [(h0, .inr (1, [.int th, .ref a1, .int by0, .int rd, .ref a4, .ref a5, .ref a6, .ref a7, .int zz, .ref a9, .ref a10, .ref a11, .ref a12]))] sz) := by
  refine Met.ofW (cc := cX1_size) (maxL := 2) (ret := none) (by decide) rfl ?_
  intro p e s m args below meth c s₁ B hml hv
  obtain ⟨rfl, ⟨hsz, hP, hK, hD0⟩, -⟩ := hv
  have hx := B.exec
  have hb := B.bytes
  have hr := B.returns
  have hts := atoms_spec (ws := wsX1_size) B.pre
  have hown : s.vm.findClass RX1 = some m.cls := findClass_of_methodNamed B.named
  have hlocks := B.notSynchronized
  subst hsz
  have hD := hD0.self (sz := s.heap.size)
  have hinX1 := in_X1_size
  generalize hAe : va_A [(h0, .inr (1, [.int th, .ref a1, .int by0, .int rd, .ref a4, .ref a5, .ref a6, .ref a7, .int zz, .ref a9, .ref a10, .ref a11, .ref a12]))] s.heap.size = A at hD ⊢
  have hA : ∀ q : Nat, s.heap.size ≤ q → A q := fun q h => by rw [← hAe]; exact Or.inr h
  have hS : va_S A s.heap s.heap [] := va_S.rf
  have hl := lv_entry ([.ref h0, .int i]) (n := 2) (Nat.le_of_ble_eq_true rfl)
  rw [lg_entry_eq]
  generalize (lg_sl ([.ref h0, .int i]) ++ List.replicate (2 - (lg_sl ([.ref h0, .int i])).length) Slot.unset).toArray = ls at hl ⊢
  have hl : lv_has ls 2 [(0, .ref h0), (1, .int i)] := hl
  refine lv_aload_n hx hb dX1_size_0 rfl (lv_at hl 0 rfl) ?_
  refine lv_iload_n hx hb dX1_size_1 rfl (lv_at hl 1 rfl) ?_
  refine lv_iconst (v := nI 0) hx hb dX1_size_2 (by decide) ?_
  refine lv_bipush (v := nI 32) hx hb dX1_size_3 (by decide) ?_
  refine wk_Sp (v := nI 0) (As := [.int i, .int (nI 0), .int (nI 32)]) (rest := [.ref h0]) ⟨hx, hb, hml, hown, hts⟩ (c_X1_isIn0 l i (nI 0) (nI 32) (hbad)) (va_cwS 3 hts gX1_size_X1_isIn rfl rfl rfl (by decide +kernel) ⟨Nat.le_of_ble_eq_true rfl, Nat.le_of_ble_eq_true rfl⟩) rfl hl.1 rfl (Nat.le_of_ble_eq_true rfl) dX1_size_5 ⟨Nat.zero_le _, Nat.zero_le _⟩ ?_
  refine lv_iconst (v := nI 1) hx hb dX1_size_8 (by decide) ?_
  refine wk_VI (b := h0) (As := [.int (nI 0), .int (nI 1)]) (rest := []) (wc := [(h0, .inr (1, [.int th, .ref a1, .int by0, .int rd, .ref a4, .ref a5, .ref a6, .ref a7, .int zz, .ref a9, .ref a10, .ref a11, .ref a12]))]) (wr := []) (w1 := fun (u1 : Nat → Nat → Int32) => [(h0, .inr (1, [.int (nI 1), .ref a1, .int by0, .int rd, .ref a4, .ref a5, .ref a6, .ref a7, .int zz, .ref a9, .ref a10, .ref a11, .ref a12]))]) (w2 := fun (u1 : Nat → Nat → Int32) => [(h0, .inr (1, [.int (nI 1), .ref a1, .int by0, .int rd, .ref a4, .ref a5, .ref a6, .ref a7, .int zz, .ref a9, .ref a10, .ref a11, .ref a12]))]) (ci := 1) (q0 := 0) ⟨hx, hb, hml, hown, hts⟩ (c_X1_good1 l D cI _ h0 a1 a4 a5 a6 a7 a9 a10 a11 a12 th by0 rd zz (nI 1)) (cwV 2 hts gX1_size_X1_good rfl rfl rfl (by decide +kernel) ⟨Nat.le_of_ble_eq_true rfl, Nat.le_of_ble_eq_true rfl⟩) (fun _ _ _ _ h => h) (fun _ _ _ _ => trivial) hK hP hD hS hA rfl rfl [0] [] rfl (by decide) rfl (by decide) (by decide) [0] (fun _ => rfl) (by decide) rfl hl.1 rfl (Nat.le_of_ble_eq_true rfl) dX1_size_9 ⟨Nat.zero_le _, Nat.zero_le _⟩ (fun zu1 u1 H locs hu1 hP hD hS => ?_)
  have hP : va_P D vwCl [(h0, .inr (1, [.int (nI 1), .ref a1, .int by0, .int rd, .ref a4, .ref a5, .ref a6, .ref a7, .int zz, .ref a9, .ref a10, .ref a11, .ref a12]))] H := hP
  have hD : va_D A [(h0, .inr (1, [.int (nI 1), .ref a1, .int by0, .int rd, .ref a4, .ref a5, .ref a6, .ref a7, .int zz, .ref a9, .ref a10, .ref a11, .ref a12]))] := hD
  refine wk_i (y := nI 0) hu1 ?_
  refine wk_eq0N (tgt := 25) hx hb (a := 0) (by decide) dX1_size_12 (by decide) (fun c12 => ?_) (fun c12 => absurd c12 (fun h => h rfl))
  exact W.vret hx hb hr (fun t ht hW => ⟨⟨(fun _ _ => 0), rfl, trivial, by rw [ht]; exact hP, va_K.moved hW.alike hK, hD⟩, hS.F ht⟩) hS.2.2 dX1_size_25
set_option maxRecDepth 100000 in
theorem in_X1_round : ∀ w ∈ wsX10, w ∈ wsX1_round := by decide +kernel
set_option maxHeartbeats 4000000 in
set_option maxRecDepth 100000 in
theorem c_X1_round1 (l : Launch) (D : va_G) (cI : ClassId) (sz : Nat) (h0 a1 a4 a5 a6 a7 a9 a10 a11 a12 : Nat) (th by0 zz : Int32) (r j : Nat) (Rn : Nat → Int32) (hr : r ≤ 32) (hj : j ≤ 3) : Met l yX1_round wsX1_round ({ frames := 1, cells := 0, slots := 0, locals := 22 }) (va_Pc [.ref h0, .int (nI r), .int (nI j)] (fun U => PW D [(cI, .int)] [(h0, .inr (1, [.int th, .ref a1, .int by0, .int (nI 1), .ref a4, .ref a5, .ref a6, .ref a7, .int zz, .ref a9, .ref a10, .ref a11, .ref a12])), (a5, .inl (cI, 132, .inl Rn))] sz U ∧ True)) (va_Qi (fun r9 (u : Nat → Nat → Int32) => r9 = Rn (4 * r + j)) (fun u => BW D [(cI, .int)] (va_A [(h0, .inr (1, [.int th, .ref a1, .int by0, .int (nI 1), .ref a4, .ref a5, .ref a6, .ref a7, .int zz, .ref a9, .ref a10, .ref a11, .ref a12])), (a5, .inl (cI, 132, .inl Rn))] sz) [(h0, .inr (1, [.int (nI 0), .ref a1, .int by0, .int (nI 1), .ref a4, .ref a5, .ref a6, .ref a7, .int zz, .ref a9, .ref a10, .ref a11, .ref a12])), (a5, .inl (cI, 132, .inl Rn))]) (va_A [(h0, .inr (1, [.int th, .ref a1, .int by0, .int (nI 1), .ref a4, .ref a5, .ref a6, .ref a7, .int zz, .ref a9, .ref a10, .ref a11, .ref a12])), (a5, .inl (cI, 132, .inl Rn))] sz)) 0 0 (va_A [(h0, .inr (1, [.int th, .ref a1, .int by0, .int (nI 1), .ref a4, .ref a5, .ref a6, .ref a7, .int zz, .ref a9, .ref a10, .ref a11, .ref a12])), (a5, .inl (cI, 132, .inl Rn))] sz) := by
  refine Met.ofW (cc := cX1_round) (maxL := 3) (ret := (some .int)) (by decide) rfl ?_
  intro p e s m args below meth c s₁ B hml hv
  obtain ⟨rfl, ⟨hsz, hP, hK, hD0⟩, -⟩ := hv
  have hx := B.exec
  have hb := B.bytes
  have hr := B.returns
  have hts := atoms_spec (ws := wsX1_round) B.pre
  have hown : s.vm.findClass RX1 = some m.cls := findClass_of_methodNamed B.named
  have hlocks := B.notSynchronized
  subst hsz
  have hD := hD0.self (sz := s.heap.size)
  have hinX1 := in_X1_round
  generalize hAe : va_A [(h0, .inr (1, [.int th, .ref a1, .int by0, .int (nI 1), .ref a4, .ref a5, .ref a6, .ref a7, .int zz, .ref a9, .ref a10, .ref a11, .ref a12])), (a5, .inl (cI, 132, .inl Rn))] s.heap.size = A at hD ⊢
  have hA : ∀ q : Nat, s.heap.size ≤ q → A q := fun q h => by rw [← hAe]; exact Or.inr h
  have hS : va_S A s.heap s.heap [] := va_S.rf
  have hl := lv_entry ([.ref h0, .int (nI r), .int (nI j)]) (n := 3) (Nat.le_of_ble_eq_true rfl)
  rw [lg_entry_eq]
  generalize (lg_sl ([.ref h0, .int (nI r), .int (nI j)]) ++ List.replicate (3 - (lg_sl ([.ref h0, .int (nI r), .int (nI j)])).length) Slot.unset).toArray = ls at hl ⊢
  have hl : lv_has ls 3 [(0, .ref h0), (1, .int (nI r)), (2, .int (nI j))] := hl
  refine lv_aload_n hx hb dX1_round_0 rfl (lv_at hl 0 rfl) ?_
  refine lv_iload_n hx hb dX1_round_1 rfl (lv_at hl 1 rfl) ?_
  refine lv_iconst (v := nI 0) hx hb dX1_round_2 (by decide) ?_
  refine lv_bipush (v := nI 32) hx hb dX1_round_3 (by decide) ?_
  refine wk_Sp (v := nI 1) (As := [.int (nI r), .int (nI 0), .int (nI 32)]) (rest := [.ref h0]) ⟨hx, hb, hml, hown, hts⟩ (c_X1_isIn1 l (nI r) (nI 0) (nI 32) (nI_pos (by omega)) (nI_nlt (by omega) (by omega))) (va_cwS 3 hts gX1_round_X1_isIn rfl rfl rfl (by decide +kernel) ⟨Nat.le_of_ble_eq_true rfl, Nat.le_of_ble_eq_true rfl⟩) rfl hl.1 rfl (Nat.le_of_ble_eq_true rfl) dX1_round_5 ⟨Nat.zero_le _, Nat.zero_le _⟩ ?_
  refine wk_eq0N (tgt := 24) hx hb (a := 1) (by decide) dX1_round_8 (by decide) (fun c8 => absurd c8 (by decide)) (fun c8 => ?_)
  refine lv_iload_n hx hb dX1_round_11 rfl (lv_at hl 2 rfl) ?_
  refine lv_iconst (v := nI 0) hx hb dX1_round_12 (by decide) ?_
  refine lv_iconst (v := nI 3) hx hb dX1_round_13 (by decide) ?_
  refine wk_Sp (v := nI 1) (As := [.int (nI j), .int (nI 0), .int (nI 3)]) (rest := [.ref h0]) ⟨hx, hb, hml, hown, hts⟩ (c_X1_isIn1 l (nI j) (nI 0) (nI 3) (nI_pos (by omega)) (nI_nlt (by omega) (by omega))) (va_cwS 3 hts gX1_round_X1_isIn rfl rfl rfl (by decide +kernel) ⟨Nat.le_of_ble_eq_true rfl, Nat.le_of_ble_eq_true rfl⟩) rfl hl.1 rfl (Nat.le_of_ble_eq_true rfl) dX1_round_14 ⟨Nat.zero_le _, Nat.zero_le _⟩ ?_
  refine wk_eq0N (tgt := 24) hx hb (a := 1) (by decide) dX1_round_17 (by decide) (fun c17 => absurd c17 (by decide)) (fun c17 => ?_)
  refine lv_iconst (v := nI 1) hx hb dX1_round_20 (by decide) ?_
  refine lv_goto (tgt := 25) hx hb dX1_round_21 (by decide) ?_
  refine lv_aload_n hx hb dX1_round_25 rfl (lv_at hl 0 rfl) ?_
  refine va_get (D := D) (ci := 1) (v := .int (nI 1)) (C := RX1) (T := TX1) (N := 13) hx hb hts hinX1 hown hK hP 0 rfl rfl 3 (by decide) (hts (.fieldLink RX1 59 "SlicedCipherModel" "ready" "Z") (by decide +kernel)) (fun _ h9 => h9) rfl dX1_round_26 ?_
  refine wk_VI (b := h0) (As := [.int (nI 1), .int (nI 1)]) (rest := []) (wc := [(h0, .inr (1, [.int th, .ref a1, .int by0, .int (nI 1), .ref a4, .ref a5, .ref a6, .ref a7, .int zz, .ref a9, .ref a10, .ref a11, .ref a12]))]) (wr := [(a5, .inl (cI, 132, .inl Rn))]) (w1 := fun (u1 : Nat → Nat → Int32) => [(h0, .inr (1, [.int (nI 0), .ref a1, .int by0, .int (nI 1), .ref a4, .ref a5, .ref a6, .ref a7, .int zz, .ref a9, .ref a10, .ref a11, .ref a12]))]) (w2 := fun (u1 : Nat → Nat → Int32) => [(h0, .inr (1, [.int (nI 0), .ref a1, .int by0, .int (nI 1), .ref a4, .ref a5, .ref a6, .ref a7, .int zz, .ref a9, .ref a10, .ref a11, .ref a12])), (a5, .inl (cI, 132, .inl Rn))]) (ci := 1) (q0 := 0) ⟨hx, hb, hml, hown, hts⟩ (c_X1_good0 l D cI _ h0 a1 a4 a5 a6 a7 a9 a10 a11 a12 th by0 (nI 1) zz) (cwV 2 hts gX1_round_X1_good rfl rfl rfl (by decide +kernel) ⟨Nat.le_of_ble_eq_true rfl, Nat.le_of_ble_eq_true rfl⟩) (fun _ _ _ _ h => h) (fun _ _ _ _ => trivial) hK hP hD hS hA rfl rfl [0] [1] rfl (by decide) rfl (by decide) (by decide) [1, 0] (fun _ => rfl) (by decide) rfl hl.1 rfl (Nat.le_of_ble_eq_true rfl) dX1_round_29 ⟨Nat.zero_le _, Nat.zero_le _⟩ (fun zu1 u1 H locs hu1 hP hD hS => ?_)
  have hP : va_P D vwCl [(h0, .inr (1, [.int (nI 0), .ref a1, .int by0, .int (nI 1), .ref a4, .ref a5, .ref a6, .ref a7, .int zz, .ref a9, .ref a10, .ref a11, .ref a12])), (a5, .inl (cI, 132, .inl Rn))] H := hP
  have hD : va_D A [(h0, .inr (1, [.int (nI 0), .ref a1, .int by0, .int (nI 1), .ref a4, .ref a5, .ref a6, .ref a7, .int zz, .ref a9, .ref a10, .ref a11, .ref a12])), (a5, .inl (cI, 132, .inl Rn))] := hD
  refine wk_i (y := nI 1) hu1 ?_
  refine wk_eq0N (tgt := 48) hx hb (a := 1) (by decide) dX1_round_32 (by decide) (fun c32 => absurd c32 (by decide)) (fun c32 => ?_)
  refine lv_aload_n hx hb dX1_round_35 rfl (lv_at hl 0 rfl) ?_
  refine va_get (D := D) (ci := 1) (v := .ref a5) (C := RX1) (T := TX1) (N := 13) hx hb hts hinX1 hown hK hP 0 rfl rfl 5 (by decide) (hts (.fieldLink RX1 16 "SlicedCipherModel" "rounds" "[I") (by decide +kernel)) (fun _ h9 => h9) rfl dX1_round_36 ?_
  refine lv_iconst (v := nI 4) hx hb dX1_round_39 (by decide) ?_
  refine lv_iload_n hx hb dX1_round_40 rfl (lv_at hl 1 rfl) ?_
  refine wk_imulN hx hb (a := 4) (b := r) dX1_round_41 ?_
  refine lv_iload_n hx hb dX1_round_42 rfl (lv_at hl 2 rfl) ?_
  refine wk_iaddN hx hb (a := 4 * r) (b := j) dX1_round_43 ?_
  refine wk_iald hx hb hK hP 1 0 rfl rfl (k := (4 * r) + j) (by omega) (by decide) dX1_round_44 ?_
  refine lv_goto (tgt := 49) hx hb dX1_round_45 (by decide) ?_
  exact W.iret (v := Rn ((4 * r) + j)) hx hb hr (fun t ht hW => ⟨⟨_, (fun _ _ => 0), rfl, rfl, by rw [ht]; exact hP, va_K.moved hW.alike hK, hD⟩, hS.F ht⟩) hS.2.2 dX1_round_49
set_option maxHeartbeats 4000000 in
set_option maxRecDepth 100000 in
theorem c_X1_round0a (l : Launch) (D : va_G) (cI : ClassId) (sz : Nat) (h0 a1 a4 a5 a6 a7 a9 a10 a11 a12 : Nat) (th by0 rd zz : Int32) (i j : Int32) (hbad : i < nI 0 ∨ (¬ i < nI 0 ∧ nI 32 < i)) : Met l yX1_round wsX1_round ({ frames := 1, cells := 0, slots := 0, locals := 22 }) (va_Pc [.ref h0, .int i, .int j] (fun U => PW D [(cI, .int)] [(h0, .inr (1, [.int th, .ref a1, .int by0, .int rd, .ref a4, .ref a5, .ref a6, .ref a7, .int zz, .ref a9, .ref a10, .ref a11, .ref a12]))] sz U ∧ True)) (va_Qi (fun r9 (u : Nat → Nat → Int32) => r9 = nI 0) (fun u => BW D [(cI, .int)] (va_A [(h0, .inr (1, [.int th, .ref a1, .int by0, .int rd, .ref a4, .ref a5, .ref a6, .ref a7, .int zz, .ref a9, .ref a10, .ref a11, .ref a12]))] sz) [(h0, .inr (1, [.int (nI 1), .ref a1, .int by0, .int rd, .ref a4, .ref a5, .ref a6, .ref a7, .int zz, .ref a9, .ref a10, .ref a11, .ref a12]))]) (va_A [(h0, .inr (1, [.int th, .ref a1, .int by0, .int rd, .ref a4, .ref a5, .ref a6, .ref a7, .int zz, .ref a9, .ref a10, .ref a11, .ref a12]))] sz)) 0 0 (va_A [(h0, .inr (1, [.int th, .ref a1, .int by0, .int rd, .ref a4, .ref a5, .ref a6, .ref a7, .int zz, .ref a9, .ref a10, .ref a11, .ref a12]))] sz) := by
  refine Met.ofW (cc := cX1_round) (maxL := 3) (ret := (some .int)) (by decide) rfl ?_
  intro p e s m args below meth c s₁ B hml hv
  obtain ⟨rfl, ⟨hsz, hP, hK, hD0⟩, -⟩ := hv
  have hx := B.exec
  have hb := B.bytes
  have hr := B.returns
  have hts := atoms_spec (ws := wsX1_round) B.pre
  have hown : s.vm.findClass RX1 = some m.cls := findClass_of_methodNamed B.named
  have hlocks := B.notSynchronized
  subst hsz
  have hD := hD0.self (sz := s.heap.size)
  have hinX1 := in_X1_round
  generalize hAe : va_A [(h0, .inr (1, [.int th, .ref a1, .int by0, .int rd, .ref a4, .ref a5, .ref a6, .ref a7, .int zz, .ref a9, .ref a10, .ref a11, .ref a12]))] s.heap.size = A at hD ⊢
  have hA : ∀ q : Nat, s.heap.size ≤ q → A q := fun q h => by rw [← hAe]; exact Or.inr h
  have hS : va_S A s.heap s.heap [] := va_S.rf
  have hl := lv_entry ([.ref h0, .int i, .int j]) (n := 3) (Nat.le_of_ble_eq_true rfl)
  rw [lg_entry_eq]
  generalize (lg_sl ([.ref h0, .int i, .int j]) ++ List.replicate (3 - (lg_sl ([.ref h0, .int i, .int j])).length) Slot.unset).toArray = ls at hl ⊢
  have hl : lv_has ls 3 [(0, .ref h0), (1, .int i), (2, .int j)] := hl
  refine lv_aload_n hx hb dX1_round_0 rfl (lv_at hl 0 rfl) ?_
  refine lv_iload_n hx hb dX1_round_1 rfl (lv_at hl 1 rfl) ?_
  refine lv_iconst (v := nI 0) hx hb dX1_round_2 (by decide) ?_
  refine lv_bipush (v := nI 32) hx hb dX1_round_3 (by decide) ?_
  refine wk_Sp (v := nI 0) (As := [.int i, .int (nI 0), .int (nI 32)]) (rest := [.ref h0]) ⟨hx, hb, hml, hown, hts⟩ (c_X1_isIn0 l i (nI 0) (nI 32) (hbad)) (va_cwS 3 hts gX1_round_X1_isIn rfl rfl rfl (by decide +kernel) ⟨Nat.le_of_ble_eq_true rfl, Nat.le_of_ble_eq_true rfl⟩) rfl hl.1 rfl (Nat.le_of_ble_eq_true rfl) dX1_round_5 ⟨Nat.zero_le _, Nat.zero_le _⟩ ?_
  refine wk_eq0N (tgt := 24) hx hb (a := 0) (by decide) dX1_round_8 (by decide) (fun c8 => ?_) (fun c8 => absurd c8 (fun h => h rfl))
  refine lv_iconst (v := nI 0) hx hb dX1_round_24 (by decide) ?_
  refine lv_aload_n hx hb dX1_round_25 rfl (lv_at hl 0 rfl) ?_
  refine va_get (D := D) (ci := 1) (v := .int rd) (C := RX1) (T := TX1) (N := 13) hx hb hts hinX1 hown hK hP 0 rfl rfl 3 (by decide) (hts (.fieldLink RX1 59 "SlicedCipherModel" "ready" "Z") (by decide +kernel)) (fun _ h9 => h9) rfl dX1_round_26 ?_
  refine wk_VI (b := h0) (As := [.int (nI 0), .int rd]) (rest := []) (wc := [(h0, .inr (1, [.int th, .ref a1, .int by0, .int rd, .ref a4, .ref a5, .ref a6, .ref a7, .int zz, .ref a9, .ref a10, .ref a11, .ref a12]))]) (wr := []) (w1 := fun (u1 : Nat → Nat → Int32) => [(h0, .inr (1, [.int (nI 1), .ref a1, .int by0, .int rd, .ref a4, .ref a5, .ref a6, .ref a7, .int zz, .ref a9, .ref a10, .ref a11, .ref a12]))]) (w2 := fun (u1 : Nat → Nat → Int32) => [(h0, .inr (1, [.int (nI 1), .ref a1, .int by0, .int rd, .ref a4, .ref a5, .ref a6, .ref a7, .int zz, .ref a9, .ref a10, .ref a11, .ref a12]))]) (ci := 1) (q0 := 0) ⟨hx, hb, hml, hown, hts⟩ (c_X1_good1 l D cI _ h0 a1 a4 a5 a6 a7 a9 a10 a11 a12 th by0 rd zz rd) (cwV 2 hts gX1_round_X1_good rfl rfl rfl (by decide +kernel) ⟨Nat.le_of_ble_eq_true rfl, Nat.le_of_ble_eq_true rfl⟩) (fun _ _ _ _ h => h) (fun _ _ _ _ => trivial) hK hP hD hS hA rfl rfl [0] [] rfl (by decide) rfl (by decide) (by decide) [0] (fun _ => rfl) (by decide) rfl hl.1 rfl (Nat.le_of_ble_eq_true rfl) dX1_round_29 ⟨Nat.zero_le _, Nat.zero_le _⟩ (fun zu1 u1 H locs hu1 hP hD hS => ?_)
  have hP : va_P D vwCl [(h0, .inr (1, [.int (nI 1), .ref a1, .int by0, .int rd, .ref a4, .ref a5, .ref a6, .ref a7, .int zz, .ref a9, .ref a10, .ref a11, .ref a12]))] H := hP
  have hD : va_D A [(h0, .inr (1, [.int (nI 1), .ref a1, .int by0, .int rd, .ref a4, .ref a5, .ref a6, .ref a7, .int zz, .ref a9, .ref a10, .ref a11, .ref a12]))] := hD
  refine wk_i (y := nI 0) hu1 ?_
  refine wk_eq0N (tgt := 48) hx hb (a := 0) (by decide) dX1_round_32 (by decide) (fun c32 => ?_) (fun c32 => absurd c32 (fun h => h rfl))
  refine lv_iconst (v := nI 0) hx hb dX1_round_48 (by decide) ?_
  exact W.iret (v := nI 0) hx hb hr (fun t ht hW => ⟨⟨_, (fun _ _ => 0), rfl, rfl, by rw [ht]; exact hP, va_K.moved hW.alike hK, hD⟩, hS.F ht⟩) hS.2.2 dX1_round_49
set_option maxHeartbeats 4000000 in
set_option maxRecDepth 100000 in
theorem c_X1_round0b (l : Launch) (D : va_G) (cI : ClassId) (sz : Nat) (h0 a1 a4 a5 a6 a7 a9 a10 a11 a12 : Nat) (th by0 rd zz : Int32) (r : Nat) (j : Int32) (hr : r ≤ 32) (hbad : j < nI 0 ∨ (¬ j < nI 0 ∧ nI 3 < j)) : Met l yX1_round wsX1_round ({ frames := 1, cells := 0, slots := 0, locals := 22 }) (va_Pc [.ref h0, .int (nI r), .int j] (fun U => PW D [(cI, .int)] [(h0, .inr (1, [.int th, .ref a1, .int by0, .int rd, .ref a4, .ref a5, .ref a6, .ref a7, .int zz, .ref a9, .ref a10, .ref a11, .ref a12]))] sz U ∧ True)) (va_Qi (fun r9 (u : Nat → Nat → Int32) => r9 = nI 0) (fun u => BW D [(cI, .int)] (va_A [(h0, .inr (1, [.int th, .ref a1, .int by0, .int rd, .ref a4, .ref a5, .ref a6, .ref a7, .int zz, .ref a9, .ref a10, .ref a11, .ref a12]))] sz) [(h0, .inr (1, [.int (nI 1), .ref a1, .int by0, .int rd, .ref a4, .ref a5, .ref a6, .ref a7, .int zz, .ref a9, .ref a10, .ref a11, .ref a12]))]) (va_A [(h0, .inr (1, [.int th, .ref a1, .int by0, .int rd, .ref a4, .ref a5, .ref a6, .ref a7, .int zz, .ref a9, .ref a10, .ref a11, .ref a12]))] sz)) 0 0 (va_A [(h0, .inr (1, [.int th, .ref a1, .int by0, .int rd, .ref a4, .ref a5, .ref a6, .ref a7, .int zz, .ref a9, .ref a10, .ref a11, .ref a12]))] sz) := by
  refine Met.ofW (cc := cX1_round) (maxL := 3) (ret := (some .int)) (by decide) rfl ?_
  intro p e s m args below meth c s₁ B hml hv
  obtain ⟨rfl, ⟨hsz, hP, hK, hD0⟩, -⟩ := hv
  have hx := B.exec
  have hb := B.bytes
  have hr := B.returns
  have hts := atoms_spec (ws := wsX1_round) B.pre
  have hown : s.vm.findClass RX1 = some m.cls := findClass_of_methodNamed B.named
  have hlocks := B.notSynchronized
  subst hsz
  have hD := hD0.self (sz := s.heap.size)
  have hinX1 := in_X1_round
  generalize hAe : va_A [(h0, .inr (1, [.int th, .ref a1, .int by0, .int rd, .ref a4, .ref a5, .ref a6, .ref a7, .int zz, .ref a9, .ref a10, .ref a11, .ref a12]))] s.heap.size = A at hD ⊢
  have hA : ∀ q : Nat, s.heap.size ≤ q → A q := fun q h => by rw [← hAe]; exact Or.inr h
  have hS : va_S A s.heap s.heap [] := va_S.rf
  have hl := lv_entry ([.ref h0, .int (nI r), .int j]) (n := 3) (Nat.le_of_ble_eq_true rfl)
  rw [lg_entry_eq]
  generalize (lg_sl ([.ref h0, .int (nI r), .int j]) ++ List.replicate (3 - (lg_sl ([.ref h0, .int (nI r), .int j])).length) Slot.unset).toArray = ls at hl ⊢
  have hl : lv_has ls 3 [(0, .ref h0), (1, .int (nI r)), (2, .int j)] := hl
  refine lv_aload_n hx hb dX1_round_0 rfl (lv_at hl 0 rfl) ?_
  refine lv_iload_n hx hb dX1_round_1 rfl (lv_at hl 1 rfl) ?_
  refine lv_iconst (v := nI 0) hx hb dX1_round_2 (by decide) ?_
  refine lv_bipush (v := nI 32) hx hb dX1_round_3 (by decide) ?_
  refine wk_Sp (v := nI 1) (As := [.int (nI r), .int (nI 0), .int (nI 32)]) (rest := [.ref h0]) ⟨hx, hb, hml, hown, hts⟩ (c_X1_isIn1 l (nI r) (nI 0) (nI 32) (nI_pos (by omega)) (nI_nlt (by omega) (by omega))) (va_cwS 3 hts gX1_round_X1_isIn rfl rfl rfl (by decide +kernel) ⟨Nat.le_of_ble_eq_true rfl, Nat.le_of_ble_eq_true rfl⟩) rfl hl.1 rfl (Nat.le_of_ble_eq_true rfl) dX1_round_5 ⟨Nat.zero_le _, Nat.zero_le _⟩ ?_
  refine wk_eq0N (tgt := 24) hx hb (a := 1) (by decide) dX1_round_8 (by decide) (fun c8 => absurd c8 (by decide)) (fun c8 => ?_)
  refine lv_iload_n hx hb dX1_round_11 rfl (lv_at hl 2 rfl) ?_
  refine lv_iconst (v := nI 0) hx hb dX1_round_12 (by decide) ?_
  refine lv_iconst (v := nI 3) hx hb dX1_round_13 (by decide) ?_
  refine wk_Sp (v := nI 0) (As := [.int j, .int (nI 0), .int (nI 3)]) (rest := [.ref h0]) ⟨hx, hb, hml, hown, hts⟩ (c_X1_isIn0 l j (nI 0) (nI 3) (hbad)) (va_cwS 3 hts gX1_round_X1_isIn rfl rfl rfl (by decide +kernel) ⟨Nat.le_of_ble_eq_true rfl, Nat.le_of_ble_eq_true rfl⟩) rfl hl.1 rfl (Nat.le_of_ble_eq_true rfl) dX1_round_14 ⟨Nat.zero_le _, Nat.zero_le _⟩ ?_
  refine wk_eq0N (tgt := 24) hx hb (a := 0) (by decide) dX1_round_17 (by decide) (fun c17 => ?_) (fun c17 => absurd c17 (fun h => h rfl))
  refine lv_iconst (v := nI 0) hx hb dX1_round_24 (by decide) ?_
  refine lv_aload_n hx hb dX1_round_25 rfl (lv_at hl 0 rfl) ?_
  refine va_get (D := D) (ci := 1) (v := .int rd) (C := RX1) (T := TX1) (N := 13) hx hb hts hinX1 hown hK hP 0 rfl rfl 3 (by decide) (hts (.fieldLink RX1 59 "SlicedCipherModel" "ready" "Z") (by decide +kernel)) (fun _ h9 => h9) rfl dX1_round_26 ?_
  refine wk_VI (b := h0) (As := [.int (nI 0), .int rd]) (rest := []) (wc := [(h0, .inr (1, [.int th, .ref a1, .int by0, .int rd, .ref a4, .ref a5, .ref a6, .ref a7, .int zz, .ref a9, .ref a10, .ref a11, .ref a12]))]) (wr := []) (w1 := fun (u1 : Nat → Nat → Int32) => [(h0, .inr (1, [.int (nI 1), .ref a1, .int by0, .int rd, .ref a4, .ref a5, .ref a6, .ref a7, .int zz, .ref a9, .ref a10, .ref a11, .ref a12]))]) (w2 := fun (u1 : Nat → Nat → Int32) => [(h0, .inr (1, [.int (nI 1), .ref a1, .int by0, .int rd, .ref a4, .ref a5, .ref a6, .ref a7, .int zz, .ref a9, .ref a10, .ref a11, .ref a12]))]) (ci := 1) (q0 := 0) ⟨hx, hb, hml, hown, hts⟩ (c_X1_good1 l D cI _ h0 a1 a4 a5 a6 a7 a9 a10 a11 a12 th by0 rd zz rd) (cwV 2 hts gX1_round_X1_good rfl rfl rfl (by decide +kernel) ⟨Nat.le_of_ble_eq_true rfl, Nat.le_of_ble_eq_true rfl⟩) (fun _ _ _ _ h => h) (fun _ _ _ _ => trivial) hK hP hD hS hA rfl rfl [0] [] rfl (by decide) rfl (by decide) (by decide) [0] (fun _ => rfl) (by decide) rfl hl.1 rfl (Nat.le_of_ble_eq_true rfl) dX1_round_29 ⟨Nat.zero_le _, Nat.zero_le _⟩ (fun zu1 u1 H locs hu1 hP hD hS => ?_)
  have hP : va_P D vwCl [(h0, .inr (1, [.int (nI 1), .ref a1, .int by0, .int rd, .ref a4, .ref a5, .ref a6, .ref a7, .int zz, .ref a9, .ref a10, .ref a11, .ref a12]))] H := hP
  have hD : va_D A [(h0, .inr (1, [.int (nI 1), .ref a1, .int by0, .int rd, .ref a4, .ref a5, .ref a6, .ref a7, .int zz, .ref a9, .ref a10, .ref a11, .ref a12]))] := hD
  refine wk_i (y := nI 0) hu1 ?_
  refine wk_eq0N (tgt := 48) hx hb (a := 0) (by decide) dX1_round_32 (by decide) (fun c32 => ?_) (fun c32 => absurd c32 (fun h => h rfl))
  refine lv_iconst (v := nI 0) hx hb dX1_round_48 (by decide) ?_
  exact W.iret (v := nI 0) hx hb hr (fun t ht hW => ⟨⟨_, (fun _ _ => 0), rfl, rfl, by rw [ht]; exact hP, va_K.moved hW.alike hK, hD⟩, hS.F ht⟩) hS.2.2 dX1_round_49
set_option maxHeartbeats 4000000 in
set_option maxRecDepth 100000 in
theorem c_X1_round2 (l : Launch) (D : va_G) (cI : ClassId) (sz : Nat) (h0 a1 a4 a5 a6 a7 a9 a10 a11 a12 : Nat) (th by0 zz : Int32) (r j : Nat) (hr : r ≤ 32) (hj : j ≤ 3) : Met l yX1_round wsX1_round ({ frames := 1, cells := 0, slots := 0, locals := 22 }) (va_Pc [.ref h0, .int (nI r), .int (nI j)] (fun U => PW D [(cI, .int)] [(h0, .inr (1, [.int th, .ref a1, .int by0, .int (nI 0), .ref a4, .ref a5, .ref a6, .ref a7, .int zz, .ref a9, .ref a10, .ref a11, .ref a12]))] sz U ∧ True)) (va_Qi (fun r9 (u : Nat → Nat → Int32) => r9 = nI 0) (fun u => BW D [(cI, .int)] (va_A [(h0, .inr (1, [.int th, .ref a1, .int by0, .int (nI 0), .ref a4, .ref a5, .ref a6, .ref a7, .int zz, .ref a9, .ref a10, .ref a11, .ref a12]))] sz) [(h0, .inr (1, [.int (nI 2), .ref a1, .int by0, .int (nI 0), .ref a4, .ref a5, .ref a6, .ref a7, .int zz, .ref a9, .ref a10, .ref a11, .ref a12]))]) (va_A [(h0, .inr (1, [.int th, .ref a1, .int by0, .int (nI 0), .ref a4, .ref a5, .ref a6, .ref a7, .int zz, .ref a9, .ref a10, .ref a11, .ref a12]))] sz)) 0 0 (va_A [(h0, .inr (1, [.int th, .ref a1, .int by0, .int (nI 0), .ref a4, .ref a5, .ref a6, .ref a7, .int zz, .ref a9, .ref a10, .ref a11, .ref a12]))] sz) := by
  refine Met.ofW (cc := cX1_round) (maxL := 3) (ret := (some .int)) (by decide) rfl ?_
  intro p e s m args below meth c s₁ B hml hv
  obtain ⟨rfl, ⟨hsz, hP, hK, hD0⟩, -⟩ := hv
  have hx := B.exec
  have hb := B.bytes
  have hr := B.returns
  have hts := atoms_spec (ws := wsX1_round) B.pre
  have hown : s.vm.findClass RX1 = some m.cls := findClass_of_methodNamed B.named
  have hlocks := B.notSynchronized
  subst hsz
  have hD := hD0.self (sz := s.heap.size)
  have hinX1 := in_X1_round
  generalize hAe : va_A [(h0, .inr (1, [.int th, .ref a1, .int by0, .int (nI 0), .ref a4, .ref a5, .ref a6, .ref a7, .int zz, .ref a9, .ref a10, .ref a11, .ref a12]))] s.heap.size = A at hD ⊢
  have hA : ∀ q : Nat, s.heap.size ≤ q → A q := fun q h => by rw [← hAe]; exact Or.inr h
  have hS : va_S A s.heap s.heap [] := va_S.rf
  have hl := lv_entry ([.ref h0, .int (nI r), .int (nI j)]) (n := 3) (Nat.le_of_ble_eq_true rfl)
  rw [lg_entry_eq]
  generalize (lg_sl ([.ref h0, .int (nI r), .int (nI j)]) ++ List.replicate (3 - (lg_sl ([.ref h0, .int (nI r), .int (nI j)])).length) Slot.unset).toArray = ls at hl ⊢
  have hl : lv_has ls 3 [(0, .ref h0), (1, .int (nI r)), (2, .int (nI j))] := hl
  refine lv_aload_n hx hb dX1_round_0 rfl (lv_at hl 0 rfl) ?_
  refine lv_iload_n hx hb dX1_round_1 rfl (lv_at hl 1 rfl) ?_
  refine lv_iconst (v := nI 0) hx hb dX1_round_2 (by decide) ?_
  refine lv_bipush (v := nI 32) hx hb dX1_round_3 (by decide) ?_
  refine wk_Sp (v := nI 1) (As := [.int (nI r), .int (nI 0), .int (nI 32)]) (rest := [.ref h0]) ⟨hx, hb, hml, hown, hts⟩ (c_X1_isIn1 l (nI r) (nI 0) (nI 32) (nI_pos (by omega)) (nI_nlt (by omega) (by omega))) (va_cwS 3 hts gX1_round_X1_isIn rfl rfl rfl (by decide +kernel) ⟨Nat.le_of_ble_eq_true rfl, Nat.le_of_ble_eq_true rfl⟩) rfl hl.1 rfl (Nat.le_of_ble_eq_true rfl) dX1_round_5 ⟨Nat.zero_le _, Nat.zero_le _⟩ ?_
  refine wk_eq0N (tgt := 24) hx hb (a := 1) (by decide) dX1_round_8 (by decide) (fun c8 => absurd c8 (by decide)) (fun c8 => ?_)
  refine lv_iload_n hx hb dX1_round_11 rfl (lv_at hl 2 rfl) ?_
  refine lv_iconst (v := nI 0) hx hb dX1_round_12 (by decide) ?_
  refine lv_iconst (v := nI 3) hx hb dX1_round_13 (by decide) ?_
  refine wk_Sp (v := nI 1) (As := [.int (nI j), .int (nI 0), .int (nI 3)]) (rest := [.ref h0]) ⟨hx, hb, hml, hown, hts⟩ (c_X1_isIn1 l (nI j) (nI 0) (nI 3) (nI_pos (by omega)) (nI_nlt (by omega) (by omega))) (va_cwS 3 hts gX1_round_X1_isIn rfl rfl rfl (by decide +kernel) ⟨Nat.le_of_ble_eq_true rfl, Nat.le_of_ble_eq_true rfl⟩) rfl hl.1 rfl (Nat.le_of_ble_eq_true rfl) dX1_round_14 ⟨Nat.zero_le _, Nat.zero_le _⟩ ?_
  refine wk_eq0N (tgt := 24) hx hb (a := 1) (by decide) dX1_round_17 (by decide) (fun c17 => absurd c17 (by decide)) (fun c17 => ?_)
  refine lv_iconst (v := nI 1) hx hb dX1_round_20 (by decide) ?_
  refine lv_goto (tgt := 25) hx hb dX1_round_21 (by decide) ?_
  refine lv_aload_n hx hb dX1_round_25 rfl (lv_at hl 0 rfl) ?_
  refine va_get (D := D) (ci := 1) (v := .int (nI 0)) (C := RX1) (T := TX1) (N := 13) hx hb hts hinX1 hown hK hP 0 rfl rfl 3 (by decide) (hts (.fieldLink RX1 59 "SlicedCipherModel" "ready" "Z") (by decide +kernel)) (fun _ h9 => h9) rfl dX1_round_26 ?_
  refine wk_VI (b := h0) (As := [.int (nI 1), .int (nI 0)]) (rest := []) (wc := [(h0, .inr (1, [.int th, .ref a1, .int by0, .int (nI 0), .ref a4, .ref a5, .ref a6, .ref a7, .int zz, .ref a9, .ref a10, .ref a11, .ref a12]))]) (wr := []) (w1 := fun (u1 : Nat → Nat → Int32) => [(h0, .inr (1, [.int (nI 2), .ref a1, .int by0, .int (nI 0), .ref a4, .ref a5, .ref a6, .ref a7, .int zz, .ref a9, .ref a10, .ref a11, .ref a12]))]) (w2 := fun (u1 : Nat → Nat → Int32) => [(h0, .inr (1, [.int (nI 2), .ref a1, .int by0, .int (nI 0), .ref a4, .ref a5, .ref a6, .ref a7, .int zz, .ref a9, .ref a10, .ref a11, .ref a12]))]) (ci := 1) (q0 := 0) ⟨hx, hb, hml, hown, hts⟩ (c_X1_good2 l D cI _ h0 a1 a4 a5 a6 a7 a9 a10 a11 a12 th by0 (nI 0) zz) (cwV 2 hts gX1_round_X1_good rfl rfl rfl (by decide +kernel) ⟨Nat.le_of_ble_eq_true rfl, Nat.le_of_ble_eq_true rfl⟩) (fun _ _ _ _ h => h) (fun _ _ _ _ => trivial) hK hP hD hS hA rfl rfl [0] [] rfl (by decide) rfl (by decide) (by decide) [0] (fun _ => rfl) (by decide) rfl hl.1 rfl (Nat.le_of_ble_eq_true rfl) dX1_round_29 ⟨Nat.zero_le _, Nat.zero_le _⟩ (fun zu1 u1 H locs hu1 hP hD hS => ?_)
  have hP : va_P D vwCl [(h0, .inr (1, [.int (nI 2), .ref a1, .int by0, .int (nI 0), .ref a4, .ref a5, .ref a6, .ref a7, .int zz, .ref a9, .ref a10, .ref a11, .ref a12]))] H := hP
  have hD : va_D A [(h0, .inr (1, [.int (nI 2), .ref a1, .int by0, .int (nI 0), .ref a4, .ref a5, .ref a6, .ref a7, .int zz, .ref a9, .ref a10, .ref a11, .ref a12]))] := hD
  refine wk_i (y := nI 0) hu1 ?_
  refine wk_eq0N (tgt := 48) hx hb (a := 0) (by decide) dX1_round_32 (by decide) (fun c32 => ?_) (fun c32 => absurd c32 (fun h => h rfl))
  refine lv_iconst (v := nI 0) hx hb dX1_round_48 (by decide) ?_
  exact W.iret (v := nI 0) hx hb hr (fun t ht hW => ⟨⟨_, (fun _ _ => 0), rfl, rfl, by rw [ht]; exact hP, va_K.moved hW.alike hK, hD⟩, hS.F ht⟩) hS.2.2 dX1_round_49
set_option maxRecDepth 100000 in
theorem in_X1_box : ∀ w ∈ wsX10, w ∈ wsX1_box := by decide +kernel
set_option maxHeartbeats 4000000 in
set_option maxRecDepth 100000 in
theorem c_X1_boxF (l : Launch) (D : va_G) (cI : ClassId) (sz : Nat) (h0 a1 a4 a5 a6 a7 a9 a10 a11 a12 : Nat) (th by0 rd zz : Int32) (wh v : Nat) (hw : wh < 8) (hv : v < 16) : Met l yX1_box wsX1_box ({ frames := 1, cells := 0, slots := 0, locals := 23 }) (va_Pc [.ref h0, .int (nI wh), .int (nI v), .int (nI 0)] (fun U => PW D [(cI, .int)] [(h0, .inr (1, [.int th, .ref a1, .int by0, .int rd, .ref a4, .ref a5, .ref a6, .ref a7, .int zz, .ref a9, .ref a10, .ref a11, .ref a12])), (a9, .inl (cI, 128, .inl TB))] sz U ∧ True)) (va_Qi (fun r9 (u : Nat → Nat → Int32) => r9 = TB (16 * wh + v)) (fun u => BW D [(cI, .int)] (va_A [(h0, .inr (1, [.int th, .ref a1, .int by0, .int rd, .ref a4, .ref a5, .ref a6, .ref a7, .int zz, .ref a9, .ref a10, .ref a11, .ref a12])), (a9, .inl (cI, 128, .inl TB))] sz) [(h0, .inr (1, [.int (nI 0), .ref a1, .int by0, .int rd, .ref a4, .ref a5, .ref a6, .ref a7, .int zz, .ref a9, .ref a10, .ref a11, .ref a12])), (a9, .inl (cI, 128, .inl TB))]) (va_A [(h0, .inr (1, [.int th, .ref a1, .int by0, .int rd, .ref a4, .ref a5, .ref a6, .ref a7, .int zz, .ref a9, .ref a10, .ref a11, .ref a12])), (a9, .inl (cI, 128, .inl TB))] sz)) 0 0 (va_A [(h0, .inr (1, [.int th, .ref a1, .int by0, .int rd, .ref a4, .ref a5, .ref a6, .ref a7, .int zz, .ref a9, .ref a10, .ref a11, .ref a12])), (a9, .inl (cI, 128, .inl TB))] sz) := by
  refine Met.ofW (cc := cX1_box) (maxL := 4) (ret := (some .int)) (by decide) rfl ?_
  intro p e s m args below meth c s₁ B hml hv
  obtain ⟨rfl, ⟨hsz, hP, hK, hD0⟩, -⟩ := hv
  have hx := B.exec
  have hb := B.bytes
  have hr := B.returns
  have hts := atoms_spec (ws := wsX1_box) B.pre
  have hown : s.vm.findClass RX1 = some m.cls := findClass_of_methodNamed B.named
  have hlocks := B.notSynchronized
  subst hsz
  have hD := hD0.self (sz := s.heap.size)
  have hinX1 := in_X1_box
  generalize hAe : va_A [(h0, .inr (1, [.int th, .ref a1, .int by0, .int rd, .ref a4, .ref a5, .ref a6, .ref a7, .int zz, .ref a9, .ref a10, .ref a11, .ref a12])), (a9, .inl (cI, 128, .inl TB))] s.heap.size = A at hD ⊢
  have hA : ∀ q : Nat, s.heap.size ≤ q → A q := fun q h => by rw [← hAe]; exact Or.inr h
  have hS : va_S A s.heap s.heap [] := va_S.rf
  have hl := lv_entry ([.ref h0, .int (nI wh), .int (nI v), .int (nI 0)]) (n := 4) (Nat.le_of_ble_eq_true rfl)
  rw [lg_entry_eq]
  generalize (lg_sl ([.ref h0, .int (nI wh), .int (nI v), .int (nI 0)]) ++ List.replicate (4 - (lg_sl ([.ref h0, .int (nI wh), .int (nI v), .int (nI 0)])).length) Slot.unset).toArray = ls at hl ⊢
  have hl : lv_has ls 4 [(0, .ref h0), (1, .int (nI wh)), (2, .int (nI v)), (3, .int (nI 0))] := hl
  refine lv_aload_n hx hb dX1_box_0 rfl (lv_at hl 0 rfl) ?_
  refine lv_iload_n hx hb dX1_box_1 rfl (lv_at hl 1 rfl) ?_
  refine lv_iconst (v := nI 0) hx hb dX1_box_2 (by decide) ?_
  refine lv_bipush (v := nI 7) hx hb dX1_box_3 (by decide) ?_
  refine wk_Sp (v := nI 1) (As := [.int (nI wh), .int (nI 0), .int (nI 7)]) (rest := [.ref h0]) ⟨hx, hb, hml, hown, hts⟩ (c_X1_isIn1 l (nI wh) (nI 0) (nI 7) (nI_pos (by omega)) (nI_nlt (by omega) (by omega))) (va_cwS 3 hts gX1_box_X1_isIn rfl rfl rfl (by decide +kernel) ⟨Nat.le_of_ble_eq_true rfl, Nat.le_of_ble_eq_true rfl⟩) rfl hl.1 rfl (Nat.le_of_ble_eq_true rfl) dX1_box_5 ⟨Nat.zero_le _, Nat.zero_le _⟩ ?_
  refine lv_iload_n hx hb dX1_box_8 rfl (lv_at hl 2 rfl) ?_
  refine lv_iconst (v := nI 0) hx hb dX1_box_9 (by decide) ?_
  refine lv_bipush (v := nI 15) hx hb dX1_box_10 (by decide) ?_
  refine wk_Sp (v := nI 1) (As := [.int (nI v), .int (nI 0), .int (nI 15)]) (rest := [.int (nI 1), .ref h0]) ⟨hx, hb, hml, hown, hts⟩ (c_X1_isIn1 l (nI v) (nI 0) (nI 15) (nI_pos (by omega)) (nI_nlt (by omega) (by omega))) (va_cwS 3 hts gX1_box_X1_isIn rfl rfl rfl (by decide +kernel) ⟨Nat.le_of_ble_eq_true rfl, Nat.le_of_ble_eq_true rfl⟩) rfl hl.1 rfl (Nat.le_of_ble_eq_true rfl) dX1_box_12 ⟨Nat.zero_le _, Nat.zero_le _⟩ ?_
  refine wk_VI (b := h0) (As := [.int (nI 1), .int (nI 1)]) (rest := []) (wc := [(h0, .inr (1, [.int th, .ref a1, .int by0, .int rd, .ref a4, .ref a5, .ref a6, .ref a7, .int zz, .ref a9, .ref a10, .ref a11, .ref a12]))]) (wr := [(a9, .inl (cI, 128, .inl TB))]) (w1 := fun (u1 : Nat → Nat → Int32) => [(h0, .inr (1, [.int (nI 0), .ref a1, .int by0, .int rd, .ref a4, .ref a5, .ref a6, .ref a7, .int zz, .ref a9, .ref a10, .ref a11, .ref a12]))]) (w2 := fun (u1 : Nat → Nat → Int32) => [(h0, .inr (1, [.int (nI 0), .ref a1, .int by0, .int rd, .ref a4, .ref a5, .ref a6, .ref a7, .int zz, .ref a9, .ref a10, .ref a11, .ref a12])), (a9, .inl (cI, 128, .inl TB))]) (ci := 1) (q0 := 0) ⟨hx, hb, hml, hown, hts⟩ (c_X1_good0 l D cI _ h0 a1 a4 a5 a6 a7 a9 a10 a11 a12 th by0 rd zz) (cwV 2 hts gX1_box_X1_good rfl rfl rfl (by decide +kernel) ⟨Nat.le_of_ble_eq_true rfl, Nat.le_of_ble_eq_true rfl⟩) (fun _ _ _ _ h => h) (fun _ _ _ _ => trivial) hK hP hD hS hA rfl rfl [0] [1] rfl (by decide) rfl (by decide) (by decide) [1, 0] (fun _ => rfl) (by decide) rfl hl.1 rfl (Nat.le_of_ble_eq_true rfl) dX1_box_15 ⟨Nat.zero_le _, Nat.zero_le _⟩ (fun zu1 u1 H locs hu1 hP hD hS => ?_)
  have hP : va_P D vwCl [(h0, .inr (1, [.int (nI 0), .ref a1, .int by0, .int rd, .ref a4, .ref a5, .ref a6, .ref a7, .int zz, .ref a9, .ref a10, .ref a11, .ref a12])), (a9, .inl (cI, 128, .inl TB))] H := hP
  have hD : va_D A [(h0, .inr (1, [.int (nI 0), .ref a1, .int by0, .int rd, .ref a4, .ref a5, .ref a6, .ref a7, .int zz, .ref a9, .ref a10, .ref a11, .ref a12])), (a9, .inl (cI, 128, .inl TB))] := hD
  refine wk_i (y := nI 1) hu1 ?_
  refine wk_ne0N (tgt := 23) hx hb (a := 1) (by decide) dX1_box_18 (by decide) (fun c18 => ?_) (fun c18 => absurd c18 (by decide))
  refine lv_iload_n hx hb dX1_box_23 rfl (lv_at hl 3 rfl) ?_
  refine wk_eq0N (tgt := 36) hx hb (a := 0) (by decide) dX1_box_24 (by decide) (fun c24 => ?_) (fun c24 => absurd c24 (fun h => h rfl))
  refine lv_aload_n hx hb dX1_box_36 rfl (lv_at hl 0 rfl) ?_
  refine va_get (D := D) (ci := 1) (v := .ref a9) (C := RX1) (T := TX1) (N := 13) hx hb hts hinX1 hown hK hP 0 rfl rfl 9 (by decide) (hts (.fieldLink RX1 25 "SlicedCipherModel" "rows" "[I") (by decide +kernel)) (fun _ h9 => h9) rfl dX1_box_37 ?_
  refine lv_bipush (v := nI 16) hx hb dX1_box_40 (by decide) ?_
  refine lv_iload_n hx hb dX1_box_42 rfl (lv_at hl 1 rfl) ?_
  refine wk_imulN hx hb (a := 16) (b := wh) dX1_box_43 ?_
  refine lv_iload_n hx hb dX1_box_44 rfl (lv_at hl 2 rfl) ?_
  refine wk_iaddN hx hb (a := 16 * wh) (b := v) dX1_box_45 ?_
  refine wk_iald hx hb hK hP 1 0 rfl rfl (k := (16 * wh) + v) (by omega) (by decide) dX1_box_46 ?_
  exact W.iret (v := TB ((16 * wh) + v)) hx hb hr (fun t ht hW => ⟨⟨_, (fun _ _ => 0), rfl, rfl, by rw [ht]; exact hP, va_K.moved hW.alike hK, hD⟩, hS.F ht⟩) hS.2.2 dX1_box_47
set_option maxHeartbeats 4000000 in
set_option maxRecDepth 100000 in
theorem c_X1_boxB (l : Launch) (D : va_G) (cI : ClassId) (sz : Nat) (h0 a1 a4 a5 a6 a7 a9 a10 a11 a12 : Nat) (th by0 rd zz : Int32) (wh v : Nat) (bb : Int32) (hw : wh < 8) (hv : v < 16) (hbb : ¬ bb = 0) : Met l yX1_box wsX1_box ({ frames := 1, cells := 0, slots := 0, locals := 23 }) (va_Pc [.ref h0, .int (nI wh), .int (nI v), .int bb] (fun U => PW D [(cI, .int)] [(h0, .inr (1, [.int th, .ref a1, .int by0, .int rd, .ref a4, .ref a5, .ref a6, .ref a7, .int zz, .ref a9, .ref a10, .ref a11, .ref a12])), (a9, .inl (cI, 128, .inl TB))] sz U ∧ True)) (va_Qi (fun r9 (u : Nat → Nat → Int32) => r9 = nI (cSrc wh (nI v) 16)) (fun u => BW D [(cI, .int)] (va_A [(h0, .inr (1, [.int th, .ref a1, .int by0, .int rd, .ref a4, .ref a5, .ref a6, .ref a7, .int zz, .ref a9, .ref a10, .ref a11, .ref a12])), (a9, .inl (cI, 128, .inl TB))] sz) [(h0, .inr (1, [.int (nI 0), .ref a1, .int by0, .int rd, .ref a4, .ref a5, .ref a6, .ref a7, .int zz, .ref a9, .ref a10, .ref a11, .ref a12])), (a9, .inl (cI, 128, .inl TB))]) (va_A [(h0, .inr (1, [.int th, .ref a1, .int by0, .int rd, .ref a4, .ref a5, .ref a6, .ref a7, .int zz, .ref a9, .ref a10, .ref a11, .ref a12])), (a9, .inl (cI, 128, .inl TB))] sz)) 0 0 (va_A [(h0, .inr (1, [.int th, .ref a1, .int by0, .int rd, .ref a4, .ref a5, .ref a6, .ref a7, .int zz, .ref a9, .ref a10, .ref a11, .ref a12])), (a9, .inl (cI, 128, .inl TB))] sz) := by
  refine Met.ofW (cc := cX1_box) (maxL := 4) (ret := (some .int)) (by decide) rfl ?_
  intro p e s m args below meth c s₁ B hml hv
  obtain ⟨rfl, ⟨hsz, hP, hK, hD0⟩, -⟩ := hv
  have hx := B.exec
  have hb := B.bytes
  have hr := B.returns
  have hts := atoms_spec (ws := wsX1_box) B.pre
  have hown : s.vm.findClass RX1 = some m.cls := findClass_of_methodNamed B.named
  have hlocks := B.notSynchronized
  subst hsz
  have hD := hD0.self (sz := s.heap.size)
  have hinX1 := in_X1_box
  generalize hAe : va_A [(h0, .inr (1, [.int th, .ref a1, .int by0, .int rd, .ref a4, .ref a5, .ref a6, .ref a7, .int zz, .ref a9, .ref a10, .ref a11, .ref a12])), (a9, .inl (cI, 128, .inl TB))] s.heap.size = A at hD ⊢
  have hA : ∀ q : Nat, s.heap.size ≤ q → A q := fun q h => by rw [← hAe]; exact Or.inr h
  have hS : va_S A s.heap s.heap [] := va_S.rf
  have hl := lv_entry ([.ref h0, .int (nI wh), .int (nI v), .int bb]) (n := 4) (Nat.le_of_ble_eq_true rfl)
  rw [lg_entry_eq]
  generalize (lg_sl ([.ref h0, .int (nI wh), .int (nI v), .int bb]) ++ List.replicate (4 - (lg_sl ([.ref h0, .int (nI wh), .int (nI v), .int bb])).length) Slot.unset).toArray = ls at hl ⊢
  have hl : lv_has ls 4 [(0, .ref h0), (1, .int (nI wh)), (2, .int (nI v)), (3, .int bb)] := hl
  refine lv_aload_n hx hb dX1_box_0 rfl (lv_at hl 0 rfl) ?_
  refine lv_iload_n hx hb dX1_box_1 rfl (lv_at hl 1 rfl) ?_
  refine lv_iconst (v := nI 0) hx hb dX1_box_2 (by decide) ?_
  refine lv_bipush (v := nI 7) hx hb dX1_box_3 (by decide) ?_
  refine wk_Sp (v := nI 1) (As := [.int (nI wh), .int (nI 0), .int (nI 7)]) (rest := [.ref h0]) ⟨hx, hb, hml, hown, hts⟩ (c_X1_isIn1 l (nI wh) (nI 0) (nI 7) (nI_pos (by omega)) (nI_nlt (by omega) (by omega))) (va_cwS 3 hts gX1_box_X1_isIn rfl rfl rfl (by decide +kernel) ⟨Nat.le_of_ble_eq_true rfl, Nat.le_of_ble_eq_true rfl⟩) rfl hl.1 rfl (Nat.le_of_ble_eq_true rfl) dX1_box_5 ⟨Nat.zero_le _, Nat.zero_le _⟩ ?_
  refine lv_iload_n hx hb dX1_box_8 rfl (lv_at hl 2 rfl) ?_
  refine lv_iconst (v := nI 0) hx hb dX1_box_9 (by decide) ?_
  refine lv_bipush (v := nI 15) hx hb dX1_box_10 (by decide) ?_
  refine wk_Sp (v := nI 1) (As := [.int (nI v), .int (nI 0), .int (nI 15)]) (rest := [.int (nI 1), .ref h0]) ⟨hx, hb, hml, hown, hts⟩ (c_X1_isIn1 l (nI v) (nI 0) (nI 15) (nI_pos (by omega)) (nI_nlt (by omega) (by omega))) (va_cwS 3 hts gX1_box_X1_isIn rfl rfl rfl (by decide +kernel) ⟨Nat.le_of_ble_eq_true rfl, Nat.le_of_ble_eq_true rfl⟩) rfl hl.1 rfl (Nat.le_of_ble_eq_true rfl) dX1_box_12 ⟨Nat.zero_le _, Nat.zero_le _⟩ ?_
  refine wk_VI (b := h0) (As := [.int (nI 1), .int (nI 1)]) (rest := []) (wc := [(h0, .inr (1, [.int th, .ref a1, .int by0, .int rd, .ref a4, .ref a5, .ref a6, .ref a7, .int zz, .ref a9, .ref a10, .ref a11, .ref a12]))]) (wr := [(a9, .inl (cI, 128, .inl TB))]) (w1 := fun (u1 : Nat → Nat → Int32) => [(h0, .inr (1, [.int (nI 0), .ref a1, .int by0, .int rd, .ref a4, .ref a5, .ref a6, .ref a7, .int zz, .ref a9, .ref a10, .ref a11, .ref a12]))]) (w2 := fun (u1 : Nat → Nat → Int32) => [(h0, .inr (1, [.int (nI 0), .ref a1, .int by0, .int rd, .ref a4, .ref a5, .ref a6, .ref a7, .int zz, .ref a9, .ref a10, .ref a11, .ref a12])), (a9, .inl (cI, 128, .inl TB))]) (ci := 1) (q0 := 0) ⟨hx, hb, hml, hown, hts⟩ (c_X1_good0 l D cI _ h0 a1 a4 a5 a6 a7 a9 a10 a11 a12 th by0 rd zz) (cwV 2 hts gX1_box_X1_good rfl rfl rfl (by decide +kernel) ⟨Nat.le_of_ble_eq_true rfl, Nat.le_of_ble_eq_true rfl⟩) (fun _ _ _ _ h => h) (fun _ _ _ _ => trivial) hK hP hD hS hA rfl rfl [0] [1] rfl (by decide) rfl (by decide) (by decide) [1, 0] (fun _ => rfl) (by decide) rfl hl.1 rfl (Nat.le_of_ble_eq_true rfl) dX1_box_15 ⟨Nat.zero_le _, Nat.zero_le _⟩ (fun zu1 u1 H locs hu1 hP hD hS => ?_)
  have hP : va_P D vwCl [(h0, .inr (1, [.int (nI 0), .ref a1, .int by0, .int rd, .ref a4, .ref a5, .ref a6, .ref a7, .int zz, .ref a9, .ref a10, .ref a11, .ref a12])), (a9, .inl (cI, 128, .inl TB))] H := hP
  have hD : va_D A [(h0, .inr (1, [.int (nI 0), .ref a1, .int by0, .int rd, .ref a4, .ref a5, .ref a6, .ref a7, .int zz, .ref a9, .ref a10, .ref a11, .ref a12])), (a9, .inl (cI, 128, .inl TB))] := hD
  refine wk_i (y := nI 1) hu1 ?_
  refine wk_ne0N (tgt := 23) hx hb (a := 1) (by decide) dX1_box_18 (by decide) (fun c18 => ?_) (fun c18 => absurd c18 (by decide))
  refine lv_iload_n hx hb dX1_box_23 rfl (lv_at hl 3 rfl) ?_
  refine lv_if_eq (tgt := 36) hx hb dX1_box_24 (by decide) (fun c24 => absurd c24 (hbb)) (fun c24 => ?_)
  refine lv_aload_n hx hb dX1_box_27 rfl (lv_at hl 0 rfl) ?_
  refine lv_iload_n hx hb dX1_box_28 rfl (lv_at hl 1 rfl) ?_
  refine lv_iload_n hx hb dX1_box_29 rfl (lv_at hl 2 rfl) ?_
  refine wk_Vi (b := h0) (As := [.int (nI wh), .int (nI v)]) (rest := []) (wc := [(h0, .inr (1, [.int (nI 0), .ref a1, .int by0, .int rd, .ref a4, .ref a5, .ref a6, .ref a7, .int zz, .ref a9, .ref a10, .ref a11, .ref a12])), (a9, .inl (cI, 128, .inl TB))]) (ci := 1) (q0 := 0) ⟨hx, hb, hml, hown, hts⟩ (c_X1_back l D cI _ h0 a1 a4 a5 a6 a7 a9 a10 a11 a12 (nI 0) by0 rd zz wh v hw hv) (cwV 2 hts gX1_box_X1_back rfl rfl rfl (by decide +kernel) ⟨Nat.le_of_ble_eq_true rfl, Nat.le_of_ble_eq_true rfl⟩) (fun _ _ _ _ h => h) (fun _ _ _ => trivial) hK hP hD rfl rfl [0, 1] rfl (by decide) rfl hl.1 rfl (Nat.le_of_ble_eq_true rfl) dX1_box_30 ⟨Nat.zero_le _, Nat.zero_le _⟩ (fun z9 hz9 => ?_)
  refine wk_i (y := nI (cSrc wh (nI v) 16)) hz9 ?_
  refine lv_goto (tgt := 47) hx hb dX1_box_33 (by decide) ?_
  exact W.iret (v := nI (cSrc wh (nI v) 16)) hx hb hr (fun t ht hW => ⟨⟨_, (fun _ _ => 0), rfl, rfl, by rw [ht]; exact hP, va_K.moved hW.alike hK, hD⟩, hS.F ht⟩) hS.2.2 dX1_box_47
set_option maxHeartbeats 4000000 in
set_option maxRecDepth 100000 in
theorem c_X1_box0 (l : Launch) (D : va_G) (cI : ClassId) (sz : Nat) (h0 a1 a4 a5 a6 a7 a9 a10 a11 a12 : Nat) (th by0 rd zz : Int32) (i v bb : Int32) (hbad : i < nI 0 ∨ (¬ i < nI 0 ∧ nI 7 < i)) : Met l yX1_box wsX1_box ({ frames := 1, cells := 0, slots := 0, locals := 23 }) (va_Pc [.ref h0, .int i, .int v, .int bb] (fun U => PW D [(cI, .int)] [(h0, .inr (1, [.int th, .ref a1, .int by0, .int rd, .ref a4, .ref a5, .ref a6, .ref a7, .int zz, .ref a9, .ref a10, .ref a11, .ref a12]))] sz U ∧ True)) (va_Qi (fun r9 (u : Nat → Nat → Int32) => r9 = nI 0) (fun u => BW D [(cI, .int)] (va_A [(h0, .inr (1, [.int th, .ref a1, .int by0, .int rd, .ref a4, .ref a5, .ref a6, .ref a7, .int zz, .ref a9, .ref a10, .ref a11, .ref a12]))] sz) [(h0, .inr (1, [.int (nI 1), .ref a1, .int by0, .int rd, .ref a4, .ref a5, .ref a6, .ref a7, .int zz, .ref a9, .ref a10, .ref a11, .ref a12]))]) (va_A [(h0, .inr (1, [.int th, .ref a1, .int by0, .int rd, .ref a4, .ref a5, .ref a6, .ref a7, .int zz, .ref a9, .ref a10, .ref a11, .ref a12]))] sz)) 0 0 (va_A [(h0, .inr (1, [.int th, .ref a1, .int by0, .int rd, .ref a4, .ref a5, .ref a6, .ref a7, .int zz, .ref a9, .ref a10, .ref a11, .ref a12]))] sz) := by
  refine Met.ofW (cc := cX1_box) (maxL := 4) (ret := (some .int)) (by decide) rfl ?_
  intro p e s m args below meth c s₁ B hml hv
  obtain ⟨rfl, ⟨hsz, hP, hK, hD0⟩, -⟩ := hv
  have hx := B.exec
  have hb := B.bytes
  have hr := B.returns
  have hts := atoms_spec (ws := wsX1_box) B.pre
  have hown : s.vm.findClass RX1 = some m.cls := findClass_of_methodNamed B.named
  have hlocks := B.notSynchronized
  subst hsz
  have hD := hD0.self (sz := s.heap.size)
  have hinX1 := in_X1_box
  generalize hAe : va_A [(h0, .inr (1, [.int th, .ref a1, .int by0, .int rd, .ref a4, .ref a5, .ref a6, .ref a7, .int zz, .ref a9, .ref a10, .ref a11, .ref a12]))] s.heap.size = A at hD ⊢
  have hA : ∀ q : Nat, s.heap.size ≤ q → A q := fun q h => by rw [← hAe]; exact Or.inr h
  have hS : va_S A s.heap s.heap [] := va_S.rf
  have hl := lv_entry ([.ref h0, .int i, .int v, .int bb]) (n := 4) (Nat.le_of_ble_eq_true rfl)
  rw [lg_entry_eq]
  generalize (lg_sl ([.ref h0, .int i, .int v, .int bb]) ++ List.replicate (4 - (lg_sl ([.ref h0, .int i, .int v, .int bb])).length) Slot.unset).toArray = ls at hl ⊢
  have hl : lv_has ls 4 [(0, .ref h0), (1, .int i), (2, .int v), (3, .int bb)] := hl
  refine lv_aload_n hx hb dX1_box_0 rfl (lv_at hl 0 rfl) ?_
  refine lv_iload_n hx hb dX1_box_1 rfl (lv_at hl 1 rfl) ?_
  refine lv_iconst (v := nI 0) hx hb dX1_box_2 (by decide) ?_
  refine lv_bipush (v := nI 7) hx hb dX1_box_3 (by decide) ?_
  refine wk_Sp (v := nI 0) (As := [.int i, .int (nI 0), .int (nI 7)]) (rest := [.ref h0]) ⟨hx, hb, hml, hown, hts⟩ (c_X1_isIn0 l i (nI 0) (nI 7) (hbad)) (va_cwS 3 hts gX1_box_X1_isIn rfl rfl rfl (by decide +kernel) ⟨Nat.le_of_ble_eq_true rfl, Nat.le_of_ble_eq_true rfl⟩) rfl hl.1 rfl (Nat.le_of_ble_eq_true rfl) dX1_box_5 ⟨Nat.zero_le _, Nat.zero_le _⟩ ?_
  refine lv_iload_n hx hb dX1_box_8 rfl (lv_at hl 2 rfl) ?_
  refine lv_iconst (v := nI 0) hx hb dX1_box_9 (by decide) ?_
  refine lv_bipush (v := nI 15) hx hb dX1_box_10 (by decide) ?_
  refine wk_Sp (v := isInV v (nI 0) (nI 15)) (As := [.int v, .int (nI 0), .int (nI 15)]) (rest := [.int (nI 0), .ref h0]) ⟨hx, hb, hml, hown, hts⟩ (c_X1_isIn l v (nI 0) (nI 15)) (va_cwS 3 hts gX1_box_X1_isIn rfl rfl rfl (by decide +kernel) ⟨Nat.le_of_ble_eq_true rfl, Nat.le_of_ble_eq_true rfl⟩) rfl hl.1 rfl (Nat.le_of_ble_eq_true rfl) dX1_box_12 ⟨Nat.zero_le _, Nat.zero_le _⟩ ?_
  refine wk_VI (b := h0) (As := [.int (nI 0), .int (isInV v (nI 0) (nI 15))]) (rest := []) (wc := [(h0, .inr (1, [.int th, .ref a1, .int by0, .int rd, .ref a4, .ref a5, .ref a6, .ref a7, .int zz, .ref a9, .ref a10, .ref a11, .ref a12]))]) (wr := []) (w1 := fun (u1 : Nat → Nat → Int32) => [(h0, .inr (1, [.int (nI 1), .ref a1, .int by0, .int rd, .ref a4, .ref a5, .ref a6, .ref a7, .int zz, .ref a9, .ref a10, .ref a11, .ref a12]))]) (w2 := fun (u1 : Nat → Nat → Int32) => [(h0, .inr (1, [.int (nI 1), .ref a1, .int by0, .int rd, .ref a4, .ref a5, .ref a6, .ref a7, .int zz, .ref a9, .ref a10, .ref a11, .ref a12]))]) (ci := 1) (q0 := 0) ⟨hx, hb, hml, hown, hts⟩ (c_X1_good1 l D cI _ h0 a1 a4 a5 a6 a7 a9 a10 a11 a12 th by0 rd zz (isInV v (nI 0) (nI 15))) (cwV 2 hts gX1_box_X1_good rfl rfl rfl (by decide +kernel) ⟨Nat.le_of_ble_eq_true rfl, Nat.le_of_ble_eq_true rfl⟩) (fun _ _ _ _ h => h) (fun _ _ _ _ => trivial) hK hP hD hS hA rfl rfl [0] [] rfl (by decide) rfl (by decide) (by decide) [0] (fun _ => rfl) (by decide) rfl hl.1 rfl (Nat.le_of_ble_eq_true rfl) dX1_box_15 ⟨Nat.zero_le _, Nat.zero_le _⟩ (fun zu1 u1 H locs hu1 hP hD hS => ?_)
  have hP : va_P D vwCl [(h0, .inr (1, [.int (nI 1), .ref a1, .int by0, .int rd, .ref a4, .ref a5, .ref a6, .ref a7, .int zz, .ref a9, .ref a10, .ref a11, .ref a12]))] H := hP
  have hD : va_D A [(h0, .inr (1, [.int (nI 1), .ref a1, .int by0, .int rd, .ref a4, .ref a5, .ref a6, .ref a7, .int zz, .ref a9, .ref a10, .ref a11, .ref a12]))] := hD
  refine wk_i (y := nI 0) hu1 ?_
  refine wk_ne0N (tgt := 23) hx hb (a := 0) (by decide) dX1_box_18 (by decide) (fun c18 => absurd c18 (fun h => h rfl)) (fun c18 => ?_)
  refine lv_iconst (v := nI 0) hx hb dX1_box_21 (by decide) ?_
  exact W.iret (v := nI 0) hx hb hr (fun t ht hW => ⟨⟨_, (fun _ _ => 0), rfl, rfl, by rw [ht]; exact hP, va_K.moved hW.alike hK, hD⟩, hS.F ht⟩) hS.2.2 dX1_box_22
set_option maxHeartbeats 4000000 in
set_option maxRecDepth 100000 in
theorem c_X1_box2 (l : Launch) (D : va_G) (cI : ClassId) (sz : Nat) (h0 a1 a4 a5 a6 a7 a9 a10 a11 a12 : Nat) (th by0 rd zz : Int32) (wh : Nat) (v bb : Int32) (hw : wh < 8) (hbad : v < nI 0 ∨ (¬ v < nI 0 ∧ nI 15 < v)) : Met l yX1_box wsX1_box ({ frames := 1, cells := 0, slots := 0, locals := 23 }) (va_Pc [.ref h0, .int (nI wh), .int v, .int bb] (fun U => PW D [(cI, .int)] [(h0, .inr (1, [.int th, .ref a1, .int by0, .int rd, .ref a4, .ref a5, .ref a6, .ref a7, .int zz, .ref a9, .ref a10, .ref a11, .ref a12]))] sz U ∧ True)) (va_Qi (fun r9 (u : Nat → Nat → Int32) => r9 = nI 0) (fun u => BW D [(cI, .int)] (va_A [(h0, .inr (1, [.int th, .ref a1, .int by0, .int rd, .ref a4, .ref a5, .ref a6, .ref a7, .int zz, .ref a9, .ref a10, .ref a11, .ref a12]))] sz) [(h0, .inr (1, [.int (nI 2), .ref a1, .int by0, .int rd, .ref a4, .ref a5, .ref a6, .ref a7, .int zz, .ref a9, .ref a10, .ref a11, .ref a12]))]) (va_A [(h0, .inr (1, [.int th, .ref a1, .int by0, .int rd, .ref a4, .ref a5, .ref a6, .ref a7, .int zz, .ref a9, .ref a10, .ref a11, .ref a12]))] sz)) 0 0 (va_A [(h0, .inr (1, [.int th, .ref a1, .int by0, .int rd, .ref a4, .ref a5, .ref a6, .ref a7, .int zz, .ref a9, .ref a10, .ref a11, .ref a12]))] sz) := by
  refine Met.ofW (cc := cX1_box) (maxL := 4) (ret := (some .int)) (by decide) rfl ?_
  intro p e s m args below meth c s₁ B hml hv
  obtain ⟨rfl, ⟨hsz, hP, hK, hD0⟩, -⟩ := hv
  have hx := B.exec
  have hb := B.bytes
  have hr := B.returns
  have hts := atoms_spec (ws := wsX1_box) B.pre
  have hown : s.vm.findClass RX1 = some m.cls := findClass_of_methodNamed B.named
  have hlocks := B.notSynchronized
  subst hsz
  have hD := hD0.self (sz := s.heap.size)
  have hinX1 := in_X1_box
  generalize hAe : va_A [(h0, .inr (1, [.int th, .ref a1, .int by0, .int rd, .ref a4, .ref a5, .ref a6, .ref a7, .int zz, .ref a9, .ref a10, .ref a11, .ref a12]))] s.heap.size = A at hD ⊢
  have hA : ∀ q : Nat, s.heap.size ≤ q → A q := fun q h => by rw [← hAe]; exact Or.inr h
  have hS : va_S A s.heap s.heap [] := va_S.rf
  have hl := lv_entry ([.ref h0, .int (nI wh), .int v, .int bb]) (n := 4) (Nat.le_of_ble_eq_true rfl)
  rw [lg_entry_eq]
  generalize (lg_sl ([.ref h0, .int (nI wh), .int v, .int bb]) ++ List.replicate (4 - (lg_sl ([.ref h0, .int (nI wh), .int v, .int bb])).length) Slot.unset).toArray = ls at hl ⊢
  have hl : lv_has ls 4 [(0, .ref h0), (1, .int (nI wh)), (2, .int v), (3, .int bb)] := hl
  refine lv_aload_n hx hb dX1_box_0 rfl (lv_at hl 0 rfl) ?_
  refine lv_iload_n hx hb dX1_box_1 rfl (lv_at hl 1 rfl) ?_
  refine lv_iconst (v := nI 0) hx hb dX1_box_2 (by decide) ?_
  refine lv_bipush (v := nI 7) hx hb dX1_box_3 (by decide) ?_
  refine wk_Sp (v := nI 1) (As := [.int (nI wh), .int (nI 0), .int (nI 7)]) (rest := [.ref h0]) ⟨hx, hb, hml, hown, hts⟩ (c_X1_isIn1 l (nI wh) (nI 0) (nI 7) (nI_pos (by omega)) (nI_nlt (by omega) (by omega))) (va_cwS 3 hts gX1_box_X1_isIn rfl rfl rfl (by decide +kernel) ⟨Nat.le_of_ble_eq_true rfl, Nat.le_of_ble_eq_true rfl⟩) rfl hl.1 rfl (Nat.le_of_ble_eq_true rfl) dX1_box_5 ⟨Nat.zero_le _, Nat.zero_le _⟩ ?_
  refine lv_iload_n hx hb dX1_box_8 rfl (lv_at hl 2 rfl) ?_
  refine lv_iconst (v := nI 0) hx hb dX1_box_9 (by decide) ?_
  refine lv_bipush (v := nI 15) hx hb dX1_box_10 (by decide) ?_
  refine wk_Sp (v := nI 0) (As := [.int v, .int (nI 0), .int (nI 15)]) (rest := [.int (nI 1), .ref h0]) ⟨hx, hb, hml, hown, hts⟩ (c_X1_isIn0 l v (nI 0) (nI 15) (hbad)) (va_cwS 3 hts gX1_box_X1_isIn rfl rfl rfl (by decide +kernel) ⟨Nat.le_of_ble_eq_true rfl, Nat.le_of_ble_eq_true rfl⟩) rfl hl.1 rfl (Nat.le_of_ble_eq_true rfl) dX1_box_12 ⟨Nat.zero_le _, Nat.zero_le _⟩ ?_
  refine wk_VI (b := h0) (As := [.int (nI 1), .int (nI 0)]) (rest := []) (wc := [(h0, .inr (1, [.int th, .ref a1, .int by0, .int rd, .ref a4, .ref a5, .ref a6, .ref a7, .int zz, .ref a9, .ref a10, .ref a11, .ref a12]))]) (wr := []) (w1 := fun (u1 : Nat → Nat → Int32) => [(h0, .inr (1, [.int (nI 2), .ref a1, .int by0, .int rd, .ref a4, .ref a5, .ref a6, .ref a7, .int zz, .ref a9, .ref a10, .ref a11, .ref a12]))]) (w2 := fun (u1 : Nat → Nat → Int32) => [(h0, .inr (1, [.int (nI 2), .ref a1, .int by0, .int rd, .ref a4, .ref a5, .ref a6, .ref a7, .int zz, .ref a9, .ref a10, .ref a11, .ref a12]))]) (ci := 1) (q0 := 0) ⟨hx, hb, hml, hown, hts⟩ (c_X1_good2 l D cI _ h0 a1 a4 a5 a6 a7 a9 a10 a11 a12 th by0 rd zz) (cwV 2 hts gX1_box_X1_good rfl rfl rfl (by decide +kernel) ⟨Nat.le_of_ble_eq_true rfl, Nat.le_of_ble_eq_true rfl⟩) (fun _ _ _ _ h => h) (fun _ _ _ _ => trivial) hK hP hD hS hA rfl rfl [0] [] rfl (by decide) rfl (by decide) (by decide) [0] (fun _ => rfl) (by decide) rfl hl.1 rfl (Nat.le_of_ble_eq_true rfl) dX1_box_15 ⟨Nat.zero_le _, Nat.zero_le _⟩ (fun zu1 u1 H locs hu1 hP hD hS => ?_)
  have hP : va_P D vwCl [(h0, .inr (1, [.int (nI 2), .ref a1, .int by0, .int rd, .ref a4, .ref a5, .ref a6, .ref a7, .int zz, .ref a9, .ref a10, .ref a11, .ref a12]))] H := hP
  have hD : va_D A [(h0, .inr (1, [.int (nI 2), .ref a1, .int by0, .int rd, .ref a4, .ref a5, .ref a6, .ref a7, .int zz, .ref a9, .ref a10, .ref a11, .ref a12]))] := hD
  refine wk_i (y := nI 0) hu1 ?_
  refine wk_ne0N (tgt := 23) hx hb (a := 0) (by decide) dX1_box_18 (by decide) (fun c18 => absurd c18 (fun h => h rfl)) (fun c18 => ?_)
  refine lv_iconst (v := nI 0) hx hb dX1_box_21 (by decide) ?_
  exact W.iret (v := nI 0) hx hb hr (fun t ht hW => ⟨⟨_, (fun _ _ => 0), rfl, rfl, by rw [ht]; exact hP, va_K.moved hW.alike hK, hD⟩, hS.F ht⟩) hS.2.2 dX1_box_22
set_option maxRecDepth 100000 in
theorem in_X1_start : ∀ w ∈ wsX10, w ∈ wsX1_start := by decide +kernel
set_option maxHeartbeats 4000000 in
set_option maxRecDepth 100000 in
theorem c_X1_start1 (l : Launch) (D : va_G) (cI : ClassId) (sz : Nat) (h0 a1 a4 a5 a6 a7 a9 a10 a11 a12 : Nat) (th by0 rd zz : Int32) (k : Nat) (v : Int32) (S : Nat → Int32) (hk : k < 4) : Met l yX1_start wsX1_start ({ frames := 1, cells := 0, slots := 0, locals := 22 }) (va_Pc [.ref h0, .int (nI k), .int v] (fun U => PW D [(cI, .int)] [(h0, .inr (1, [.int th, .ref a1, .int by0, .int rd, .ref a4, .ref a5, .ref a6, .ref a7, .int zz, .ref a9, .ref a10, .ref a11, .ref a12])), (a6, .inl (cI, 4, .inl S))] sz U ∧ True)) (va_Qv (fun _ : Nat → Nat → Int32 => True) (fun u => BW D [(cI, .int)] (va_A [(h0, .inr (1, [.int th, .ref a1, .int by0, .int rd, .ref a4, .ref a5, .ref a6, .ref a7, .int zz, .ref a9, .ref a10, .ref a11, .ref a12])), (a6, .inl (cI, 4, .inl S))] sz) [(h0, .inr (1, [.int (nI 0), .ref a1, .int by0, .int rd, .ref a4, .ref a5, .ref a6, .ref a7, .int zz, .ref a9, .ref a10, .ref a11, .ref a12])), (a6, .inl (cI, 4, .inl (upd S k v)))]) (va_A [(h0, .inr (1, [.int th, .ref a1, .int by0, .int rd, .ref a4, .ref a5, .ref a6, .ref a7, .int zz, .ref a9, .ref a10, .ref a11, .ref a12])), (a6, .inl (cI, 4, .inl S))] sz)) 0 0 (va_A [(h0, .inr (1, [.int th, .ref a1, .int by0, .int rd, .ref a4, .ref a5, .ref a6, .ref a7, .int zz, .ref a9, .ref a10, .ref a11, .ref a12])), (a6, .inl (cI, 4, .inl S))] sz) := by
  refine Met.ofW (cc := cX1_start) (maxL := 3) (ret := none) (by decide) rfl ?_
  intro p e s m args below meth c s₁ B hml hv
  obtain ⟨rfl, ⟨hsz, hP, hK, hD0⟩, -⟩ := hv
  have hx := B.exec
  have hb := B.bytes
  have hr := B.returns
  have hts := atoms_spec (ws := wsX1_start) B.pre
  have hown : s.vm.findClass RX1 = some m.cls := findClass_of_methodNamed B.named
  have hlocks := B.notSynchronized
  subst hsz
  have hD := hD0.self (sz := s.heap.size)
  have hinX1 := in_X1_start
  generalize hAe : va_A [(h0, .inr (1, [.int th, .ref a1, .int by0, .int rd, .ref a4, .ref a5, .ref a6, .ref a7, .int zz, .ref a9, .ref a10, .ref a11, .ref a12])), (a6, .inl (cI, 4, .inl S))] s.heap.size = A at hD ⊢
  have hA : ∀ q : Nat, s.heap.size ≤ q → A q := fun q h => by rw [← hAe]; exact Or.inr h
  have hS : va_S A s.heap s.heap [] := va_S.rf
  have hl := lv_entry ([.ref h0, .int (nI k), .int v]) (n := 3) (Nat.le_of_ble_eq_true rfl)
  rw [lg_entry_eq]
  generalize (lg_sl ([.ref h0, .int (nI k), .int v]) ++ List.replicate (3 - (lg_sl ([.ref h0, .int (nI k), .int v])).length) Slot.unset).toArray = ls at hl ⊢
  have hl : lv_has ls 3 [(0, .ref h0), (1, .int (nI k)), (2, .int v)] := hl
  refine lv_aload_n hx hb dX1_start_0 rfl (lv_at hl 0 rfl) ?_
  refine lv_iload_n hx hb dX1_start_1 rfl (lv_at hl 1 rfl) ?_
  refine lv_iconst (v := nI 0) hx hb dX1_start_2 (by decide) ?_
  refine lv_iconst (v := nI 3) hx hb dX1_start_3 (by decide) ?_
  refine wk_Sp (v := nI 1) (As := [.int (nI k), .int (nI 0), .int (nI 3)]) (rest := [.ref h0]) ⟨hx, hb, hml, hown, hts⟩ (c_X1_isIn1 l (nI k) (nI 0) (nI 3) (nI_pos (by omega)) (nI_nlt (by omega) (by omega))) (va_cwS 3 hts gX1_start_X1_isIn rfl rfl rfl (by decide +kernel) ⟨Nat.le_of_ble_eq_true rfl, Nat.le_of_ble_eq_true rfl⟩) rfl hl.1 rfl (Nat.le_of_ble_eq_true rfl) dX1_start_4 ⟨Nat.zero_le _, Nat.zero_le _⟩ ?_
  refine lv_iconst (v := nI 1) hx hb dX1_start_7 (by decide) ?_
  refine wk_VI (b := h0) (As := [.int (nI 1), .int (nI 1)]) (rest := []) (wc := [(h0, .inr (1, [.int th, .ref a1, .int by0, .int rd, .ref a4, .ref a5, .ref a6, .ref a7, .int zz, .ref a9, .ref a10, .ref a11, .ref a12]))]) (wr := [(a6, .inl (cI, 4, .inl S))]) (w1 := fun (u1 : Nat → Nat → Int32) => [(h0, .inr (1, [.int (nI 0), .ref a1, .int by0, .int rd, .ref a4, .ref a5, .ref a6, .ref a7, .int zz, .ref a9, .ref a10, .ref a11, .ref a12]))]) (w2 := fun (u1 : Nat → Nat → Int32) => [(h0, .inr (1, [.int (nI 0), .ref a1, .int by0, .int rd, .ref a4, .ref a5, .ref a6, .ref a7, .int zz, .ref a9, .ref a10, .ref a11, .ref a12])), (a6, .inl (cI, 4, .inl S))]) (ci := 1) (q0 := 0) ⟨hx, hb, hml, hown, hts⟩ (c_X1_good0 l D cI _ h0 a1 a4 a5 a6 a7 a9 a10 a11 a12 th by0 rd zz) (cwV 2 hts gX1_start_X1_good rfl rfl rfl (by decide +kernel) ⟨Nat.le_of_ble_eq_true rfl, Nat.le_of_ble_eq_true rfl⟩) (fun _ _ _ _ h => h) (fun _ _ _ _ => trivial) hK hP hD hS hA rfl rfl [0] [1] rfl (by decide) rfl (by decide) (by decide) [1, 0] (fun _ => rfl) (by decide) rfl hl.1 rfl (Nat.le_of_ble_eq_true rfl) dX1_start_8 ⟨Nat.zero_le _, Nat.zero_le _⟩ (fun zu1 u1 H locs hu1 hP hD hS => ?_)
  have hP : va_P D vwCl [(h0, .inr (1, [.int (nI 0), .ref a1, .int by0, .int rd, .ref a4, .ref a5, .ref a6, .ref a7, .int zz, .ref a9, .ref a10, .ref a11, .ref a12])), (a6, .inl (cI, 4, .inl S))] H := hP
  have hD : va_D A [(h0, .inr (1, [.int (nI 0), .ref a1, .int by0, .int rd, .ref a4, .ref a5, .ref a6, .ref a7, .int zz, .ref a9, .ref a10, .ref a11, .ref a12])), (a6, .inl (cI, 4, .inl S))] := hD
  refine wk_i (y := nI 1) hu1 ?_
  refine wk_eq0N (tgt := 21) hx hb (a := 1) (by decide) dX1_start_11 (by decide) (fun c11 => absurd c11 (by decide)) (fun c11 => ?_)
  refine lv_aload_n hx hb dX1_start_14 rfl (lv_at hl 0 rfl) ?_
  refine va_get (D := D) (ci := 1) (v := .ref a6) (C := RX1) (T := TX1) (N := 13) hx hb hts hinX1 hown hK hP 0 rfl rfl 6 (by decide) (hts (.fieldLink RX1 19 "SlicedCipherModel" "begin" "[I") (by decide +kernel)) (fun _ h9 => h9) rfl dX1_start_15 ?_
  refine lv_iload_n hx hb dX1_start_18 rfl (lv_at hl 1 rfl) ?_
  refine lv_iload_n hx hb dX1_start_19 rfl (lv_at hl 2 rfl) ?_
  refine wk_iast hx hb hK hP hD hS 1 0 rfl rfl (k := k) (x := v) (by omega) (by decide) dX1_start_20 (fun H locs hP hD hS => ?_)
  have hP : va_P D vwCl [(h0, .inr (1, [.int (nI 0), .ref a1, .int by0, .int rd, .ref a4, .ref a5, .ref a6, .ref a7, .int zz, .ref a9, .ref a10, .ref a11, .ref a12])), (a6, .inl (cI, 4, .inl (upd S k v)))] H := hP
  have hD : va_D A [(h0, .inr (1, [.int (nI 0), .ref a1, .int by0, .int rd, .ref a4, .ref a5, .ref a6, .ref a7, .int zz, .ref a9, .ref a10, .ref a11, .ref a12])), (a6, .inl (cI, 4, .inl (upd S k v)))] := hD
  exact W.vret hx hb hr (fun t ht hW => ⟨⟨(fun _ _ => 0), rfl, trivial, by rw [ht]; exact hP, va_K.moved hW.alike hK, hD⟩, hS.F ht⟩) hS.2.2 dX1_start_21
set_option maxHeartbeats 4000000 in
set_option maxRecDepth 100000 in
theorem c_X1_start0 (l : Launch) (D : va_G) (cI : ClassId) (sz : Nat) (h0 a1 a4 a5 a6 a7 a9 a10 a11 a12 : Nat) (th by0 rd zz : Int32) (i v : Int32) (hbad : i < nI 0 ∨ (¬ i < nI 0 ∧ nI 3 < i)) : Met l yX1_start wsX1_start ({ frames := 1, cells := 0, slots := 0, locals := 22 }) (va_Pc [.ref h0, .int i, .int v] (fun U => PW D [(cI, .int)] [(h0, .inr (1, [.int th, .ref a1, .int by0, .int rd, .ref a4, .ref a5, .ref a6, .ref a7, .int zz, .ref a9, .ref a10, .ref a11, .ref a12]))] sz U ∧ True)) (va_Qv (fun _ : Nat → Nat → Int32 => True) (fun u => BW D [(cI, .int)] (va_A [(h0, .inr (1, [.int th, .ref a1, .int by0, .int rd, .ref a4, .ref a5, .ref a6, .ref a7, .int zz, .ref a9, .ref a10, .ref a11, .ref a12]))] sz) [(h0, .inr (1, [.int (nI 1), .ref a1, .int by0, .int rd, .ref a4, .ref a5, .ref a6, .ref a7, .int zz, .ref a9, .ref a10, .ref a11, .ref a12]))]) (va_A [(h0, .inr (1, [.int th, .ref a1, .int by0, .int rd, .ref a4, .ref a5, .ref a6, .ref a7, .int zz, .ref a9, .ref a10, .ref a11, .ref a12]))] sz)) 0 0 (va_A [(h0, .inr (1, [.int th, .ref a1, .int by0, .int rd, .ref a4, .ref a5, .ref a6, .ref a7, .int zz, .ref a9, .ref a10, .ref a11, .ref a12]))] sz) := by
  refine Met.ofW (cc := cX1_start) (maxL := 3) (ret := none) (by decide) rfl ?_
  intro p e s m args below meth c s₁ B hml hv
  obtain ⟨rfl, ⟨hsz, hP, hK, hD0⟩, -⟩ := hv
  have hx := B.exec
  have hb := B.bytes
  have hr := B.returns
  have hts := atoms_spec (ws := wsX1_start) B.pre
  have hown : s.vm.findClass RX1 = some m.cls := findClass_of_methodNamed B.named
  have hlocks := B.notSynchronized
  subst hsz
  have hD := hD0.self (sz := s.heap.size)
  have hinX1 := in_X1_start
  generalize hAe : va_A [(h0, .inr (1, [.int th, .ref a1, .int by0, .int rd, .ref a4, .ref a5, .ref a6, .ref a7, .int zz, .ref a9, .ref a10, .ref a11, .ref a12]))] s.heap.size = A at hD ⊢
  have hA : ∀ q : Nat, s.heap.size ≤ q → A q := fun q h => by rw [← hAe]; exact Or.inr h
  have hS : va_S A s.heap s.heap [] := va_S.rf
  have hl := lv_entry ([.ref h0, .int i, .int v]) (n := 3) (Nat.le_of_ble_eq_true rfl)
  rw [lg_entry_eq]
  generalize (lg_sl ([.ref h0, .int i, .int v]) ++ List.replicate (3 - (lg_sl ([.ref h0, .int i, .int v])).length) Slot.unset).toArray = ls at hl ⊢
  have hl : lv_has ls 3 [(0, .ref h0), (1, .int i), (2, .int v)] := hl
  refine lv_aload_n hx hb dX1_start_0 rfl (lv_at hl 0 rfl) ?_
  refine lv_iload_n hx hb dX1_start_1 rfl (lv_at hl 1 rfl) ?_
  refine lv_iconst (v := nI 0) hx hb dX1_start_2 (by decide) ?_
  refine lv_iconst (v := nI 3) hx hb dX1_start_3 (by decide) ?_
  refine wk_Sp (v := nI 0) (As := [.int i, .int (nI 0), .int (nI 3)]) (rest := [.ref h0]) ⟨hx, hb, hml, hown, hts⟩ (c_X1_isIn0 l i (nI 0) (nI 3) (hbad)) (va_cwS 3 hts gX1_start_X1_isIn rfl rfl rfl (by decide +kernel) ⟨Nat.le_of_ble_eq_true rfl, Nat.le_of_ble_eq_true rfl⟩) rfl hl.1 rfl (Nat.le_of_ble_eq_true rfl) dX1_start_4 ⟨Nat.zero_le _, Nat.zero_le _⟩ ?_
  refine lv_iconst (v := nI 1) hx hb dX1_start_7 (by decide) ?_
  refine wk_VI (b := h0) (As := [.int (nI 0), .int (nI 1)]) (rest := []) (wc := [(h0, .inr (1, [.int th, .ref a1, .int by0, .int rd, .ref a4, .ref a5, .ref a6, .ref a7, .int zz, .ref a9, .ref a10, .ref a11, .ref a12]))]) (wr := []) (w1 := fun (u1 : Nat → Nat → Int32) => [(h0, .inr (1, [.int (nI 1), .ref a1, .int by0, .int rd, .ref a4, .ref a5, .ref a6, .ref a7, .int zz, .ref a9, .ref a10, .ref a11, .ref a12]))]) (w2 := fun (u1 : Nat → Nat → Int32) => [(h0, .inr (1, [.int (nI 1), .ref a1, .int by0, .int rd, .ref a4, .ref a5, .ref a6, .ref a7, .int zz, .ref a9, .ref a10, .ref a11, .ref a12]))]) (ci := 1) (q0 := 0) ⟨hx, hb, hml, hown, hts⟩ (c_X1_good1 l D cI _ h0 a1 a4 a5 a6 a7 a9 a10 a11 a12 th by0 rd zz (nI 1)) (cwV 2 hts gX1_start_X1_good rfl rfl rfl (by decide +kernel) ⟨Nat.le_of_ble_eq_true rfl, Nat.le_of_ble_eq_true rfl⟩) (fun _ _ _ _ h => h) (fun _ _ _ _ => trivial) hK hP hD hS hA rfl rfl [0] [] rfl (by decide) rfl (by decide) (by decide) [0] (fun _ => rfl) (by decide) rfl hl.1 rfl (Nat.le_of_ble_eq_true rfl) dX1_start_8 ⟨Nat.zero_le _, Nat.zero_le _⟩ (fun zu1 u1 H locs hu1 hP hD hS => ?_)
  have hP : va_P D vwCl [(h0, .inr (1, [.int (nI 1), .ref a1, .int by0, .int rd, .ref a4, .ref a5, .ref a6, .ref a7, .int zz, .ref a9, .ref a10, .ref a11, .ref a12]))] H := hP
  have hD : va_D A [(h0, .inr (1, [.int (nI 1), .ref a1, .int by0, .int rd, .ref a4, .ref a5, .ref a6, .ref a7, .int zz, .ref a9, .ref a10, .ref a11, .ref a12]))] := hD
  refine wk_i (y := nI 0) hu1 ?_
  refine wk_eq0N (tgt := 21) hx hb (a := 0) (by decide) dX1_start_11 (by decide) (fun c11 => ?_) (fun c11 => absurd c11 (fun h => h rfl))
  exact W.vret hx hb hr (fun t ht hW => ⟨⟨(fun _ _ => 0), rfl, trivial, by rw [ht]; exact hP, va_K.moved hW.alike hK, hD⟩, hS.F ht⟩) hS.2.2 dX1_start_21
set_option maxRecDepth 100000 in
theorem in_X1_put : ∀ w ∈ wsX10, w ∈ wsX1_put := by decide +kernel
set_option maxHeartbeats 4000000 in
set_option maxRecDepth 100000 in
theorem c_X1_put1 (l : Launch) (D : va_G) (cI : ClassId) (sz : Nat) (h0 a1 a4 a5 a6 a7 a9 a10 a11 a12 : Nat) (th by0 rd : Int32) (sz0 : Nat) (xa xb xc xd : Int32) (f : Nat → Int32) (hz : sz0 ≤ 252) : Met l yX1_put wsX1_put ({ frames := 1, cells := 0, slots := 0, locals := 22 }) (va_Pc [.ref h0, .int xa, .int xb, .int xc, .int xd] (fun U => PW D [(cI, .int)] [(h0, .inr (1, [.int th, .ref a1, .int by0, .int rd, .ref a4, .ref a5, .ref a6, .ref a7, .int (nI sz0), .ref a9, .ref a10, .ref a11, .ref a12])), (a7, .inl (cI, 256, .inl f))] sz U ∧ True)) (va_Qi (fun r9 (u : Nat → Nat → Int32) => r9 = nI (sz0 + 4)) (fun u => BW D [(cI, .int)] (va_A [(h0, .inr (1, [.int th, .ref a1, .int by0, .int rd, .ref a4, .ref a5, .ref a6, .ref a7, .int (nI sz0), .ref a9, .ref a10, .ref a11, .ref a12])), (a7, .inl (cI, 256, .inl f))] sz) [(h0, .inr (1, [.int (nI 0), .ref a1, .int by0, .int rd, .ref a4, .ref a5, .ref a6, .ref a7, .int (nI (sz0 + 4)), .ref a9, .ref a10, .ref a11, .ref a12])), (a7, .inl (cI, 256, .inl (st4 f sz0 (xa, xb, xc, xd))))]) (va_A [(h0, .inr (1, [.int th, .ref a1, .int by0, .int rd, .ref a4, .ref a5, .ref a6, .ref a7, .int (nI sz0), .ref a9, .ref a10, .ref a11, .ref a12])), (a7, .inl (cI, 256, .inl f))] sz)) 0 0 (va_A [(h0, .inr (1, [.int th, .ref a1, .int by0, .int rd, .ref a4, .ref a5, .ref a6, .ref a7, .int (nI sz0), .ref a9, .ref a10, .ref a11, .ref a12])), (a7, .inl (cI, 256, .inl f))] sz) := by
  refine Met.ofW (cc := cX1_put) (maxL := 5) (ret := (some .int)) (by decide) rfl ?_
  intro p e s m args below meth c s₁ B hml hv
  obtain ⟨rfl, ⟨hsz, hP, hK, hD0⟩, -⟩ := hv
  have hx := B.exec
  have hb := B.bytes
  have hr := B.returns
  have hts := atoms_spec (ws := wsX1_put) B.pre
  have hown : s.vm.findClass RX1 = some m.cls := findClass_of_methodNamed B.named
  have hlocks := B.notSynchronized
  subst hsz
  have hD := hD0.self (sz := s.heap.size)
  have hinX1 := in_X1_put
  generalize hAe : va_A [(h0, .inr (1, [.int th, .ref a1, .int by0, .int rd, .ref a4, .ref a5, .ref a6, .ref a7, .int (nI sz0), .ref a9, .ref a10, .ref a11, .ref a12])), (a7, .inl (cI, 256, .inl f))] s.heap.size = A at hD ⊢
  have hA : ∀ q : Nat, s.heap.size ≤ q → A q := fun q h => by rw [← hAe]; exact Or.inr h
  have hS : va_S A s.heap s.heap [] := va_S.rf
  have hl := lv_entry ([.ref h0, .int xa, .int xb, .int xc, .int xd]) (n := 5) (Nat.le_of_ble_eq_true rfl)
  rw [lg_entry_eq]
  generalize (lg_sl ([.ref h0, .int xa, .int xb, .int xc, .int xd]) ++ List.replicate (5 - (lg_sl ([.ref h0, .int xa, .int xb, .int xc, .int xd])).length) Slot.unset).toArray = ls at hl ⊢
  have hl : lv_has ls 5 [(0, .ref h0), (1, .int xa), (2, .int xb), (3, .int xc), (4, .int xd)] := hl
  refine lv_aload_n hx hb dX1_put_0 rfl (lv_at hl 0 rfl) ?_
  refine lv_aload_n hx hb dX1_put_1 rfl (lv_at hl 0 rfl) ?_
  refine va_get (D := D) (ci := 1) (v := .int (nI sz0)) (C := RX1) (T := TX1) (N := 13) hx hb hts hinX1 hown hK hP 0 rfl rfl 8 (by decide) (hts (.fieldLink RX1 37 "SlicedCipherModel" "size" "I") (by decide +kernel)) (fun _ h9 => h9) rfl dX1_put_2 ?_
  refine lv_sipush (v := nI 252) hx hb dX1_put_5 (by decide) ?_
  refine wk_gtN (tgt := 15) hx hb (a := sz0) (b := 252) (by omega) (by decide) dX1_put_8 (by decide) (fun c8 => absurd c8 (by omega)) (fun c8 => ?_)
  refine lv_iconst (v := nI 1) hx hb dX1_put_11 (by decide) ?_
  refine lv_goto (tgt := 16) hx hb dX1_put_12 (by decide) ?_
  refine lv_iconst (v := nI 1) hx hb dX1_put_16 (by decide) ?_
  refine wk_VI (b := h0) (As := [.int (nI 1), .int (nI 1)]) (rest := []) (wc := [(h0, .inr (1, [.int th, .ref a1, .int by0, .int rd, .ref a4, .ref a5, .ref a6, .ref a7, .int (nI sz0), .ref a9, .ref a10, .ref a11, .ref a12]))]) (wr := [(a7, .inl (cI, 256, .inl f))]) (w1 := fun (u1 : Nat → Nat → Int32) => [(h0, .inr (1, [.int (nI 0), .ref a1, .int by0, .int rd, .ref a4, .ref a5, .ref a6, .ref a7, .int (nI sz0), .ref a9, .ref a10, .ref a11, .ref a12]))]) (w2 := fun (u1 : Nat → Nat → Int32) => [(h0, .inr (1, [.int (nI 0), .ref a1, .int by0, .int rd, .ref a4, .ref a5, .ref a6, .ref a7, .int (nI sz0), .ref a9, .ref a10, .ref a11, .ref a12])), (a7, .inl (cI, 256, .inl f))]) (ci := 1) (q0 := 0) ⟨hx, hb, hml, hown, hts⟩ (c_X1_good0 l D cI _ h0 a1 a4 a5 a6 a7 a9 a10 a11 a12 th by0 rd (nI sz0)) (cwV 2 hts gX1_put_X1_good rfl rfl rfl (by decide +kernel) ⟨Nat.le_of_ble_eq_true rfl, Nat.le_of_ble_eq_true rfl⟩) (fun _ _ _ _ h => h) (fun _ _ _ _ => trivial) hK hP hD hS hA rfl rfl [0] [1] rfl (by decide) rfl (by decide) (by decide) [1, 0] (fun _ => rfl) (by decide) rfl hl.1 rfl (Nat.le_of_ble_eq_true rfl) dX1_put_17 ⟨Nat.zero_le _, Nat.zero_le _⟩ (fun zu1 u1 H locs hu1 hP hD hS => ?_)
  have hP : va_P D vwCl [(h0, .inr (1, [.int (nI 0), .ref a1, .int by0, .int rd, .ref a4, .ref a5, .ref a6, .ref a7, .int (nI sz0), .ref a9, .ref a10, .ref a11, .ref a12])), (a7, .inl (cI, 256, .inl f))] H := hP
  have hD : va_D A [(h0, .inr (1, [.int (nI 0), .ref a1, .int by0, .int rd, .ref a4, .ref a5, .ref a6, .ref a7, .int (nI sz0), .ref a9, .ref a10, .ref a11, .ref a12])), (a7, .inl (cI, 256, .inl f))] := hD
  refine wk_i (y := nI 1) hu1 ?_
  refine wk_ne0N (tgt := 25) hx hb (a := 1) (by decide) dX1_put_20 (by decide) (fun c20 => ?_) (fun c20 => absurd c20 (by decide))
  refine lv_aload_n hx hb dX1_put_25 rfl (lv_at hl 0 rfl) ?_
  refine va_get (D := D) (ci := 1) (v := .ref a7) (C := RX1) (T := TX1) (N := 13) hx hb hts hinX1 hown hK hP 0 rfl rfl 7 (by decide) (hts (.fieldLink RX1 22 "SlicedCipherModel" "tape" "[I") (by decide +kernel)) (fun _ h9 => h9) rfl dX1_put_26 ?_
  refine lv_aload_n hx hb dX1_put_29 rfl (lv_at hl 0 rfl) ?_
  refine va_get (D := D) (ci := 1) (v := .int (nI sz0)) (C := RX1) (T := TX1) (N := 13) hx hb hts hinX1 hown hK hP 0 rfl rfl 8 (by decide) (hts (.fieldLink RX1 37 "SlicedCipherModel" "size" "I") (by decide +kernel)) (fun _ h9 => h9) rfl dX1_put_30 ?_
  refine lv_iload_n hx hb dX1_put_33 rfl (lv_at hl 1 rfl) ?_
  refine wk_iast hx hb hK hP hD hS 1 0 rfl rfl (k := sz0) (x := xa) (by omega) (by decide) dX1_put_34 (fun H locs hP hD hS => ?_)
  have hP : va_P D vwCl [(h0, .inr (1, [.int (nI 0), .ref a1, .int by0, .int rd, .ref a4, .ref a5, .ref a6, .ref a7, .int (nI sz0), .ref a9, .ref a10, .ref a11, .ref a12])), (a7, .inl (cI, 256, .inl (upd f sz0 xa)))] H := hP
  have hD : va_D A [(h0, .inr (1, [.int (nI 0), .ref a1, .int by0, .int rd, .ref a4, .ref a5, .ref a6, .ref a7, .int (nI sz0), .ref a9, .ref a10, .ref a11, .ref a12])), (a7, .inl (cI, 256, .inl (upd f sz0 xa)))] := hD
  refine lv_aload_n hx hb dX1_put_35 rfl (lv_at hl 0 rfl) ?_
  refine va_get (D := D) (ci := 1) (v := .ref a7) (C := RX1) (T := TX1) (N := 13) hx hb hts hinX1 hown hK hP 0 rfl rfl 7 (by decide) (hts (.fieldLink RX1 22 "SlicedCipherModel" "tape" "[I") (by decide +kernel)) (fun _ h9 => h9) rfl dX1_put_36 ?_
  refine lv_aload_n hx hb dX1_put_39 rfl (lv_at hl 0 rfl) ?_
  refine va_get (D := D) (ci := 1) (v := .int (nI sz0)) (C := RX1) (T := TX1) (N := 13) hx hb hts hinX1 hown hK hP 0 rfl rfl 8 (by decide) (hts (.fieldLink RX1 37 "SlicedCipherModel" "size" "I") (by decide +kernel)) (fun _ h9 => h9) rfl dX1_put_40 ?_
  refine lv_iconst (v := nI 1) hx hb dX1_put_43 (by decide) ?_
  refine wk_iaddN hx hb (a := sz0) (b := 1) dX1_put_44 ?_
  refine lv_iload_n hx hb dX1_put_45 rfl (lv_at hl 2 rfl) ?_
  refine wk_iast hx hb hK hP hD hS 1 0 rfl rfl (k := sz0 + 1) (x := xb) (by omega) (by decide) dX1_put_46 (fun H locs hP hD hS => ?_)
  have hP : va_P D vwCl [(h0, .inr (1, [.int (nI 0), .ref a1, .int by0, .int rd, .ref a4, .ref a5, .ref a6, .ref a7, .int (nI sz0), .ref a9, .ref a10, .ref a11, .ref a12])), (a7, .inl (cI, 256, .inl (upd (upd f sz0 xa) (sz0 + 1) xb)))] H := hP
  have hD : va_D A [(h0, .inr (1, [.int (nI 0), .ref a1, .int by0, .int rd, .ref a4, .ref a5, .ref a6, .ref a7, .int (nI sz0), .ref a9, .ref a10, .ref a11, .ref a12])), (a7, .inl (cI, 256, .inl (upd (upd f sz0 xa) (sz0 + 1) xb)))] := hD
  refine lv_aload_n hx hb dX1_put_47 rfl (lv_at hl 0 rfl) ?_
  refine va_get (D := D) (ci := 1) (v := .ref a7) (C := RX1) (T := TX1) (N := 13) hx hb hts hinX1 hown hK hP 0 rfl rfl 7 (by decide) (hts (.fieldLink RX1 22 "SlicedCipherModel" "tape" "[I") (by decide +kernel)) (fun _ h9 => h9) rfl dX1_put_48 ?_
  refine lv_aload_n hx hb dX1_put_51 rfl (lv_at hl 0 rfl) ?_
  refine va_get (D := D) (ci := 1) (v := .int (nI sz0)) (C := RX1) (T := TX1) (N := 13) hx hb hts hinX1 hown hK hP 0 rfl rfl 8 (by decide) (hts (.fieldLink RX1 37 "SlicedCipherModel" "size" "I") (by decide +kernel)) (fun _ h9 => h9) rfl dX1_put_52 ?_
  refine lv_iconst (v := nI 2) hx hb dX1_put_55 (by decide) ?_
  refine wk_iaddN hx hb (a := sz0) (b := 2) dX1_put_56 ?_
  refine lv_iload_n hx hb dX1_put_57 rfl (lv_at hl 3 rfl) ?_
  refine wk_iast hx hb hK hP hD hS 1 0 rfl rfl (k := sz0 + 2) (x := xc) (by omega) (by decide) dX1_put_58 (fun H locs hP hD hS => ?_)
  have hP : va_P D vwCl [(h0, .inr (1, [.int (nI 0), .ref a1, .int by0, .int rd, .ref a4, .ref a5, .ref a6, .ref a7, .int (nI sz0), .ref a9, .ref a10, .ref a11, .ref a12])), (a7, .inl (cI, 256, .inl (upd (upd (upd f sz0 xa) (sz0 + 1) xb) (sz0 + 2) xc)))] H := hP
  have hD : va_D A [(h0, .inr (1, [.int (nI 0), .ref a1, .int by0, .int rd, .ref a4, .ref a5, .ref a6, .ref a7, .int (nI sz0), .ref a9, .ref a10, .ref a11, .ref a12])), (a7, .inl (cI, 256, .inl (upd (upd (upd f sz0 xa) (sz0 + 1) xb) (sz0 + 2) xc)))] := hD
  refine lv_aload_n hx hb dX1_put_59 rfl (lv_at hl 0 rfl) ?_
  refine va_get (D := D) (ci := 1) (v := .ref a7) (C := RX1) (T := TX1) (N := 13) hx hb hts hinX1 hown hK hP 0 rfl rfl 7 (by decide) (hts (.fieldLink RX1 22 "SlicedCipherModel" "tape" "[I") (by decide +kernel)) (fun _ h9 => h9) rfl dX1_put_60 ?_
  refine lv_aload_n hx hb dX1_put_63 rfl (lv_at hl 0 rfl) ?_
  refine va_get (D := D) (ci := 1) (v := .int (nI sz0)) (C := RX1) (T := TX1) (N := 13) hx hb hts hinX1 hown hK hP 0 rfl rfl 8 (by decide) (hts (.fieldLink RX1 37 "SlicedCipherModel" "size" "I") (by decide +kernel)) (fun _ h9 => h9) rfl dX1_put_64 ?_
  refine lv_iconst (v := nI 3) hx hb dX1_put_67 (by decide) ?_
  refine wk_iaddN hx hb (a := sz0) (b := 3) dX1_put_68 ?_
  refine lv_iload hx hb dX1_put_69 (lv_at hl 4 rfl) ?_
  refine wk_iast hx hb hK hP hD hS 1 0 rfl rfl (k := sz0 + 3) (x := xd) (by omega) (by decide) dX1_put_71 (fun H locs hP hD hS => ?_)
  have hP : va_P D vwCl [(h0, .inr (1, [.int (nI 0), .ref a1, .int by0, .int rd, .ref a4, .ref a5, .ref a6, .ref a7, .int (nI sz0), .ref a9, .ref a10, .ref a11, .ref a12])), (a7, .inl (cI, 256, .inl (upd (upd (upd (upd f sz0 xa) (sz0 + 1) xb) (sz0 + 2) xc) (sz0 + 3) xd)))] H := hP
  have hD : va_D A [(h0, .inr (1, [.int (nI 0), .ref a1, .int by0, .int rd, .ref a4, .ref a5, .ref a6, .ref a7, .int (nI sz0), .ref a9, .ref a10, .ref a11, .ref a12])), (a7, .inl (cI, 256, .inl (upd (upd (upd (upd f sz0 xa) (sz0 + 1) xb) (sz0 + 2) xc) (sz0 + 3) xd)))] := hD
  refine lv_aload_n hx hb dX1_put_72 rfl (lv_at hl 0 rfl) ?_
  refine lv_aload_n hx hb dX1_put_73 rfl (lv_at hl 0 rfl) ?_
  refine va_get (D := D) (ci := 1) (v := .int (nI sz0)) (C := RX1) (T := TX1) (N := 13) hx hb hts hinX1 hown hK hP 0 rfl rfl 8 (by decide) (hts (.fieldLink RX1 37 "SlicedCipherModel" "size" "I") (by decide +kernel)) (fun _ h9 => h9) rfl dX1_put_74 ?_
  refine lv_iconst (v := nI 4) hx hb dX1_put_77 (by decide) ?_
  refine wk_iaddN hx hb (a := sz0) (b := 4) dX1_put_78 ?_
  refine va_put (D := D) (ci := 1) (v := .int (nI (sz0 + 4))) (ty := .int) (C := RX1) (T := TX1) (N := 13) hx hb hts hinX1 tyX1 tyX1_ok nmX1 hown hK hP hD hS 0 rfl rfl 8 (by decide) (hts (.fieldLink RX1 37 "SlicedCipherModel" "size" "I") (by decide +kernel)) (fun _ h9 => h9) rfl (by decide +kernel) rfl rfl (Nat.le_of_ble_eq_true rfl) dX1_put_79 (fun H locs hP hD hS => ?_)
  have hP : va_P D vwCl [(h0, .inr (1, [.int (nI 0), .ref a1, .int by0, .int rd, .ref a4, .ref a5, .ref a6, .ref a7, .int (nI (sz0 + 4)), .ref a9, .ref a10, .ref a11, .ref a12])), (a7, .inl (cI, 256, .inl (upd (upd (upd (upd f sz0 xa) (sz0 + 1) xb) (sz0 + 2) xc) (sz0 + 3) xd)))] H := hP
  have hD : va_D A [(h0, .inr (1, [.int (nI 0), .ref a1, .int by0, .int rd, .ref a4, .ref a5, .ref a6, .ref a7, .int (nI (sz0 + 4)), .ref a9, .ref a10, .ref a11, .ref a12])), (a7, .inl (cI, 256, .inl (upd (upd (upd (upd f sz0 xa) (sz0 + 1) xb) (sz0 + 2) xc) (sz0 + 3) xd)))] := hD
  refine lv_aload_n hx hb dX1_put_82 rfl (lv_at hl 0 rfl) ?_
  refine va_get (D := D) (ci := 1) (v := .int (nI (sz0 + 4))) (C := RX1) (T := TX1) (N := 13) hx hb hts hinX1 hown hK hP 0 rfl rfl 8 (by decide) (hts (.fieldLink RX1 37 "SlicedCipherModel" "size" "I") (by decide +kernel)) (fun _ h9 => h9) rfl dX1_put_83 ?_
  exact W.iret (v := nI (sz0 + 4)) hx hb hr (fun t ht hW => ⟨⟨_, (fun _ _ => 0), rfl, rfl, by rw [ht]; exact hP, va_K.moved hW.alike hK, hD⟩, hS.F ht⟩) hS.2.2 dX1_put_86
set_option maxHeartbeats 4000000 in
set_option maxRecDepth 100000 in
theorem c_X1_put0 (l : Launch) (D : va_G) (cI : ClassId) (sz : Nat) (h0 a1 a4 a5 a6 a7 a9 a10 a11 a12 : Nat) (th by0 rd : Int32) (sz0 : Nat) (xa xb xc xd : Int32) (hz : 252 < sz0) (hz2 : sz0 ≤ 256) : Met l yX1_put wsX1_put ({ frames := 1, cells := 0, slots := 0, locals := 22 }) (va_Pc [.ref h0, .int xa, .int xb, .int xc, .int xd] (fun U => PW D [(cI, .int)] [(h0, .inr (1, [.int th, .ref a1, .int by0, .int rd, .ref a4, .ref a5, .ref a6, .ref a7, .int (nI sz0), .ref a9, .ref a10, .ref a11, .ref a12]))] sz U ∧ True)) (va_Qi (fun r9 (u : Nat → Nat → Int32) => r9 = nI 0) (fun u => BW D [(cI, .int)] (va_A [(h0, .inr (1, [.int th, .ref a1, .int by0, .int rd, .ref a4, .ref a5, .ref a6, .ref a7, .int (nI sz0), .ref a9, .ref a10, .ref a11, .ref a12]))] sz) [(h0, .inr (1, [.int (nI 1), .ref a1, .int by0, .int rd, .ref a4, .ref a5, .ref a6, .ref a7, .int (nI sz0), .ref a9, .ref a10, .ref a11, .ref a12]))]) (va_A [(h0, .inr (1, [.int th, .ref a1, .int by0, .int rd, .ref a4, .ref a5, .ref a6, .ref a7, .int (nI sz0), .ref a9, .ref a10, .ref a11, .ref a12]))] sz)) 0 0 (va_A [(h0, .inr (1, [.int th, .ref a1, .int by0, .int rd, .ref a4, .ref a5, .ref a6, .ref a7, .int (nI sz0), .ref a9, .ref a10, .ref a11, .ref a12]))] sz) := by
  refine Met.ofW (cc := cX1_put) (maxL := 5) (ret := (some .int)) (by decide) rfl ?_
  intro p e s m args below meth c s₁ B hml hv
  obtain ⟨rfl, ⟨hsz, hP, hK, hD0⟩, -⟩ := hv
  have hx := B.exec
  have hb := B.bytes
  have hr := B.returns
  have hts := atoms_spec (ws := wsX1_put) B.pre
  have hown : s.vm.findClass RX1 = some m.cls := findClass_of_methodNamed B.named
  have hlocks := B.notSynchronized
  subst hsz
  have hD := hD0.self (sz := s.heap.size)
  have hinX1 := in_X1_put
  generalize hAe : va_A [(h0, .inr (1, [.int th, .ref a1, .int by0, .int rd, .ref a4, .ref a5, .ref a6, .ref a7, .int (nI sz0), .ref a9, .ref a10, .ref a11, .ref a12]))] s.heap.size = A at hD ⊢
  have hA : ∀ q : Nat, s.heap.size ≤ q → A q := fun q h => by rw [← hAe]; exact Or.inr h
  have hS : va_S A s.heap s.heap [] := va_S.rf
  have hl := lv_entry ([.ref h0, .int xa, .int xb, .int xc, .int xd]) (n := 5) (Nat.le_of_ble_eq_true rfl)
  rw [lg_entry_eq]
  generalize (lg_sl ([.ref h0, .int xa, .int xb, .int xc, .int xd]) ++ List.replicate (5 - (lg_sl ([.ref h0, .int xa, .int xb, .int xc, .int xd])).length) Slot.unset).toArray = ls at hl ⊢
  have hl : lv_has ls 5 [(0, .ref h0), (1, .int xa), (2, .int xb), (3, .int xc), (4, .int xd)] := hl
  refine lv_aload_n hx hb dX1_put_0 rfl (lv_at hl 0 rfl) ?_
  refine lv_aload_n hx hb dX1_put_1 rfl (lv_at hl 0 rfl) ?_
  refine va_get (D := D) (ci := 1) (v := .int (nI sz0)) (C := RX1) (T := TX1) (N := 13) hx hb hts hinX1 hown hK hP 0 rfl rfl 8 (by decide) (hts (.fieldLink RX1 37 "SlicedCipherModel" "size" "I") (by decide +kernel)) (fun _ h9 => h9) rfl dX1_put_2 ?_
  refine lv_sipush (v := nI 252) hx hb dX1_put_5 (by decide) ?_
  refine wk_gtN (tgt := 15) hx hb (a := sz0) (b := 252) (by omega) (by decide) dX1_put_8 (by decide) (fun c8 => ?_) (fun c8 => absurd c8 (by omega))
  refine lv_iconst (v := nI 0) hx hb dX1_put_15 (by decide) ?_
  refine lv_iconst (v := nI 1) hx hb dX1_put_16 (by decide) ?_
  refine wk_VI (b := h0) (As := [.int (nI 0), .int (nI 1)]) (rest := []) (wc := [(h0, .inr (1, [.int th, .ref a1, .int by0, .int rd, .ref a4, .ref a5, .ref a6, .ref a7, .int (nI sz0), .ref a9, .ref a10, .ref a11, .ref a12]))]) (wr := []) (w1 := fun (u1 : Nat → Nat → Int32) => [(h0, .inr (1, [.int (nI 1), .ref a1, .int by0, .int rd, .ref a4, .ref a5, .ref a6, .ref a7, .int (nI sz0), .ref a9, .ref a10, .ref a11, .ref a12]))]) (w2 := fun (u1 : Nat → Nat → Int32) => [(h0, .inr (1, [.int (nI 1), .ref a1, .int by0, .int rd, .ref a4, .ref a5, .ref a6, .ref a7, .int (nI sz0), .ref a9, .ref a10, .ref a11, .ref a12]))]) (ci := 1) (q0 := 0) ⟨hx, hb, hml, hown, hts⟩ (c_X1_good1 l D cI _ h0 a1 a4 a5 a6 a7 a9 a10 a11 a12 th by0 rd (nI sz0) (nI 1)) (cwV 2 hts gX1_put_X1_good rfl rfl rfl (by decide +kernel) ⟨Nat.le_of_ble_eq_true rfl, Nat.le_of_ble_eq_true rfl⟩) (fun _ _ _ _ h => h) (fun _ _ _ _ => trivial) hK hP hD hS hA rfl rfl [0] [] rfl (by decide) rfl (by decide) (by decide) [0] (fun _ => rfl) (by decide) rfl hl.1 rfl (Nat.le_of_ble_eq_true rfl) dX1_put_17 ⟨Nat.zero_le _, Nat.zero_le _⟩ (fun zu1 u1 H locs hu1 hP hD hS => ?_)
  have hP : va_P D vwCl [(h0, .inr (1, [.int (nI 1), .ref a1, .int by0, .int rd, .ref a4, .ref a5, .ref a6, .ref a7, .int (nI sz0), .ref a9, .ref a10, .ref a11, .ref a12]))] H := hP
  have hD : va_D A [(h0, .inr (1, [.int (nI 1), .ref a1, .int by0, .int rd, .ref a4, .ref a5, .ref a6, .ref a7, .int (nI sz0), .ref a9, .ref a10, .ref a11, .ref a12]))] := hD
  refine wk_i (y := nI 0) hu1 ?_
  refine wk_ne0N (tgt := 25) hx hb (a := 0) (by decide) dX1_put_20 (by decide) (fun c20 => absurd c20 (fun h => h rfl)) (fun c20 => ?_)
  refine lv_iconst (v := nI 0) hx hb dX1_put_23 (by decide) ?_
  exact W.iret (v := nI 0) hx hb hr (fun t ht hW => ⟨⟨_, (fun _ _ => 0), rfl, rfl, by rw [ht]; exact hP, va_K.moved hW.alike hK, hD⟩, hS.F ht⟩) hS.2.2 dX1_put_24
set_option maxRecDepth 100000 in
theorem in_X1_cut : ∀ w ∈ wsX10, w ∈ wsX1_cut := by decide +kernel
set_option maxHeartbeats 4000000 in
set_option maxRecDepth 100000 in
theorem c_X1_cut1 (l : Launch) (D : va_G) (cI : ClassId) (sz : Nat) (h0 a1 a4 a5 a6 a7 a9 a10 a11 a12 : Nat) (th by0 rd : Int32) (sz0 k : Nat) (hz : sz0 ≤ 256) (hk : k ≤ sz0) : Met l yX1_cut wsX1_cut ({ frames := 1, cells := 0, slots := 0, locals := 22 }) (va_Pc [.ref h0, .int (nI k)] (fun U => PW D [(cI, .int)] [(h0, .inr (1, [.int th, .ref a1, .int by0, .int rd, .ref a4, .ref a5, .ref a6, .ref a7, .int (nI sz0), .ref a9, .ref a10, .ref a11, .ref a12]))] sz U ∧ True)) (va_Qi (fun r9 (u : Nat → Nat → Int32) => r9 = nI k) (fun u => BW D [(cI, .int)] (va_A [(h0, .inr (1, [.int th, .ref a1, .int by0, .int rd, .ref a4, .ref a5, .ref a6, .ref a7, .int (nI sz0), .ref a9, .ref a10, .ref a11, .ref a12]))] sz) [(h0, .inr (1, [.int (nI 0), .ref a1, .int by0, .int rd, .ref a4, .ref a5, .ref a6, .ref a7, .int (nI k), .ref a9, .ref a10, .ref a11, .ref a12]))]) (va_A [(h0, .inr (1, [.int th, .ref a1, .int by0, .int rd, .ref a4, .ref a5, .ref a6, .ref a7, .int (nI sz0), .ref a9, .ref a10, .ref a11, .ref a12]))] sz)) 0 0 (va_A [(h0, .inr (1, [.int th, .ref a1, .int by0, .int rd, .ref a4, .ref a5, .ref a6, .ref a7, .int (nI sz0), .ref a9, .ref a10, .ref a11, .ref a12]))] sz) := by
  refine Met.ofW (cc := cX1_cut) (maxL := 2) (ret := (some .int)) (by decide) rfl ?_
  intro p e s m args below meth c s₁ B hml hv
  obtain ⟨rfl, ⟨hsz, hP, hK, hD0⟩, -⟩ := hv
  have hx := B.exec
  have hb := B.bytes
  have hr := B.returns
  have hts := atoms_spec (ws := wsX1_cut) B.pre
  have hown : s.vm.findClass RX1 = some m.cls := findClass_of_methodNamed B.named
  have hlocks := B.notSynchronized
  subst hsz
  have hD := hD0.self (sz := s.heap.size)
  have hinX1 := in_X1_cut
  generalize hAe : va_A [(h0, .inr (1, [.int th, .ref a1, .int by0, .int rd, .ref a4, .ref a5, .ref a6, .ref a7, .int (nI sz0), .ref a9, .ref a10, .ref a11, .ref a12]))] s.heap.size = A at hD ⊢
  have hA : ∀ q : Nat, s.heap.size ≤ q → A q := fun q h => by rw [← hAe]; exact Or.inr h
  have hS : va_S A s.heap s.heap [] := va_S.rf
  have hl := lv_entry ([.ref h0, .int (nI k)]) (n := 2) (Nat.le_of_ble_eq_true rfl)
  rw [lg_entry_eq]
  generalize (lg_sl ([.ref h0, .int (nI k)]) ++ List.replicate (2 - (lg_sl ([.ref h0, .int (nI k)])).length) Slot.unset).toArray = ls at hl ⊢
  have hl : lv_has ls 2 [(0, .ref h0), (1, .int (nI k))] := hl
  refine lv_aload_n hx hb dX1_cut_0 rfl (lv_at hl 0 rfl) ?_
  refine lv_iload_n hx hb dX1_cut_1 rfl (lv_at hl 1 rfl) ?_
  refine lv_iconst (v := nI 0) hx hb dX1_cut_2 (by decide) ?_
  refine lv_aload_n hx hb dX1_cut_3 rfl (lv_at hl 0 rfl) ?_
  refine va_get (D := D) (ci := 1) (v := .int (nI sz0)) (C := RX1) (T := TX1) (N := 13) hx hb hts hinX1 hown hK hP 0 rfl rfl 8 (by decide) (hts (.fieldLink RX1 37 "SlicedCipherModel" "size" "I") (by decide +kernel)) (fun _ h9 => h9) rfl dX1_cut_4 ?_
  refine wk_Sp (v := nI 1) (As := [.int (nI k), .int (nI 0), .int (nI sz0)]) (rest := [.ref h0]) ⟨hx, hb, hml, hown, hts⟩ (c_X1_isIn1 l (nI k) (nI 0) (nI sz0) (nI_pos (by omega)) (nI_nlt (by omega) (by omega))) (va_cwS 3 hts gX1_cut_X1_isIn rfl rfl rfl (by decide +kernel) ⟨Nat.le_of_ble_eq_true rfl, Nat.le_of_ble_eq_true rfl⟩) rfl hl.1 rfl (Nat.le_of_ble_eq_true rfl) dX1_cut_7 ⟨Nat.zero_le _, Nat.zero_le _⟩ ?_
  refine lv_iconst (v := nI 1) hx hb dX1_cut_10 (by decide) ?_
  refine wk_VI (b := h0) (As := [.int (nI 1), .int (nI 1)]) (rest := []) (wc := [(h0, .inr (1, [.int th, .ref a1, .int by0, .int rd, .ref a4, .ref a5, .ref a6, .ref a7, .int (nI sz0), .ref a9, .ref a10, .ref a11, .ref a12]))]) (wr := []) (w1 := fun (u1 : Nat → Nat → Int32) => [(h0, .inr (1, [.int (nI 0), .ref a1, .int by0, .int rd, .ref a4, .ref a5, .ref a6, .ref a7, .int (nI sz0), .ref a9, .ref a10, .ref a11, .ref a12]))]) (w2 := fun (u1 : Nat → Nat → Int32) => [(h0, .inr (1, [.int (nI 0), .ref a1, .int by0, .int rd, .ref a4, .ref a5, .ref a6, .ref a7, .int (nI sz0), .ref a9, .ref a10, .ref a11, .ref a12]))]) (ci := 1) (q0 := 0) ⟨hx, hb, hml, hown, hts⟩ (c_X1_good0 l D cI _ h0 a1 a4 a5 a6 a7 a9 a10 a11 a12 th by0 rd (nI sz0)) (cwV 2 hts gX1_cut_X1_good rfl rfl rfl (by decide +kernel) ⟨Nat.le_of_ble_eq_true rfl, Nat.le_of_ble_eq_true rfl⟩) (fun _ _ _ _ h => h) (fun _ _ _ _ => trivial) hK hP hD hS hA rfl rfl [0] [] rfl (by decide) rfl (by decide) (by decide) [0] (fun _ => rfl) (by decide) rfl hl.1 rfl (Nat.le_of_ble_eq_true rfl) dX1_cut_11 ⟨Nat.zero_le _, Nat.zero_le _⟩ (fun zu1 u1 H locs hu1 hP hD hS => ?_)
  have hP : va_P D vwCl [(h0, .inr (1, [.int (nI 0), .ref a1, .int by0, .int rd, .ref a4, .ref a5, .ref a6, .ref a7, .int (nI sz0), .ref a9, .ref a10, .ref a11, .ref a12]))] H := hP
  have hD : va_D A [(h0, .inr (1, [.int (nI 0), .ref a1, .int by0, .int rd, .ref a4, .ref a5, .ref a6, .ref a7, .int (nI sz0), .ref a9, .ref a10, .ref a11, .ref a12]))] := hD
  refine wk_i (y := nI 1) hu1 ?_
  refine wk_ne0N (tgt := 19) hx hb (a := 1) (by decide) dX1_cut_14 (by decide) (fun c14 => ?_) (fun c14 => absurd c14 (by decide))
  refine lv_aload_n hx hb dX1_cut_19 rfl (lv_at hl 0 rfl) ?_
  refine lv_iload_n hx hb dX1_cut_20 rfl (lv_at hl 1 rfl) ?_
  refine va_put (D := D) (ci := 1) (v := .int (nI k)) (ty := .int) (C := RX1) (T := TX1) (N := 13) hx hb hts hinX1 tyX1 tyX1_ok nmX1 hown hK hP hD hS 0 rfl rfl 8 (by decide) (hts (.fieldLink RX1 37 "SlicedCipherModel" "size" "I") (by decide +kernel)) (fun _ h9 => h9) rfl (by decide +kernel) rfl rfl (Nat.le_of_ble_eq_true rfl) dX1_cut_21 (fun H locs hP hD hS => ?_)
  have hP : va_P D vwCl [(h0, .inr (1, [.int (nI 0), .ref a1, .int by0, .int rd, .ref a4, .ref a5, .ref a6, .ref a7, .int (nI k), .ref a9, .ref a10, .ref a11, .ref a12]))] H := hP
  have hD : va_D A [(h0, .inr (1, [.int (nI 0), .ref a1, .int by0, .int rd, .ref a4, .ref a5, .ref a6, .ref a7, .int (nI k), .ref a9, .ref a10, .ref a11, .ref a12]))] := hD
  refine lv_iload_n hx hb dX1_cut_24 rfl (lv_at hl 1 rfl) ?_
  exact W.iret (v := nI k) hx hb hr (fun t ht hW => ⟨⟨_, (fun _ _ => 0), rfl, rfl, by rw [ht]; exact hP, va_K.moved hW.alike hK, hD⟩, hS.F ht⟩) hS.2.2 dX1_cut_25
set_option maxHeartbeats 4000000 in
set_option maxRecDepth 100000 in
theorem c_X1_cut0 (l : Launch) (D : va_G) (cI : ClassId) (sz : Nat) (h0 a1 a4 a5 a6 a7 a9 a10 a11 a12 : Nat) (th by0 rd : Int32) (sz0 : Nat) (i : Int32) (hbad : i < nI 0 ∨ (¬ i < nI 0 ∧ nI sz0 < i)) : Met l yX1_cut wsX1_cut ({ frames := 1, cells := 0, slots := 0, locals := 22 }) (va_Pc [.ref h0, .int i] (fun U => PW D [(cI, .int)] [(h0, .inr (1, [.int th, .ref a1, .int by0, .int rd, .ref a4, .ref a5, .ref a6, .ref a7, .int (nI sz0), .ref a9, .ref a10, .ref a11, .ref a12]))] sz U ∧ True)) (va_Qi (fun r9 (u : Nat → Nat → Int32) => r9 = nI 0) (fun u => BW D [(cI, .int)] (va_A [(h0, .inr (1, [.int th, .ref a1, .int by0, .int rd, .ref a4, .ref a5, .ref a6, .ref a7, .int (nI sz0), .ref a9, .ref a10, .ref a11, .ref a12]))] sz) [(h0, .inr (1, [.int (nI 1), .ref a1, .int by0, .int rd, .ref a4, .ref a5, .ref a6, .ref a7, .int (nI sz0), .ref a9, .ref a10, .ref a11, .ref a12]))]) (va_A [(h0, .inr (1, [.int th, .ref a1, .int by0, .int rd, .ref a4, .ref a5, .ref a6, .ref a7, .int (nI sz0), .ref a9, .ref a10, .ref a11, .ref a12]))] sz)) 0 0 (va_A [(h0, .inr (1, [.int th, .ref a1, .int by0, .int rd, .ref a4, .ref a5, .ref a6, .ref a7, .int (nI sz0), .ref a9, .ref a10, .ref a11, .ref a12]))] sz) := by
  refine Met.ofW (cc := cX1_cut) (maxL := 2) (ret := (some .int)) (by decide) rfl ?_
  intro p e s m args below meth c s₁ B hml hv
  obtain ⟨rfl, ⟨hsz, hP, hK, hD0⟩, -⟩ := hv
  have hx := B.exec
  have hb := B.bytes
  have hr := B.returns
  have hts := atoms_spec (ws := wsX1_cut) B.pre
  have hown : s.vm.findClass RX1 = some m.cls := findClass_of_methodNamed B.named
  have hlocks := B.notSynchronized
  subst hsz
  have hD := hD0.self (sz := s.heap.size)
  have hinX1 := in_X1_cut
  generalize hAe : va_A [(h0, .inr (1, [.int th, .ref a1, .int by0, .int rd, .ref a4, .ref a5, .ref a6, .ref a7, .int (nI sz0), .ref a9, .ref a10, .ref a11, .ref a12]))] s.heap.size = A at hD ⊢
  have hA : ∀ q : Nat, s.heap.size ≤ q → A q := fun q h => by rw [← hAe]; exact Or.inr h
  have hS : va_S A s.heap s.heap [] := va_S.rf
  have hl := lv_entry ([.ref h0, .int i]) (n := 2) (Nat.le_of_ble_eq_true rfl)
  rw [lg_entry_eq]
  generalize (lg_sl ([.ref h0, .int i]) ++ List.replicate (2 - (lg_sl ([.ref h0, .int i])).length) Slot.unset).toArray = ls at hl ⊢
  have hl : lv_has ls 2 [(0, .ref h0), (1, .int i)] := hl
  refine lv_aload_n hx hb dX1_cut_0 rfl (lv_at hl 0 rfl) ?_
  refine lv_iload_n hx hb dX1_cut_1 rfl (lv_at hl 1 rfl) ?_
  refine lv_iconst (v := nI 0) hx hb dX1_cut_2 (by decide) ?_
  refine lv_aload_n hx hb dX1_cut_3 rfl (lv_at hl 0 rfl) ?_
  refine va_get (D := D) (ci := 1) (v := .int (nI sz0)) (C := RX1) (T := TX1) (N := 13) hx hb hts hinX1 hown hK hP 0 rfl rfl 8 (by decide) (hts (.fieldLink RX1 37 "SlicedCipherModel" "size" "I") (by decide +kernel)) (fun _ h9 => h9) rfl dX1_cut_4 ?_
  refine wk_Sp (v := nI 0) (As := [.int i, .int (nI 0), .int (nI sz0)]) (rest := [.ref h0]) ⟨hx, hb, hml, hown, hts⟩ (c_X1_isIn0 l i (nI 0) (nI sz0) (hbad)) (va_cwS 3 hts gX1_cut_X1_isIn rfl rfl rfl (by decide +kernel) ⟨Nat.le_of_ble_eq_true rfl, Nat.le_of_ble_eq_true rfl⟩) rfl hl.1 rfl (Nat.le_of_ble_eq_true rfl) dX1_cut_7 ⟨Nat.zero_le _, Nat.zero_le _⟩ ?_
  refine lv_iconst (v := nI 1) hx hb dX1_cut_10 (by decide) ?_
  refine wk_VI (b := h0) (As := [.int (nI 0), .int (nI 1)]) (rest := []) (wc := [(h0, .inr (1, [.int th, .ref a1, .int by0, .int rd, .ref a4, .ref a5, .ref a6, .ref a7, .int (nI sz0), .ref a9, .ref a10, .ref a11, .ref a12]))]) (wr := []) (w1 := fun (u1 : Nat → Nat → Int32) => [(h0, .inr (1, [.int (nI 1), .ref a1, .int by0, .int rd, .ref a4, .ref a5, .ref a6, .ref a7, .int (nI sz0), .ref a9, .ref a10, .ref a11, .ref a12]))]) (w2 := fun (u1 : Nat → Nat → Int32) => [(h0, .inr (1, [.int (nI 1), .ref a1, .int by0, .int rd, .ref a4, .ref a5, .ref a6, .ref a7, .int (nI sz0), .ref a9, .ref a10, .ref a11, .ref a12]))]) (ci := 1) (q0 := 0) ⟨hx, hb, hml, hown, hts⟩ (c_X1_good1 l D cI _ h0 a1 a4 a5 a6 a7 a9 a10 a11 a12 th by0 rd (nI sz0) (nI 1)) (cwV 2 hts gX1_cut_X1_good rfl rfl rfl (by decide +kernel) ⟨Nat.le_of_ble_eq_true rfl, Nat.le_of_ble_eq_true rfl⟩) (fun _ _ _ _ h => h) (fun _ _ _ _ => trivial) hK hP hD hS hA rfl rfl [0] [] rfl (by decide) rfl (by decide) (by decide) [0] (fun _ => rfl) (by decide) rfl hl.1 rfl (Nat.le_of_ble_eq_true rfl) dX1_cut_11 ⟨Nat.zero_le _, Nat.zero_le _⟩ (fun zu1 u1 H locs hu1 hP hD hS => ?_)
  have hP : va_P D vwCl [(h0, .inr (1, [.int (nI 1), .ref a1, .int by0, .int rd, .ref a4, .ref a5, .ref a6, .ref a7, .int (nI sz0), .ref a9, .ref a10, .ref a11, .ref a12]))] H := hP
  have hD : va_D A [(h0, .inr (1, [.int (nI 1), .ref a1, .int by0, .int rd, .ref a4, .ref a5, .ref a6, .ref a7, .int (nI sz0), .ref a9, .ref a10, .ref a11, .ref a12]))] := hD
  refine wk_i (y := nI 0) hu1 ?_
  refine wk_ne0N (tgt := 19) hx hb (a := 0) (by decide) dX1_cut_14 (by decide) (fun c14 => absurd c14 (fun h => h rfl)) (fun c14 => ?_)
  refine lv_iconst (v := nI 0) hx hb dX1_cut_17 (by decide) ?_
  exact W.iret (v := nI 0) hx hb hr (fun t ht hW => ⟨⟨_, (fun _ _ => 0), rfl, rfl, by rw [ht]; exact hP, va_K.moved hW.alike hK, hD⟩, hS.F ht⟩) hS.2.2 dX1_cut_18
set_option maxRecDepth 100000 in
theorem in_X1_word : ∀ w ∈ wsX10, w ∈ wsX1_word := by decide +kernel
set_option maxHeartbeats 4000000 in
set_option maxRecDepth 100000 in
theorem c_X1_word1 (l : Launch) (D : va_G) (cI : ClassId) (sz : Nat) (h0 a1 a4 a5 a6 a7 a9 a10 a11 a12 : Nat) (th by0 rd : Int32) (sz0 k : Nat) (f : Nat → Int32) (hz : sz0 ≤ 256) (hk : k < sz0) : Met l yX1_word wsX1_word ({ frames := 1, cells := 0, slots := 0, locals := 22 }) (va_Pc [.ref h0, .int (nI k)] (fun U => PW D [(cI, .int)] [(h0, .inr (1, [.int th, .ref a1, .int by0, .int rd, .ref a4, .ref a5, .ref a6, .ref a7, .int (nI sz0), .ref a9, .ref a10, .ref a11, .ref a12])), (a7, .inl (cI, 256, .inl f))] sz U ∧ True)) (va_Qi (fun r9 (u : Nat → Nat → Int32) => r9 = f k) (fun u => BW D [(cI, .int)] (va_A [(h0, .inr (1, [.int th, .ref a1, .int by0, .int rd, .ref a4, .ref a5, .ref a6, .ref a7, .int (nI sz0), .ref a9, .ref a10, .ref a11, .ref a12])), (a7, .inl (cI, 256, .inl f))] sz) [(h0, .inr (1, [.int (nI 0), .ref a1, .int by0, .int rd, .ref a4, .ref a5, .ref a6, .ref a7, .int (nI sz0), .ref a9, .ref a10, .ref a11, .ref a12])), (a7, .inl (cI, 256, .inl f))]) (va_A [(h0, .inr (1, [.int th, .ref a1, .int by0, .int rd, .ref a4, .ref a5, .ref a6, .ref a7, .int (nI sz0), .ref a9, .ref a10, .ref a11, .ref a12])), (a7, .inl (cI, 256, .inl f))] sz)) 0 0 (va_A [(h0, .inr (1, [.int th, .ref a1, .int by0, .int rd, .ref a4, .ref a5, .ref a6, .ref a7, .int (nI sz0), .ref a9, .ref a10, .ref a11, .ref a12])), (a7, .inl (cI, 256, .inl f))] sz) := by
  refine Met.ofW (cc := cX1_word) (maxL := 2) (ret := (some .int)) (by decide) rfl ?_
  intro p e s m args below meth c s₁ B hml hv
  obtain ⟨rfl, ⟨hsz, hP, hK, hD0⟩, -⟩ := hv
  have hx := B.exec
  have hb := B.bytes
  have hr := B.returns
  have hts := atoms_spec (ws := wsX1_word) B.pre
  have hown : s.vm.findClass RX1 = some m.cls := findClass_of_methodNamed B.named
  have hlocks := B.notSynchronized
  subst hsz
  have hD := hD0.self (sz := s.heap.size)
  have hinX1 := in_X1_word
  generalize hAe : va_A [(h0, .inr (1, [.int th, .ref a1, .int by0, .int rd, .ref a4, .ref a5, .ref a6, .ref a7, .int (nI sz0), .ref a9, .ref a10, .ref a11, .ref a12])), (a7, .inl (cI, 256, .inl f))] s.heap.size = A at hD ⊢
  have hA : ∀ q : Nat, s.heap.size ≤ q → A q := fun q h => by rw [← hAe]; exact Or.inr h
  have hS : va_S A s.heap s.heap [] := va_S.rf
  have hl := lv_entry ([.ref h0, .int (nI k)]) (n := 2) (Nat.le_of_ble_eq_true rfl)
  rw [lg_entry_eq]
  generalize (lg_sl ([.ref h0, .int (nI k)]) ++ List.replicate (2 - (lg_sl ([.ref h0, .int (nI k)])).length) Slot.unset).toArray = ls at hl ⊢
  have hl : lv_has ls 2 [(0, .ref h0), (1, .int (nI k))] := hl
  refine lv_aload_n hx hb dX1_word_0 rfl (lv_at hl 0 rfl) ?_
  refine lv_iload_n hx hb dX1_word_1 rfl (lv_at hl 1 rfl) ?_
  refine lv_iconst (v := nI 0) hx hb dX1_word_2 (by decide) ?_
  refine lv_aload_n hx hb dX1_word_3 rfl (lv_at hl 0 rfl) ?_
  refine va_get (D := D) (ci := 1) (v := .int (nI sz0)) (C := RX1) (T := TX1) (N := 13) hx hb hts hinX1 hown hK hP 0 rfl rfl 8 (by decide) (hts (.fieldLink RX1 37 "SlicedCipherModel" "size" "I") (by decide +kernel)) (fun _ h9 => h9) rfl dX1_word_4 ?_
  refine lv_iconst (v := nI 1) hx hb dX1_word_7 (by decide) ?_
  refine lv_isub hx hb dX1_word_8 ?_
  refine wk_Sp (v := nI 1) (As := [.int (nI k), .int (nI 0), .int ((nI sz0) - (nI 1))]) (rest := [.ref h0]) ⟨hx, hb, hml, hown, hts⟩ (c_X1_isIn1 l (nI k) (nI 0) ((nI sz0) - (nI 1)) (nI_pos (by omega)) (by rw [pk_sub (by omega)]; exact nI_nlt (by omega) (by omega))) (va_cwS 3 hts gX1_word_X1_isIn rfl rfl rfl (by decide +kernel) ⟨Nat.le_of_ble_eq_true rfl, Nat.le_of_ble_eq_true rfl⟩) rfl hl.1 rfl (Nat.le_of_ble_eq_true rfl) dX1_word_9 ⟨Nat.zero_le _, Nat.zero_le _⟩ ?_
  refine lv_iconst (v := nI 1) hx hb dX1_word_12 (by decide) ?_
  refine wk_VI (b := h0) (As := [.int (nI 1), .int (nI 1)]) (rest := []) (wc := [(h0, .inr (1, [.int th, .ref a1, .int by0, .int rd, .ref a4, .ref a5, .ref a6, .ref a7, .int (nI sz0), .ref a9, .ref a10, .ref a11, .ref a12]))]) (wr := [(a7, .inl (cI, 256, .inl f))]) (w1 := fun (u1 : Nat → Nat → Int32) => [(h0, .inr (1, [.int (nI 0), .ref a1, .int by0, .int rd, .ref a4, .ref a5, .ref a6, .ref a7, .int (nI sz0), .ref a9, .ref a10, .ref a11, .ref a12]))]) (w2 := fun (u1 : Nat → Nat → Int32) => [(h0, .inr (1, [.int (nI 0), .ref a1, .int by0, .int rd, .ref a4, .ref a5, .ref a6, .ref a7, .int (nI sz0), .ref a9, .ref a10, .ref a11, .ref a12])), (a7, .inl (cI, 256, .inl f))]) (ci := 1) (q0 := 0) ⟨hx, hb, hml, hown, hts⟩ (c_X1_good0 l D cI _ h0 a1 a4 a5 a6 a7 a9 a10 a11 a12 th by0 rd (nI sz0)) (cwV 2 hts gX1_word_X1_good rfl rfl rfl (by decide +kernel) ⟨Nat.le_of_ble_eq_true rfl, Nat.le_of_ble_eq_true rfl⟩) (fun _ _ _ _ h => h) (fun _ _ _ _ => trivial) hK hP hD hS hA rfl rfl [0] [1] rfl (by decide) rfl (by decide) (by decide) [1, 0] (fun _ => rfl) (by decide) rfl hl.1 rfl (Nat.le_of_ble_eq_true rfl) dX1_word_13 ⟨Nat.zero_le _, Nat.zero_le _⟩ (fun zu1 u1 H locs hu1 hP hD hS => ?_)
  have hP : va_P D vwCl [(h0, .inr (1, [.int (nI 0), .ref a1, .int by0, .int rd, .ref a4, .ref a5, .ref a6, .ref a7, .int (nI sz0), .ref a9, .ref a10, .ref a11, .ref a12])), (a7, .inl (cI, 256, .inl f))] H := hP
  have hD : va_D A [(h0, .inr (1, [.int (nI 0), .ref a1, .int by0, .int rd, .ref a4, .ref a5, .ref a6, .ref a7, .int (nI sz0), .ref a9, .ref a10, .ref a11, .ref a12])), (a7, .inl (cI, 256, .inl f))] := hD
  refine wk_i (y := nI 1) hu1 ?_
  refine wk_eq0N (tgt := 28) hx hb (a := 1) (by decide) dX1_word_16 (by decide) (fun c16 => absurd c16 (by decide)) (fun c16 => ?_)
  refine lv_aload_n hx hb dX1_word_19 rfl (lv_at hl 0 rfl) ?_
  refine va_get (D := D) (ci := 1) (v := .ref a7) (C := RX1) (T := TX1) (N := 13) hx hb hts hinX1 hown hK hP 0 rfl rfl 7 (by decide) (hts (.fieldLink RX1 22 "SlicedCipherModel" "tape" "[I") (by decide +kernel)) (fun _ h9 => h9) rfl dX1_word_20 ?_
  refine lv_iload_n hx hb dX1_word_23 rfl (lv_at hl 1 rfl) ?_
  refine wk_iald hx hb hK hP 1 0 rfl rfl (k := k) (by omega) (by decide) dX1_word_24 ?_
  refine lv_goto (tgt := 29) hx hb dX1_word_25 (by decide) ?_
  exact W.iret (v := f k) hx hb hr (fun t ht hW => ⟨⟨_, (fun _ _ => 0), rfl, rfl, by rw [ht]; exact hP, va_K.moved hW.alike hK, hD⟩, hS.F ht⟩) hS.2.2 dX1_word_29
set_option maxHeartbeats 4000000 in
set_option maxRecDepth 100000 in
theorem c_X1_word0 (l : Launch) (D : va_G) (cI : ClassId) (sz : Nat) (h0 a1 a4 a5 a6 a7 a9 a10 a11 a12 : Nat) (th by0 rd : Int32) (sz0 : Nat) (i : Int32) (hbad : i < nI 0 ∨ (¬ i < nI 0 ∧ nI sz0 - nI 1 < i)) : Met l yX1_word wsX1_word ({ frames := 1, cells := 0, slots := 0, locals := 22 }) (va_Pc [.ref h0, .int i] (fun U => PW D [(cI, .int)] [(h0, .inr (1, [.int th, .ref a1, .int by0, .int rd, .ref a4, .ref a5, .ref a6, .ref a7, .int (nI sz0), .ref a9, .ref a10, .ref a11, .ref a12]))] sz U ∧ True)) (va_Qi (fun r9 (u : Nat → Nat → Int32) => r9 = nI 0) (fun u => BW D [(cI, .int)] (va_A [(h0, .inr (1, [.int th, .ref a1, .int by0, .int rd, .ref a4, .ref a5, .ref a6, .ref a7, .int (nI sz0), .ref a9, .ref a10, .ref a11, .ref a12]))] sz) [(h0, .inr (1, [.int (nI 1), .ref a1, .int by0, .int rd, .ref a4, .ref a5, .ref a6, .ref a7, .int (nI sz0), .ref a9, .ref a10, .ref a11, .ref a12]))]) (va_A [(h0, .inr (1, [.int th, .ref a1, .int by0, .int rd, .ref a4, .ref a5, .ref a6, .ref a7, .int (nI sz0), .ref a9, .ref a10, .ref a11, .ref a12]))] sz)) 0 0 (va_A [(h0, .inr (1, [.int th, .ref a1, .int by0, .int rd, .ref a4, .ref a5, .ref a6, .ref a7, .int (nI sz0), .ref a9, .ref a10, .ref a11, .ref a12]))] sz) := by
  refine Met.ofW (cc := cX1_word) (maxL := 2) (ret := (some .int)) (by decide) rfl ?_
  intro p e s m args below meth c s₁ B hml hv
  obtain ⟨rfl, ⟨hsz, hP, hK, hD0⟩, -⟩ := hv
  have hx := B.exec
  have hb := B.bytes
  have hr := B.returns
  have hts := atoms_spec (ws := wsX1_word) B.pre
  have hown : s.vm.findClass RX1 = some m.cls := findClass_of_methodNamed B.named
  have hlocks := B.notSynchronized
  subst hsz
  have hD := hD0.self (sz := s.heap.size)
  have hinX1 := in_X1_word
  generalize hAe : va_A [(h0, .inr (1, [.int th, .ref a1, .int by0, .int rd, .ref a4, .ref a5, .ref a6, .ref a7, .int (nI sz0), .ref a9, .ref a10, .ref a11, .ref a12]))] s.heap.size = A at hD ⊢
  have hA : ∀ q : Nat, s.heap.size ≤ q → A q := fun q h => by rw [← hAe]; exact Or.inr h
  have hS : va_S A s.heap s.heap [] := va_S.rf
  have hl := lv_entry ([.ref h0, .int i]) (n := 2) (Nat.le_of_ble_eq_true rfl)
  rw [lg_entry_eq]
  generalize (lg_sl ([.ref h0, .int i]) ++ List.replicate (2 - (lg_sl ([.ref h0, .int i])).length) Slot.unset).toArray = ls at hl ⊢
  have hl : lv_has ls 2 [(0, .ref h0), (1, .int i)] := hl
  refine lv_aload_n hx hb dX1_word_0 rfl (lv_at hl 0 rfl) ?_
  refine lv_iload_n hx hb dX1_word_1 rfl (lv_at hl 1 rfl) ?_
  refine lv_iconst (v := nI 0) hx hb dX1_word_2 (by decide) ?_
  refine lv_aload_n hx hb dX1_word_3 rfl (lv_at hl 0 rfl) ?_
  refine va_get (D := D) (ci := 1) (v := .int (nI sz0)) (C := RX1) (T := TX1) (N := 13) hx hb hts hinX1 hown hK hP 0 rfl rfl 8 (by decide) (hts (.fieldLink RX1 37 "SlicedCipherModel" "size" "I") (by decide +kernel)) (fun _ h9 => h9) rfl dX1_word_4 ?_
  refine lv_iconst (v := nI 1) hx hb dX1_word_7 (by decide) ?_
  refine lv_isub hx hb dX1_word_8 ?_
  refine wk_Sp (v := nI 0) (As := [.int i, .int (nI 0), .int ((nI sz0) - (nI 1))]) (rest := [.ref h0]) ⟨hx, hb, hml, hown, hts⟩ (c_X1_isIn0 l i (nI 0) ((nI sz0) - (nI 1)) (hbad)) (va_cwS 3 hts gX1_word_X1_isIn rfl rfl rfl (by decide +kernel) ⟨Nat.le_of_ble_eq_true rfl, Nat.le_of_ble_eq_true rfl⟩) rfl hl.1 rfl (Nat.le_of_ble_eq_true rfl) dX1_word_9 ⟨Nat.zero_le _, Nat.zero_le _⟩ ?_
  refine lv_iconst (v := nI 1) hx hb dX1_word_12 (by decide) ?_
  refine wk_VI (b := h0) (As := [.int (nI 0), .int (nI 1)]) (rest := []) (wc := [(h0, .inr (1, [.int th, .ref a1, .int by0, .int rd, .ref a4, .ref a5, .ref a6, .ref a7, .int (nI sz0), .ref a9, .ref a10, .ref a11, .ref a12]))]) (wr := []) (w1 := fun (u1 : Nat → Nat → Int32) => [(h0, .inr (1, [.int (nI 1), .ref a1, .int by0, .int rd, .ref a4, .ref a5, .ref a6, .ref a7, .int (nI sz0), .ref a9, .ref a10, .ref a11, .ref a12]))]) (w2 := fun (u1 : Nat → Nat → Int32) => [(h0, .inr (1, [.int (nI 1), .ref a1, .int by0, .int rd, .ref a4, .ref a5, .ref a6, .ref a7, .int (nI sz0), .ref a9, .ref a10, .ref a11, .ref a12]))]) (ci := 1) (q0 := 0) ⟨hx, hb, hml, hown, hts⟩ (c_X1_good1 l D cI _ h0 a1 a4 a5 a6 a7 a9 a10 a11 a12 th by0 rd (nI sz0) (nI 1)) (cwV 2 hts gX1_word_X1_good rfl rfl rfl (by decide +kernel) ⟨Nat.le_of_ble_eq_true rfl, Nat.le_of_ble_eq_true rfl⟩) (fun _ _ _ _ h => h) (fun _ _ _ _ => trivial) hK hP hD hS hA rfl rfl [0] [] rfl (by decide) rfl (by decide) (by decide) [0] (fun _ => rfl) (by decide) rfl hl.1 rfl (Nat.le_of_ble_eq_true rfl) dX1_word_13 ⟨Nat.zero_le _, Nat.zero_le _⟩ (fun zu1 u1 H locs hu1 hP hD hS => ?_)
  have hP : va_P D vwCl [(h0, .inr (1, [.int (nI 1), .ref a1, .int by0, .int rd, .ref a4, .ref a5, .ref a6, .ref a7, .int (nI sz0), .ref a9, .ref a10, .ref a11, .ref a12]))] H := hP
  have hD : va_D A [(h0, .inr (1, [.int (nI 1), .ref a1, .int by0, .int rd, .ref a4, .ref a5, .ref a6, .ref a7, .int (nI sz0), .ref a9, .ref a10, .ref a11, .ref a12]))] := hD
  refine wk_i (y := nI 0) hu1 ?_
  refine wk_eq0N (tgt := 28) hx hb (a := 0) (by decide) dX1_word_16 (by decide) (fun c16 => ?_) (fun c16 => absurd c16 (fun h => h rfl))
  refine lv_iconst (v := nI 0) hx hb dX1_word_28 (by decide) ?_
  exact W.iret (v := nI 0) hx hb hr (fun t ht hW => ⟨⟨_, (fun _ _ => 0), rfl, rfl, by rw [ht]; exact hP, va_K.moved hW.alike hK, hD⟩, hS.F ht⟩) hS.2.2 dX1_word_29
