set_option maxHeartbeats 4000000 in
set_option maxRecDepth 100000 in
theorem c_X1_run0 (l : Launch) (D : va_G) (cI : ClassId) (sz : Nat) (h0 a1 a4 a5 a6 a7 a9 a10 a11 a12 : Nat) (th by0 rd : Int32) (sz0 : Nat) (i bb : Int32) (hz : sz0 ≤ 256) (hbad : i < nI 0 ∨ (¬ i < nI 0 ∧ nI 2 < i)) : Met l yX1_run wsX1_run ({ frames := 6, cells := 0, slots := 0, locals := 135 }) (va_Pc [.ref h0, .int i, .int bb] (fun U => PW D [(cI, .int)] [(h0, .inr (1, [.int th, .ref a1, .int by0, .int rd, .ref a4, .ref a5, .ref a6, .ref a7, .int (nI sz0), .ref a9, .ref a10, .ref a11, .ref a12]))] sz U ∧ True)) (va_Qi (fun r9 (u : Nat → Nat → Int32) => r9 = nI 0) (fun u => BW D [(cI, .int)] (va_A [(h0, .inr (1, [.int th, .ref a1, .int by0, .int rd, .ref a4, .ref a5, .ref a6, .ref a7, .int (nI sz0), .ref a9, .ref a10, .ref a11, .ref a12]))] sz) [(h0, .inr (1, [.int (nI 1), .ref a1, .int by0, .int rd, .ref a4, .ref a5, .ref a6, .ref a7, .int (nI sz0), .ref a9, .ref a10, .ref a11, .ref a12]))]) (va_A [(h0, .inr (1, [.int th, .ref a1, .int by0, .int rd, .ref a4, .ref a5, .ref a6, .ref a7, .int (nI sz0), .ref a9, .ref a10, .ref a11, .ref a12]))] sz)) 0 0 (va_A [(h0, .inr (1, [.int th, .ref a1, .int by0, .int rd, .ref a4, .ref a5, .ref a6, .ref a7, .int (nI sz0), .ref a9, .ref a10, .ref a11, .ref a12]))] sz) := by
  refine Met.ofW (cc := cX1_run) (maxL := 4) (ret := (some .int)) (by decide) rfl ?_
  intro p e s m args below meth c s₁ B hml hv
  obtain ⟨rfl, ⟨hsz, hP, hK, hD0⟩, -⟩ := hv
  have hx := B.exec
  have hb := B.bytes
  have hr := B.returns
  have hts := atoms_spec (ws := wsX1_run) B.pre
  have hown : s.vm.findClass RX1 = some m.cls := findClass_of_methodNamed B.named
  have hlocks := B.notSynchronized
  subst hsz
  have hD := hD0.self (sz := s.heap.size)
  have hinX1 := in_X1_run
  generalize hAe : va_A [(h0, .inr (1, [.int th, .ref a1, .int by0, .int rd, .ref a4, .ref a5, .ref a6, .ref a7, .int (nI sz0), .ref a9, .ref a10, .ref a11, .ref a12]))] s.heap.size = A at hD ⊢
  have hA : ∀ q : Nat, s.heap.size ≤ q → A q := fun q h => by rw [← hAe]; exact Or.inr h
  have hS : va_S A s.heap s.heap [] := va_S.rf
  have hl := lv_entry ([.ref h0, .int i, .int bb]) (n := 4) (Nat.le_of_ble_eq_true rfl)
  rw [lg_entry_eq]
  generalize (lg_sl ([.ref h0, .int i, .int bb]) ++ List.replicate (4 - (lg_sl ([.ref h0, .int i, .int bb])).length) Slot.unset).toArray = ls at hl ⊢
  have hl : lv_has ls 4 [(0, .ref h0), (1, .int i), (2, .int bb)] := hl
  refine lv_aload_n hx hb dX1_run_0 rfl (lv_at hl 0 rfl) ?_
  refine lv_iload_n hx hb dX1_run_1 rfl (lv_at hl 1 rfl) ?_
  refine lv_iconst (v := nI 0) hx hb dX1_run_2 (by decide) ?_
  refine lv_iconst (v := nI 2) hx hb dX1_run_3 (by decide) ?_
  refine wk_Sp (v := nI 0) (As := [.int i, .int (nI 0), .int (nI 2)]) (rest := [.ref h0]) ⟨hx, hb, hml, hown, hts⟩ (c_X1_isIn0 l i (nI 0) (nI 2) (hbad)) (va_cwS 3 hts gX1_run_X1_isIn rfl rfl rfl (by decide +kernel) ⟨Nat.le_of_ble_eq_true rfl, Nat.le_of_ble_eq_true rfl⟩) rfl hl.1 rfl (Nat.le_of_ble_eq_true rfl) dX1_run_4 ⟨Nat.zero_le _, Nat.zero_le _⟩ ?_
  refine lv_aload_n hx hb dX1_run_7 rfl (lv_at hl 0 rfl) ?_
  refine va_get (D := D) (ci := 1) (v := .int rd) (C := RX1) (T := TX1) (N := 13) hx hb hts hinX1 hown hK hP 0 rfl rfl 3 (by decide) (hts (.fieldLink RX1 59 "SlicedCipherModel" "ready" "Z") (by decide +kernel)) (fun _ h9 => h9) rfl dX1_run_8 ?_
  refine lv_if_eq (tgt := 27) hx hb dX1_run_11 (by decide) (fun c11 => ?_) (fun c11 => ?_)
  · refine lv_iconst (v := nI 0) hx hb dX1_run_27 (by decide) ?_
    refine wk_VI (b := h0) (As := [.int (nI 0), .int (nI 0)]) (rest := []) (wc := [(h0, .inr (1, [.int th, .ref a1, .int by0, .int rd, .ref a4, .ref a5, .ref a6, .ref a7, .int (nI sz0), .ref a9, .ref a10, .ref a11, .ref a12]))]) (wr := []) (w1 := fun (u1 : Nat → Nat → Int32) => [(h0, .inr (1, [.int (nI 1), .ref a1, .int by0, .int rd, .ref a4, .ref a5, .ref a6, .ref a7, .int (nI sz0), .ref a9, .ref a10, .ref a11, .ref a12]))]) (w2 := fun (u1 : Nat → Nat → Int32) => [(h0, .inr (1, [.int (nI 1), .ref a1, .int by0, .int rd, .ref a4, .ref a5, .ref a6, .ref a7, .int (nI sz0), .ref a9, .ref a10, .ref a11, .ref a12]))]) (ci := 1) (q0 := 0) ⟨hx, hb, hml, hown, hts⟩ (c_X1_good1 l D cI _ h0 a1 a4 a5 a6 a7 a9 a10 a11 a12 th by0 rd (nI sz0) (nI 0)) (cwV 2 hts gX1_run_X1_good rfl rfl rfl (by decide +kernel) ⟨Nat.le_of_ble_eq_true rfl, Nat.le_of_ble_eq_true rfl⟩) (fun _ _ _ _ h => h) (fun _ _ _ _ => trivial) hK hP hD hS hA rfl rfl [0] [] rfl (by decide) rfl (by decide) (by decide) [0] (fun _ => rfl) (by decide) rfl hl.1 rfl (Nat.le_of_ble_eq_true rfl) dX1_run_28 ⟨Nat.zero_le _, Nat.zero_le _⟩ (fun zu1 u1 H locs hu1 hP hD hS => ?_)
    have hP : va_P D vwCl [(h0, .inr (1, [.int (nI 1), .ref a1, .int by0, .int rd, .ref a4, .ref a5, .ref a6, .ref a7, .int (nI sz0), .ref a9, .ref a10, .ref a11, .ref a12]))] H := hP
    have hD : va_D A [(h0, .inr (1, [.int (nI 1), .ref a1, .int by0, .int rd, .ref a4, .ref a5, .ref a6, .ref a7, .int (nI sz0), .ref a9, .ref a10, .ref a11, .ref a12]))] := hD
    refine wk_i (y := nI 0) hu1 ?_
    refine wk_ne0N (tgt := 36) hx hb (a := 0) (by decide) dX1_run_31 (by decide) (fun c31 => absurd c31 (fun h => h rfl)) (fun c31 => ?_)
    refine lv_iconst (v := nI 0) hx hb dX1_run_34 (by decide) ?_
    exact W.iret (v := nI 0) hx hb hr (fun t ht hW => ⟨⟨_, (fun _ _ => 0), rfl, rfl, by rw [ht]; exact hP, va_K.moved hW.alike hK, hD⟩, hS.F ht⟩) hS.2.2 dX1_run_35
  · refine lv_aload_n hx hb dX1_run_14 rfl (lv_at hl 0 rfl) ?_
    refine va_get (D := D) (ci := 1) (v := .int (nI sz0)) (C := RX1) (T := TX1) (N := 13) hx hb hts hinX1 hown hK hP 0 rfl rfl 8 (by decide) (hts (.fieldLink RX1 37 "SlicedCipherModel" "size" "I") (by decide +kernel)) (fun _ h9 => h9) rfl dX1_run_15 ?_
    refine lv_iconst (v := nI 4) hx hb dX1_run_18 (by decide) ?_
    refine wk_iremN hx hb (a := sz0) (b := 4) (by omega) (by decide) (by decide) dX1_run_19 ?_
    refine wk_ne0N (tgt := 27) hx hb (a := sz0 % 4) (by omega) dX1_run_20 (by decide) (fun c20 => ?_) (fun c20 => ?_)
    · refine lv_iconst (v := nI 0) hx hb dX1_run_27 (by decide) ?_
      refine wk_VI (b := h0) (As := [.int (nI 0), .int (nI 0)]) (rest := []) (wc := [(h0, .inr (1, [.int th, .ref a1, .int by0, .int rd, .ref a4, .ref a5, .ref a6, .ref a7, .int (nI sz0), .ref a9, .ref a10, .ref a11, .ref a12]))]) (wr := []) (w1 := fun (u2 : Nat → Nat → Int32) => [(h0, .inr (1, [.int (nI 1), .ref a1, .int by0, .int rd, .ref a4, .ref a5, .ref a6, .ref a7, .int (nI sz0), .ref a9, .ref a10, .ref a11, .ref a12]))]) (w2 := fun (u2 : Nat → Nat → Int32) => [(h0, .inr (1, [.int (nI 1), .ref a1, .int by0, .int rd, .ref a4, .ref a5, .ref a6, .ref a7, .int (nI sz0), .ref a9, .ref a10, .ref a11, .ref a12]))]) (ci := 1) (q0 := 0) ⟨hx, hb, hml, hown, hts⟩ (c_X1_good1 l D cI _ h0 a1 a4 a5 a6 a7 a9 a10 a11 a12 th by0 rd (nI sz0) (nI 0)) (cwV 2 hts gX1_run_X1_good rfl rfl rfl (by decide +kernel) ⟨Nat.le_of_ble_eq_true rfl, Nat.le_of_ble_eq_true rfl⟩) (fun _ _ _ _ h => h) (fun _ _ _ _ => trivial) hK hP hD hS hA rfl rfl [0] [] rfl (by decide) rfl (by decide) (by decide) [0] (fun _ => rfl) (by decide) rfl hl.1 rfl (Nat.le_of_ble_eq_true rfl) dX1_run_28 ⟨Nat.zero_le _, Nat.zero_le _⟩ (fun zu2 u2 H locs hu2 hP hD hS => ?_)
      have hP : va_P D vwCl [(h0, .inr (1, [.int (nI 1), .ref a1, .int by0, .int rd, .ref a4, .ref a5, .ref a6, .ref a7, .int (nI sz0), .ref a9, .ref a10, .ref a11, .ref a12]))] H := hP
      have hD : va_D A [(h0, .inr (1, [.int (nI 1), .ref a1, .int by0, .int rd, .ref a4, .ref a5, .ref a6, .ref a7, .int (nI sz0), .ref a9, .ref a10, .ref a11, .ref a12]))] := hD
      refine wk_i (y := nI 0) hu2 ?_
      refine wk_ne0N (tgt := 36) hx hb (a := 0) (by decide) dX1_run_31 (by decide) (fun c31 => absurd c31 (fun h => h rfl)) (fun c31 => ?_)
      refine lv_iconst (v := nI 0) hx hb dX1_run_34 (by decide) ?_
      exact W.iret (v := nI 0) hx hb hr (fun t ht hW => ⟨⟨_, (fun _ _ => 0), rfl, rfl, by rw [ht]; exact hP, va_K.moved hW.alike hK, hD⟩, hS.F ht⟩) hS.2.2 dX1_run_35
    · refine lv_iconst (v := nI 1) hx hb dX1_run_23 (by decide) ?_
      refine lv_goto (tgt := 28) hx hb dX1_run_24 (by decide) ?_
      refine wk_VI (b := h0) (As := [.int (nI 0), .int (nI 1)]) (rest := []) (wc := [(h0, .inr (1, [.int th, .ref a1, .int by0, .int rd, .ref a4, .ref a5, .ref a6, .ref a7, .int (nI sz0), .ref a9, .ref a10, .ref a11, .ref a12]))]) (wr := []) (w1 := fun (u3 : Nat → Nat → Int32) => [(h0, .inr (1, [.int (nI 1), .ref a1, .int by0, .int rd, .ref a4, .ref a5, .ref a6, .ref a7, .int (nI sz0), .ref a9, .ref a10, .ref a11, .ref a12]))]) (w2 := fun (u3 : Nat → Nat → Int32) => [(h0, .inr (1, [.int (nI 1), .ref a1, .int by0, .int rd, .ref a4, .ref a5, .ref a6, .ref a7, .int (nI sz0), .ref a9, .ref a10, .ref a11, .ref a12]))]) (ci := 1) (q0 := 0) ⟨hx, hb, hml, hown, hts⟩ (c_X1_good1 l D cI _ h0 a1 a4 a5 a6 a7 a9 a10 a11 a12 th by0 rd (nI sz0) (nI 1)) (cwV 2 hts gX1_run_X1_good rfl rfl rfl (by decide +kernel) ⟨Nat.le_of_ble_eq_true rfl, Nat.le_of_ble_eq_true rfl⟩) (fun _ _ _ _ h => h) (fun _ _ _ _ => trivial) hK hP hD hS hA rfl rfl [0] [] rfl (by decide) rfl (by decide) (by decide) [0] (fun _ => rfl) (by decide) rfl hl.1 rfl (Nat.le_of_ble_eq_true rfl) dX1_run_28 ⟨Nat.zero_le _, Nat.zero_le _⟩ (fun zu3 u3 H locs hu3 hP hD hS => ?_)
      have hP : va_P D vwCl [(h0, .inr (1, [.int (nI 1), .ref a1, .int by0, .int rd, .ref a4, .ref a5, .ref a6, .ref a7, .int (nI sz0), .ref a9, .ref a10, .ref a11, .ref a12]))] H := hP
      have hD : va_D A [(h0, .inr (1, [.int (nI 1), .ref a1, .int by0, .int rd, .ref a4, .ref a5, .ref a6, .ref a7, .int (nI sz0), .ref a9, .ref a10, .ref a11, .ref a12]))] := hD
      refine wk_i (y := nI 0) hu3 ?_
      refine wk_ne0N (tgt := 36) hx hb (a := 0) (by decide) dX1_run_31 (by decide) (fun c31 => absurd c31 (fun h => h rfl)) (fun c31 => ?_)
      refine lv_iconst (v := nI 0) hx hb dX1_run_34 (by decide) ?_
      exact W.iret (v := nI 0) hx hb hr (fun t ht hW => ⟨⟨_, (fun _ _ => 0), rfl, rfl, by rw [ht]; exact hP, va_K.moved hW.alike hK, hD⟩, hS.F ht⟩) hS.2.2 dX1_run_35
set_option maxHeartbeats 4000000 in
set_option maxRecDepth 100000 in
theorem c_X1_run2a (l : Launch) (D : va_G) (cI : ClassId) (sz : Nat) (h0 a1 a4 a5 a6 a7 a9 a10 a11 a12 : Nat) (th by0 zz : Int32) (k : Nat) (bb : Int32) (hk : k ≤ 2) : Met l yX1_run wsX1_run ({ frames := 6, cells := 0, slots := 0, locals := 135 }) (va_Pc [.ref h0, .int (nI k), .int bb] (fun U => PW D [(cI, .int)] [(h0, .inr (1, [.int th, .ref a1, .int by0, .int (nI 0), .ref a4, .ref a5, .ref a6, .ref a7, .int zz, .ref a9, .ref a10, .ref a11, .ref a12]))] sz U ∧ True)) (va_Qi (fun r9 (u : Nat → Nat → Int32) => r9 = nI 0) (fun u => BW D [(cI, .int)] (va_A [(h0, .inr (1, [.int th, .ref a1, .int by0, .int (nI 0), .ref a4, .ref a5, .ref a6, .ref a7, .int zz, .ref a9, .ref a10, .ref a11, .ref a12]))] sz) [(h0, .inr (1, [.int (nI 2), .ref a1, .int by0, .int (nI 0), .ref a4, .ref a5, .ref a6, .ref a7, .int zz, .ref a9, .ref a10, .ref a11, .ref a12]))]) (va_A [(h0, .inr (1, [.int th, .ref a1, .int by0, .int (nI 0), .ref a4, .ref a5, .ref a6, .ref a7, .int zz, .ref a9, .ref a10, .ref a11, .ref a12]))] sz)) 0 0 (va_A [(h0, .inr (1, [.int th, .ref a1, .int by0, .int (nI 0), .ref a4, .ref a5, .ref a6, .ref a7, .int zz, .ref a9, .ref a10, .ref a11, .ref a12]))] sz) := by
  refine Met.ofW (cc := cX1_run) (maxL := 4) (ret := (some .int)) (by decide) rfl ?_
  intro p e s m args below meth c s₁ B hml hv
  obtain ⟨rfl, ⟨hsz, hP, hK, hD0⟩, -⟩ := hv
  have hx := B.exec
  have hb := B.bytes
  have hr := B.returns
  have hts := atoms_spec (ws := wsX1_run) B.pre
  have hown : s.vm.findClass RX1 = some m.cls := findClass_of_methodNamed B.named
  have hlocks := B.notSynchronized
  subst hsz
  have hD := hD0.self (sz := s.heap.size)
  have hinX1 := in_X1_run
  generalize hAe : va_A [(h0, .inr (1, [.int th, .ref a1, .int by0, .int (nI 0), .ref a4, .ref a5, .ref a6, .ref a7, .int zz, .ref a9, .ref a10, .ref a11, .ref a12]))] s.heap.size = A at hD ⊢
  have hA : ∀ q : Nat, s.heap.size ≤ q → A q := fun q h => by rw [← hAe]; exact Or.inr h
  have hS : va_S A s.heap s.heap [] := va_S.rf
  have hl := lv_entry ([.ref h0, .int (nI k), .int bb]) (n := 4) (Nat.le_of_ble_eq_true rfl)
  rw [lg_entry_eq]
  generalize (lg_sl ([.ref h0, .int (nI k), .int bb]) ++ List.replicate (4 - (lg_sl ([.ref h0, .int (nI k), .int bb])).length) Slot.unset).toArray = ls at hl ⊢
  have hl : lv_has ls 4 [(0, .ref h0), (1, .int (nI k)), (2, .int bb)] := hl
  refine lv_aload_n hx hb dX1_run_0 rfl (lv_at hl 0 rfl) ?_
  refine lv_iload_n hx hb dX1_run_1 rfl (lv_at hl 1 rfl) ?_
  refine lv_iconst (v := nI 0) hx hb dX1_run_2 (by decide) ?_
  refine lv_iconst (v := nI 2) hx hb dX1_run_3 (by decide) ?_
  refine wk_Sp (v := nI 1) (As := [.int (nI k), .int (nI 0), .int (nI 2)]) (rest := [.ref h0]) ⟨hx, hb, hml, hown, hts⟩ (c_X1_isIn1 l (nI k) (nI 0) (nI 2) (nI_pos (by omega)) (nI_nlt (by omega) (by omega))) (va_cwS 3 hts gX1_run_X1_isIn rfl rfl rfl (by decide +kernel) ⟨Nat.le_of_ble_eq_true rfl, Nat.le_of_ble_eq_true rfl⟩) rfl hl.1 rfl (Nat.le_of_ble_eq_true rfl) dX1_run_4 ⟨Nat.zero_le _, Nat.zero_le _⟩ ?_
  refine lv_aload_n hx hb dX1_run_7 rfl (lv_at hl 0 rfl) ?_
  refine va_get (D := D) (ci := 1) (v := .int (nI 0)) (C := RX1) (T := TX1) (N := 13) hx hb hts hinX1 hown hK hP 0 rfl rfl 3 (by decide) (hts (.fieldLink RX1 59 "SlicedCipherModel" "ready" "Z") (by decide +kernel)) (fun _ h9 => h9) rfl dX1_run_8 ?_
  refine wk_eq0N (tgt := 27) hx hb (a := 0) (by decide) dX1_run_11 (by decide) (fun c11 => ?_) (fun c11 => absurd c11 (fun h => h rfl))
  refine lv_iconst (v := nI 0) hx hb dX1_run_27 (by decide) ?_
  refine wk_VI (b := h0) (As := [.int (nI 1), .int (nI 0)]) (rest := []) (wc := [(h0, .inr (1, [.int th, .ref a1, .int by0, .int (nI 0), .ref a4, .ref a5, .ref a6, .ref a7, .int zz, .ref a9, .ref a10, .ref a11, .ref a12]))]) (wr := []) (w1 := fun (u1 : Nat → Nat → Int32) => [(h0, .inr (1, [.int (nI 2), .ref a1, .int by0, .int (nI 0), .ref a4, .ref a5, .ref a6, .ref a7, .int zz, .ref a9, .ref a10, .ref a11, .ref a12]))]) (w2 := fun (u1 : Nat → Nat → Int32) => [(h0, .inr (1, [.int (nI 2), .ref a1, .int by0, .int (nI 0), .ref a4, .ref a5, .ref a6, .ref a7, .int zz, .ref a9, .ref a10, .ref a11, .ref a12]))]) (ci := 1) (q0 := 0) ⟨hx, hb, hml, hown, hts⟩ (c_X1_good2 l D cI _ h0 a1 a4 a5 a6 a7 a9 a10 a11 a12 th by0 (nI 0) zz) (cwV 2 hts gX1_run_X1_good rfl rfl rfl (by decide +kernel) ⟨Nat.le_of_ble_eq_true rfl, Nat.le_of_ble_eq_true rfl⟩) (fun _ _ _ _ h => h) (fun _ _ _ _ => trivial) hK hP hD hS hA rfl rfl [0] [] rfl (by decide) rfl (by decide) (by decide) [0] (fun _ => rfl) (by decide) rfl hl.1 rfl (Nat.le_of_ble_eq_true rfl) dX1_run_28 ⟨Nat.zero_le _, Nat.zero_le _⟩ (fun zu1 u1 H locs hu1 hP hD hS => ?_)
  have hP : va_P D vwCl [(h0, .inr (1, [.int (nI 2), .ref a1, .int by0, .int (nI 0), .ref a4, .ref a5, .ref a6, .ref a7, .int zz, .ref a9, .ref a10, .ref a11, .ref a12]))] H := hP
  have hD : va_D A [(h0, .inr (1, [.int (nI 2), .ref a1, .int by0, .int (nI 0), .ref a4, .ref a5, .ref a6, .ref a7, .int zz, .ref a9, .ref a10, .ref a11, .ref a12]))] := hD
  refine wk_i (y := nI 0) hu1 ?_
  refine wk_ne0N (tgt := 36) hx hb (a := 0) (by decide) dX1_run_31 (by decide) (fun c31 => absurd c31 (fun h => h rfl)) (fun c31 => ?_)
  refine lv_iconst (v := nI 0) hx hb dX1_run_34 (by decide) ?_
  exact W.iret (v := nI 0) hx hb hr (fun t ht hW => ⟨⟨_, (fun _ _ => 0), rfl, rfl, by rw [ht]; exact hP, va_K.moved hW.alike hK, hD⟩, hS.F ht⟩) hS.2.2 dX1_run_35
set_option maxHeartbeats 4000000 in
set_option maxRecDepth 100000 in
theorem c_X1_run2b (l : Launch) (D : va_G) (cI : ClassId) (sz : Nat) (h0 a1 a4 a5 a6 a7 a9 a10 a11 a12 : Nat) (th by0 : Int32) (sz0 : Nat) (k : Nat) (bb : Int32) (hz : sz0 ≤ 256) (h4 : sz0 % 4 ≠ 0) (hk : k ≤ 2) : Met l yX1_run wsX1_run ({ frames := 6, cells := 0, slots := 0, locals := 135 }) (va_Pc [.ref h0, .int (nI k), .int bb] (fun U => PW D [(cI, .int)] [(h0, .inr (1, [.int th, .ref a1, .int by0, .int (nI 1), .ref a4, .ref a5, .ref a6, .ref a7, .int (nI sz0), .ref a9, .ref a10, .ref a11, .ref a12]))] sz U ∧ True)) (va_Qi (fun r9 (u : Nat → Nat → Int32) => r9 = nI 0) (fun u => BW D [(cI, .int)] (va_A [(h0, .inr (1, [.int th, .ref a1, .int by0, .int (nI 1), .ref a4, .ref a5, .ref a6, .ref a7, .int (nI sz0), .ref a9, .ref a10, .ref a11, .ref a12]))] sz) [(h0, .inr (1, [.int (nI 2), .ref a1, .int by0, .int (nI 1), .ref a4, .ref a5, .ref a6, .ref a7, .int (nI sz0), .ref a9, .ref a10, .ref a11, .ref a12]))]) (va_A [(h0, .inr (1, [.int th, .ref a1, .int by0, .int (nI 1), .ref a4, .ref a5, .ref a6, .ref a7, .int (nI sz0), .ref a9, .ref a10, .ref a11, .ref a12]))] sz)) 0 0 (va_A [(h0, .inr (1, [.int th, .ref a1, .int by0, .int (nI 1), .ref a4, .ref a5, .ref a6, .ref a7, .int (nI sz0), .ref a9, .ref a10, .ref a11, .ref a12]))] sz) := by
  refine Met.ofW (cc := cX1_run) (maxL := 4) (ret := (some .int)) (by decide) rfl ?_
  intro p e s m args below meth c s₁ B hml hv
  obtain ⟨rfl, ⟨hsz, hP, hK, hD0⟩, -⟩ := hv
  have hx := B.exec
  have hb := B.bytes
  have hr := B.returns
  have hts := atoms_spec (ws := wsX1_run) B.pre
  have hown : s.vm.findClass RX1 = some m.cls := findClass_of_methodNamed B.named
  have hlocks := B.notSynchronized
  subst hsz
  have hD := hD0.self (sz := s.heap.size)
  have hinX1 := in_X1_run
  generalize hAe : va_A [(h0, .inr (1, [.int th, .ref a1, .int by0, .int (nI 1), .ref a4, .ref a5, .ref a6, .ref a7, .int (nI sz0), .ref a9, .ref a10, .ref a11, .ref a12]))] s.heap.size = A at hD ⊢
  have hA : ∀ q : Nat, s.heap.size ≤ q → A q := fun q h => by rw [← hAe]; exact Or.inr h
  have hS : va_S A s.heap s.heap [] := va_S.rf
  have hl := lv_entry ([.ref h0, .int (nI k), .int bb]) (n := 4) (Nat.le_of_ble_eq_true rfl)
  rw [lg_entry_eq]
  generalize (lg_sl ([.ref h0, .int (nI k), .int bb]) ++ List.replicate (4 - (lg_sl ([.ref h0, .int (nI k), .int bb])).length) Slot.unset).toArray = ls at hl ⊢
  have hl : lv_has ls 4 [(0, .ref h0), (1, .int (nI k)), (2, .int bb)] := hl
  refine lv_aload_n hx hb dX1_run_0 rfl (lv_at hl 0 rfl) ?_
  refine lv_iload_n hx hb dX1_run_1 rfl (lv_at hl 1 rfl) ?_
  refine lv_iconst (v := nI 0) hx hb dX1_run_2 (by decide) ?_
  refine lv_iconst (v := nI 2) hx hb dX1_run_3 (by decide) ?_
  refine wk_Sp (v := nI 1) (As := [.int (nI k), .int (nI 0), .int (nI 2)]) (rest := [.ref h0]) ⟨hx, hb, hml, hown, hts⟩ (c_X1_isIn1 l (nI k) (nI 0) (nI 2) (nI_pos (by omega)) (nI_nlt (by omega) (by omega))) (va_cwS 3 hts gX1_run_X1_isIn rfl rfl rfl (by decide +kernel) ⟨Nat.le_of_ble_eq_true rfl, Nat.le_of_ble_eq_true rfl⟩) rfl hl.1 rfl (Nat.le_of_ble_eq_true rfl) dX1_run_4 ⟨Nat.zero_le _, Nat.zero_le _⟩ ?_
  refine lv_aload_n hx hb dX1_run_7 rfl (lv_at hl 0 rfl) ?_
  refine va_get (D := D) (ci := 1) (v := .int (nI 1)) (C := RX1) (T := TX1) (N := 13) hx hb hts hinX1 hown hK hP 0 rfl rfl 3 (by decide) (hts (.fieldLink RX1 59 "SlicedCipherModel" "ready" "Z") (by decide +kernel)) (fun _ h9 => h9) rfl dX1_run_8 ?_
  refine wk_eq0N (tgt := 27) hx hb (a := 1) (by decide) dX1_run_11 (by decide) (fun c11 => absurd c11 (by decide)) (fun c11 => ?_)
  refine lv_aload_n hx hb dX1_run_14 rfl (lv_at hl 0 rfl) ?_
  refine va_get (D := D) (ci := 1) (v := .int (nI sz0)) (C := RX1) (T := TX1) (N := 13) hx hb hts hinX1 hown hK hP 0 rfl rfl 8 (by decide) (hts (.fieldLink RX1 37 "SlicedCipherModel" "size" "I") (by decide +kernel)) (fun _ h9 => h9) rfl dX1_run_15 ?_
  refine lv_iconst (v := nI 4) hx hb dX1_run_18 (by decide) ?_
  refine wk_iremN hx hb (a := sz0) (b := 4) (by omega) (by decide) (by decide) dX1_run_19 ?_
  refine wk_ne0N (tgt := 27) hx hb (a := sz0 % 4) (by omega) dX1_run_20 (by decide) (fun c20 => ?_) (fun c20 => absurd c20 (h4))
  refine lv_iconst (v := nI 0) hx hb dX1_run_27 (by decide) ?_
  refine wk_VI (b := h0) (As := [.int (nI 1), .int (nI 0)]) (rest := []) (wc := [(h0, .inr (1, [.int th, .ref a1, .int by0, .int (nI 1), .ref a4, .ref a5, .ref a6, .ref a7, .int (nI sz0), .ref a9, .ref a10, .ref a11, .ref a12]))]) (wr := []) (w1 := fun (u1 : Nat → Nat → Int32) => [(h0, .inr (1, [.int (nI 2), .ref a1, .int by0, .int (nI 1), .ref a4, .ref a5, .ref a6, .ref a7, .int (nI sz0), .ref a9, .ref a10, .ref a11, .ref a12]))]) (w2 := fun (u1 : Nat → Nat → Int32) => [(h0, .inr (1, [.int (nI 2), .ref a1, .int by0, .int (nI 1), .ref a4, .ref a5, .ref a6, .ref a7, .int (nI sz0), .ref a9, .ref a10, .ref a11, .ref a12]))]) (ci := 1) (q0 := 0) ⟨hx, hb, hml, hown, hts⟩ (c_X1_good2 l D cI _ h0 a1 a4 a5 a6 a7 a9 a10 a11 a12 th by0 (nI 1) (nI sz0)) (cwV 2 hts gX1_run_X1_good rfl rfl rfl (by decide +kernel) ⟨Nat.le_of_ble_eq_true rfl, Nat.le_of_ble_eq_true rfl⟩) (fun _ _ _ _ h => h) (fun _ _ _ _ => trivial) hK hP hD hS hA rfl rfl [0] [] rfl (by decide) rfl (by decide) (by decide) [0] (fun _ => rfl) (by decide) rfl hl.1 rfl (Nat.le_of_ble_eq_true rfl) dX1_run_28 ⟨Nat.zero_le _, Nat.zero_le _⟩ (fun zu1 u1 H locs hu1 hP hD hS => ?_)
  have hP : va_P D vwCl [(h0, .inr (1, [.int (nI 2), .ref a1, .int by0, .int (nI 1), .ref a4, .ref a5, .ref a6, .ref a7, .int (nI sz0), .ref a9, .ref a10, .ref a11, .ref a12]))] H := hP
  have hD : va_D A [(h0, .inr (1, [.int (nI 2), .ref a1, .int by0, .int (nI 1), .ref a4, .ref a5, .ref a6, .ref a7, .int (nI sz0), .ref a9, .ref a10, .ref a11, .ref a12]))] := hD
  refine wk_i (y := nI 0) hu1 ?_
  refine wk_ne0N (tgt := 36) hx hb (a := 0) (by decide) dX1_run_31 (by decide) (fun c31 => absurd c31 (fun h => h rfl)) (fun c31 => ?_)
  refine lv_iconst (v := nI 0) hx hb dX1_run_34 (by decide) ?_
  exact W.iret (v := nI 0) hx hb hr (fun t ht hW => ⟨⟨_, (fun _ _ => 0), rfl, rfl, by rw [ht]; exact hP, va_K.moved hW.alike hK, hD⟩, hS.F ht⟩) hS.2.2 dX1_run_35
set_option maxHeartbeats 4000000 in
set_option maxRecDepth 100000 in
theorem c_X1_seal0 (l : Launch) (D : va_G) (cI : ClassId) (sz : Nat) (h0 a1 a4 a5 a6 a7 a9 a10 a11 a12 : Nat) (th by0 rd : Int32) (sz0 : Nat) (i : Int32) (hz : sz0 ≤ 256) (hbad : i < nI 0 ∨ (¬ i < nI 0 ∧ nI 3 < i)) : Met l yX1_seal wsX1_seal ({ frames := 4, cells := 0, slots := 0, locals := 85 }) (va_Pc [.ref h0, .int i] (fun U => PW D [(cI, .int)] [(h0, .inr (1, [.int th, .ref a1, .int by0, .int rd, .ref a4, .ref a5, .ref a6, .ref a7, .int (nI sz0), .ref a9, .ref a10, .ref a11, .ref a12]))] sz U ∧ True)) (va_Qi (fun r9 (u : Nat → Nat → Int32) => r9 = nI 0) (fun u => BW D [(cI, .int)] (va_A [(h0, .inr (1, [.int th, .ref a1, .int by0, .int rd, .ref a4, .ref a5, .ref a6, .ref a7, .int (nI sz0), .ref a9, .ref a10, .ref a11, .ref a12]))] sz) [(h0, .inr (1, [.int (nI 1), .ref a1, .int by0, .int rd, .ref a4, .ref a5, .ref a6, .ref a7, .int (nI sz0), .ref a9, .ref a10, .ref a11, .ref a12]))]) (va_A [(h0, .inr (1, [.int th, .ref a1, .int by0, .int rd, .ref a4, .ref a5, .ref a6, .ref a7, .int (nI sz0), .ref a9, .ref a10, .ref a11, .ref a12]))] sz)) 0 0 (va_A [(h0, .inr (1, [.int th, .ref a1, .int by0, .int rd, .ref a4, .ref a5, .ref a6, .ref a7, .int (nI sz0), .ref a9, .ref a10, .ref a11, .ref a12]))] sz) := by
  refine Met.ofW (cc := cX1_seal) (maxL := 4) (ret := (some .int)) (by decide) rfl ?_
  intro p e s m args below meth c s₁ B hml hv
  obtain ⟨rfl, ⟨hsz, hP, hK, hD0⟩, -⟩ := hv
  have hx := B.exec
  have hb := B.bytes
  have hr := B.returns
  have hts := atoms_spec (ws := wsX1_seal) B.pre
  have hown : s.vm.findClass RX1 = some m.cls := findClass_of_methodNamed B.named
  have hlocks := B.notSynchronized
  subst hsz
  have hD := hD0.self (sz := s.heap.size)
  have hinX1 := in_X1_seal
  generalize hAe : va_A [(h0, .inr (1, [.int th, .ref a1, .int by0, .int rd, .ref a4, .ref a5, .ref a6, .ref a7, .int (nI sz0), .ref a9, .ref a10, .ref a11, .ref a12]))] s.heap.size = A at hD ⊢
  have hA : ∀ q : Nat, s.heap.size ≤ q → A q := fun q h => by rw [← hAe]; exact Or.inr h
  have hS : va_S A s.heap s.heap [] := va_S.rf
  have hl := lv_entry ([.ref h0, .int i]) (n := 4) (Nat.le_of_ble_eq_true rfl)
  rw [lg_entry_eq]
  generalize (lg_sl ([.ref h0, .int i]) ++ List.replicate (4 - (lg_sl ([.ref h0, .int i])).length) Slot.unset).toArray = ls at hl ⊢
  have hl : lv_has ls 4 [(0, .ref h0), (1, .int i)] := hl
  refine lv_aload_n hx hb dX1_seal_0 rfl (lv_at hl 0 rfl) ?_
  refine lv_iload_n hx hb dX1_seal_1 rfl (lv_at hl 1 rfl) ?_
  refine lv_iconst (v := nI 0) hx hb dX1_seal_2 (by decide) ?_
  refine lv_iconst (v := nI 3) hx hb dX1_seal_3 (by decide) ?_
  refine wk_Sp (v := nI 0) (As := [.int i, .int (nI 0), .int (nI 3)]) (rest := [.ref h0]) ⟨hx, hb, hml, hown, hts⟩ (c_X1_isIn0 l i (nI 0) (nI 3) (hbad)) (va_cwS 3 hts gX1_seal_X1_isIn rfl rfl rfl (by decide +kernel) ⟨Nat.le_of_ble_eq_true rfl, Nat.le_of_ble_eq_true rfl⟩) rfl hl.1 rfl (Nat.le_of_ble_eq_true rfl) dX1_seal_4 ⟨Nat.zero_le _, Nat.zero_le _⟩ ?_
  refine lv_aload_n hx hb dX1_seal_7 rfl (lv_at hl 0 rfl) ?_
  refine va_get (D := D) (ci := 1) (v := .int rd) (C := RX1) (T := TX1) (N := 13) hx hb hts hinX1 hown hK hP 0 rfl rfl 3 (by decide) (hts (.fieldLink RX1 59 "SlicedCipherModel" "ready" "Z") (by decide +kernel)) (fun _ h9 => h9) rfl dX1_seal_8 ?_
  refine lv_if_eq (tgt := 27) hx hb dX1_seal_11 (by decide) (fun c11 => ?_) (fun c11 => ?_)
  · refine lv_iconst (v := nI 0) hx hb dX1_seal_27 (by decide) ?_
    refine wk_VI (b := h0) (As := [.int (nI 0), .int (nI 0)]) (rest := []) (wc := [(h0, .inr (1, [.int th, .ref a1, .int by0, .int rd, .ref a4, .ref a5, .ref a6, .ref a7, .int (nI sz0), .ref a9, .ref a10, .ref a11, .ref a12]))]) (wr := []) (w1 := fun (u1 : Nat → Nat → Int32) => [(h0, .inr (1, [.int (nI 1), .ref a1, .int by0, .int rd, .ref a4, .ref a5, .ref a6, .ref a7, .int (nI sz0), .ref a9, .ref a10, .ref a11, .ref a12]))]) (w2 := fun (u1 : Nat → Nat → Int32) => [(h0, .inr (1, [.int (nI 1), .ref a1, .int by0, .int rd, .ref a4, .ref a5, .ref a6, .ref a7, .int (nI sz0), .ref a9, .ref a10, .ref a11, .ref a12]))]) (ci := 1) (q0 := 0) ⟨hx, hb, hml, hown, hts⟩ (c_X1_good1 l D cI _ h0 a1 a4 a5 a6 a7 a9 a10 a11 a12 th by0 rd (nI sz0) (nI 0)) (cwV 2 hts gX1_seal_X1_good rfl rfl rfl (by decide +kernel) ⟨Nat.le_of_ble_eq_true rfl, Nat.le_of_ble_eq_true rfl⟩) (fun _ _ _ _ h => h) (fun _ _ _ _ => trivial) hK hP hD hS hA rfl rfl [0] [] rfl (by decide) rfl (by decide) (by decide) [0] (fun _ => rfl) (by decide) rfl hl.1 rfl (Nat.le_of_ble_eq_true rfl) dX1_seal_28 ⟨Nat.zero_le _, Nat.zero_le _⟩ (fun zu1 u1 H locs hu1 hP hD hS => ?_)
    have hP : va_P D vwCl [(h0, .inr (1, [.int (nI 1), .ref a1, .int by0, .int rd, .ref a4, .ref a5, .ref a6, .ref a7, .int (nI sz0), .ref a9, .ref a10, .ref a11, .ref a12]))] H := hP
    have hD : va_D A [(h0, .inr (1, [.int (nI 1), .ref a1, .int by0, .int rd, .ref a4, .ref a5, .ref a6, .ref a7, .int (nI sz0), .ref a9, .ref a10, .ref a11, .ref a12]))] := hD
    refine wk_i (y := nI 0) hu1 ?_
    refine wk_ne0N (tgt := 36) hx hb (a := 0) (by decide) dX1_seal_31 (by decide) (fun c31 => absurd c31 (fun h => h rfl)) (fun c31 => ?_)
    refine lv_iconst (v := nI 0) hx hb dX1_seal_34 (by decide) ?_
    exact W.iret (v := nI 0) hx hb hr (fun t ht hW => ⟨⟨_, (fun _ _ => 0), rfl, rfl, by rw [ht]; exact hP, va_K.moved hW.alike hK, hD⟩, hS.F ht⟩) hS.2.2 dX1_seal_35
  · refine lv_aload_n hx hb dX1_seal_14 rfl (lv_at hl 0 rfl) ?_
    refine va_get (D := D) (ci := 1) (v := .int (nI sz0)) (C := RX1) (T := TX1) (N := 13) hx hb hts hinX1 hown hK hP 0 rfl rfl 8 (by decide) (hts (.fieldLink RX1 37 "SlicedCipherModel" "size" "I") (by decide +kernel)) (fun _ h9 => h9) rfl dX1_seal_15 ?_
    refine lv_iconst (v := nI 4) hx hb dX1_seal_18 (by decide) ?_
    refine wk_iremN hx hb (a := sz0) (b := 4) (by omega) (by decide) (by decide) dX1_seal_19 ?_
    refine wk_ne0N (tgt := 27) hx hb (a := sz0 % 4) (by omega) dX1_seal_20 (by decide) (fun c20 => ?_) (fun c20 => ?_)
    · refine lv_iconst (v := nI 0) hx hb dX1_seal_27 (by decide) ?_
      refine wk_VI (b := h0) (As := [.int (nI 0), .int (nI 0)]) (rest := []) (wc := [(h0, .inr (1, [.int th, .ref a1, .int by0, .int rd, .ref a4, .ref a5, .ref a6, .ref a7, .int (nI sz0), .ref a9, .ref a10, .ref a11, .ref a12]))]) (wr := []) (w1 := fun (u2 : Nat → Nat → Int32) => [(h0, .inr (1, [.int (nI 1), .ref a1, .int by0, .int rd, .ref a4, .ref a5, .ref a6, .ref a7, .int (nI sz0), .ref a9, .ref a10, .ref a11, .ref a12]))]) (w2 := fun (u2 : Nat → Nat → Int32) => [(h0, .inr (1, [.int (nI 1), .ref a1, .int by0, .int rd, .ref a4, .ref a5, .ref a6, .ref a7, .int (nI sz0), .ref a9, .ref a10, .ref a11, .ref a12]))]) (ci := 1) (q0 := 0) ⟨hx, hb, hml, hown, hts⟩ (c_X1_good1 l D cI _ h0 a1 a4 a5 a6 a7 a9 a10 a11 a12 th by0 rd (nI sz0) (nI 0)) (cwV 2 hts gX1_seal_X1_good rfl rfl rfl (by decide +kernel) ⟨Nat.le_of_ble_eq_true rfl, Nat.le_of_ble_eq_true rfl⟩) (fun _ _ _ _ h => h) (fun _ _ _ _ => trivial) hK hP hD hS hA rfl rfl [0] [] rfl (by decide) rfl (by decide) (by decide) [0] (fun _ => rfl) (by decide) rfl hl.1 rfl (Nat.le_of_ble_eq_true rfl) dX1_seal_28 ⟨Nat.zero_le _, Nat.zero_le _⟩ (fun zu2 u2 H locs hu2 hP hD hS => ?_)
      have hP : va_P D vwCl [(h0, .inr (1, [.int (nI 1), .ref a1, .int by0, .int rd, .ref a4, .ref a5, .ref a6, .ref a7, .int (nI sz0), .ref a9, .ref a10, .ref a11, .ref a12]))] H := hP
      have hD : va_D A [(h0, .inr (1, [.int (nI 1), .ref a1, .int by0, .int rd, .ref a4, .ref a5, .ref a6, .ref a7, .int (nI sz0), .ref a9, .ref a10, .ref a11, .ref a12]))] := hD
      refine wk_i (y := nI 0) hu2 ?_
      refine wk_ne0N (tgt := 36) hx hb (a := 0) (by decide) dX1_seal_31 (by decide) (fun c31 => absurd c31 (fun h => h rfl)) (fun c31 => ?_)
      refine lv_iconst (v := nI 0) hx hb dX1_seal_34 (by decide) ?_
      exact W.iret (v := nI 0) hx hb hr (fun t ht hW => ⟨⟨_, (fun _ _ => 0), rfl, rfl, by rw [ht]; exact hP, va_K.moved hW.alike hK, hD⟩, hS.F ht⟩) hS.2.2 dX1_seal_35
    · refine lv_iconst (v := nI 1) hx hb dX1_seal_23 (by decide) ?_
      refine lv_goto (tgt := 28) hx hb dX1_seal_24 (by decide) ?_
      refine wk_VI (b := h0) (As := [.int (nI 0), .int (nI 1)]) (rest := []) (wc := [(h0, .inr (1, [.int th, .ref a1, .int by0, .int rd, .ref a4, .ref a5, .ref a6, .ref a7, .int (nI sz0), .ref a9, .ref a10, .ref a11, .ref a12]))]) (wr := []) (w1 := fun (u3 : Nat → Nat → Int32) => [(h0, .inr (1, [.int (nI 1), .ref a1, .int by0, .int rd, .ref a4, .ref a5, .ref a6, .ref a7, .int (nI sz0), .ref a9, .ref a10, .ref a11, .ref a12]))]) (w2 := fun (u3 : Nat → Nat → Int32) => [(h0, .inr (1, [.int (nI 1), .ref a1, .int by0, .int rd, .ref a4, .ref a5, .ref a6, .ref a7, .int (nI sz0), .ref a9, .ref a10, .ref a11, .ref a12]))]) (ci := 1) (q0 := 0) ⟨hx, hb, hml, hown, hts⟩ (c_X1_good1 l D cI _ h0 a1 a4 a5 a6 a7 a9 a10 a11 a12 th by0 rd (nI sz0) (nI 1)) (cwV 2 hts gX1_seal_X1_good rfl rfl rfl (by decide +kernel) ⟨Nat.le_of_ble_eq_true rfl, Nat.le_of_ble_eq_true rfl⟩) (fun _ _ _ _ h => h) (fun _ _ _ _ => trivial) hK hP hD hS hA rfl rfl [0] [] rfl (by decide) rfl (by decide) (by decide) [0] (fun _ => rfl) (by decide) rfl hl.1 rfl (Nat.le_of_ble_eq_true rfl) dX1_seal_28 ⟨Nat.zero_le _, Nat.zero_le _⟩ (fun zu3 u3 H locs hu3 hP hD hS => ?_)
      have hP : va_P D vwCl [(h0, .inr (1, [.int (nI 1), .ref a1, .int by0, .int rd, .ref a4, .ref a5, .ref a6, .ref a7, .int (nI sz0), .ref a9, .ref a10, .ref a11, .ref a12]))] H := hP
      have hD : va_D A [(h0, .inr (1, [.int (nI 1), .ref a1, .int by0, .int rd, .ref a4, .ref a5, .ref a6, .ref a7, .int (nI sz0), .ref a9, .ref a10, .ref a11, .ref a12]))] := hD
      refine wk_i (y := nI 0) hu3 ?_
      refine wk_ne0N (tgt := 36) hx hb (a := 0) (by decide) dX1_seal_31 (by decide) (fun c31 => absurd c31 (fun h => h rfl)) (fun c31 => ?_)
      refine lv_iconst (v := nI 0) hx hb dX1_seal_34 (by decide) ?_
      exact W.iret (v := nI 0) hx hb hr (fun t ht hW => ⟨⟨_, (fun _ _ => 0), rfl, rfl, by rw [ht]; exact hP, va_K.moved hW.alike hK, hD⟩, hS.F ht⟩) hS.2.2 dX1_seal_35
set_option maxHeartbeats 4000000 in
set_option maxRecDepth 100000 in
theorem c_X1_seal2a (l : Launch) (D : va_G) (cI : ClassId) (sz : Nat) (h0 a1 a4 a5 a6 a7 a9 a10 a11 a12 : Nat) (th by0 zz : Int32) (k : Nat) (hk : k ≤ 3) : Met l yX1_seal wsX1_seal ({ frames := 4, cells := 0, slots := 0, locals := 85 }) (va_Pc [.ref h0, .int (nI k)] (fun U => PW D [(cI, .int)] [(h0, .inr (1, [.int th, .ref a1, .int by0, .int (nI 0), .ref a4, .ref a5, .ref a6, .ref a7, .int zz, .ref a9, .ref a10, .ref a11, .ref a12]))] sz U ∧ True)) (va_Qi (fun r9 (u : Nat → Nat → Int32) => r9 = nI 0) (fun u => BW D [(cI, .int)] (va_A [(h0, .inr (1, [.int th, .ref a1, .int by0, .int (nI 0), .ref a4, .ref a5, .ref a6, .ref a7, .int zz, .ref a9, .ref a10, .ref a11, .ref a12]))] sz) [(h0, .inr (1, [.int (nI 2), .ref a1, .int by0, .int (nI 0), .ref a4, .ref a5, .ref a6, .ref a7, .int zz, .ref a9, .ref a10, .ref a11, .ref a12]))]) (va_A [(h0, .inr (1, [.int th, .ref a1, .int by0, .int (nI 0), .ref a4, .ref a5, .ref a6, .ref a7, .int zz, .ref a9, .ref a10, .ref a11, .ref a12]))] sz)) 0 0 (va_A [(h0, .inr (1, [.int th, .ref a1, .int by0, .int (nI 0), .ref a4, .ref a5, .ref a6, .ref a7, .int zz, .ref a9, .ref a10, .ref a11, .ref a12]))] sz) := by
  refine Met.ofW (cc := cX1_seal) (maxL := 4) (ret := (some .int)) (by decide) rfl ?_
  intro p e s m args below meth c s₁ B hml hv
  obtain ⟨rfl, ⟨hsz, hP, hK, hD0⟩, -⟩ := hv
  have hx := B.exec
  have hb := B.bytes
  have hr := B.returns
  have hts := atoms_spec (ws := wsX1_seal) B.pre
  have hown : s.vm.findClass RX1 = some m.cls := findClass_of_methodNamed B.named
  have hlocks := B.notSynchronized
  subst hsz
  have hD := hD0.self (sz := s.heap.size)
  have hinX1 := in_X1_seal
  generalize hAe : va_A [(h0, .inr (1, [.int th, .ref a1, .int by0, .int (nI 0), .ref a4, .ref a5, .ref a6, .ref a7, .int zz, .ref a9, .ref a10, .ref a11, .ref a12]))] s.heap.size = A at hD ⊢
  have hA : ∀ q : Nat, s.heap.size ≤ q → A q := fun q h => by rw [← hAe]; exact Or.inr h
  have hS : va_S A s.heap s.heap [] := va_S.rf
  have hl := lv_entry ([.ref h0, .int (nI k)]) (n := 4) (Nat.le_of_ble_eq_true rfl)
  rw [lg_entry_eq]
  generalize (lg_sl ([.ref h0, .int (nI k)]) ++ List.replicate (4 - (lg_sl ([.ref h0, .int (nI k)])).length) Slot.unset).toArray = ls at hl ⊢
  have hl : lv_has ls 4 [(0, .ref h0), (1, .int (nI k))] := hl
  refine lv_aload_n hx hb dX1_seal_0 rfl (lv_at hl 0 rfl) ?_
  refine lv_iload_n hx hb dX1_seal_1 rfl (lv_at hl 1 rfl) ?_
  refine lv_iconst (v := nI 0) hx hb dX1_seal_2 (by decide) ?_
  refine lv_iconst (v := nI 3) hx hb dX1_seal_3 (by decide) ?_
  refine wk_Sp (v := nI 1) (As := [.int (nI k), .int (nI 0), .int (nI 3)]) (rest := [.ref h0]) ⟨hx, hb, hml, hown, hts⟩ (c_X1_isIn1 l (nI k) (nI 0) (nI 3) (nI_pos (by omega)) (nI_nlt (by omega) (by omega))) (va_cwS 3 hts gX1_seal_X1_isIn rfl rfl rfl (by decide +kernel) ⟨Nat.le_of_ble_eq_true rfl, Nat.le_of_ble_eq_true rfl⟩) rfl hl.1 rfl (Nat.le_of_ble_eq_true rfl) dX1_seal_4 ⟨Nat.zero_le _, Nat.zero_le _⟩ ?_
  refine lv_aload_n hx hb dX1_seal_7 rfl (lv_at hl 0 rfl) ?_
  refine va_get (D := D) (ci := 1) (v := .int (nI 0)) (C := RX1) (T := TX1) (N := 13) hx hb hts hinX1 hown hK hP 0 rfl rfl 3 (by decide) (hts (.fieldLink RX1 59 "SlicedCipherModel" "ready" "Z") (by decide +kernel)) (fun _ h9 => h9) rfl dX1_seal_8 ?_
  refine wk_eq0N (tgt := 27) hx hb (a := 0) (by decide) dX1_seal_11 (by decide) (fun c11 => ?_) (fun c11 => absurd c11 (fun h => h rfl))
  refine lv_iconst (v := nI 0) hx hb dX1_seal_27 (by decide) ?_
  refine wk_VI (b := h0) (As := [.int (nI 1), .int (nI 0)]) (rest := []) (wc := [(h0, .inr (1, [.int th, .ref a1, .int by0, .int (nI 0), .ref a4, .ref a5, .ref a6, .ref a7, .int zz, .ref a9, .ref a10, .ref a11, .ref a12]))]) (wr := []) (w1 := fun (u1 : Nat → Nat → Int32) => [(h0, .inr (1, [.int (nI 2), .ref a1, .int by0, .int (nI 0), .ref a4, .ref a5, .ref a6, .ref a7, .int zz, .ref a9, .ref a10, .ref a11, .ref a12]))]) (w2 := fun (u1 : Nat → Nat → Int32) => [(h0, .inr (1, [.int (nI 2), .ref a1, .int by0, .int (nI 0), .ref a4, .ref a5, .ref a6, .ref a7, .int zz, .ref a9, .ref a10, .ref a11, .ref a12]))]) (ci := 1) (q0 := 0) ⟨hx, hb, hml, hown, hts⟩ (c_X1_good2 l D cI _ h0 a1 a4 a5 a6 a7 a9 a10 a11 a12 th by0 (nI 0) zz) (cwV 2 hts gX1_seal_X1_good rfl rfl rfl (by decide +kernel) ⟨Nat.le_of_ble_eq_true rfl, Nat.le_of_ble_eq_true rfl⟩) (fun _ _ _ _ h => h) (fun _ _ _ _ => trivial) hK hP hD hS hA rfl rfl [0] [] rfl (by decide) rfl (by decide) (by decide) [0] (fun _ => rfl) (by decide) rfl hl.1 rfl (Nat.le_of_ble_eq_true rfl) dX1_seal_28 ⟨Nat.zero_le _, Nat.zero_le _⟩ (fun zu1 u1 H locs hu1 hP hD hS => ?_)
  have hP : va_P D vwCl [(h0, .inr (1, [.int (nI 2), .ref a1, .int by0, .int (nI 0), .ref a4, .ref a5, .ref a6, .ref a7, .int zz, .ref a9, .ref a10, .ref a11, .ref a12]))] H := hP
  have hD : va_D A [(h0, .inr (1, [.int (nI 2), .ref a1, .int by0, .int (nI 0), .ref a4, .ref a5, .ref a6, .ref a7, .int zz, .ref a9, .ref a10, .ref a11, .ref a12]))] := hD
  refine wk_i (y := nI 0) hu1 ?_
  refine wk_ne0N (tgt := 36) hx hb (a := 0) (by decide) dX1_seal_31 (by decide) (fun c31 => absurd c31 (fun h => h rfl)) (fun c31 => ?_)
  refine lv_iconst (v := nI 0) hx hb dX1_seal_34 (by decide) ?_
  exact W.iret (v := nI 0) hx hb hr (fun t ht hW => ⟨⟨_, (fun _ _ => 0), rfl, rfl, by rw [ht]; exact hP, va_K.moved hW.alike hK, hD⟩, hS.F ht⟩) hS.2.2 dX1_seal_35
set_option maxHeartbeats 4000000 in
set_option maxRecDepth 100000 in
theorem c_X1_seal2b (l : Launch) (D : va_G) (cI : ClassId) (sz : Nat) (h0 a1 a4 a5 a6 a7 a9 a10 a11 a12 : Nat) (th by0 : Int32) (sz0 : Nat) (k : Nat) (hz : sz0 ≤ 256) (h4 : sz0 % 4 ≠ 0) (hk : k ≤ 3) : Met l yX1_seal wsX1_seal ({ frames := 4, cells := 0, slots := 0, locals := 85 }) (va_Pc [.ref h0, .int (nI k)] (fun U => PW D [(cI, .int)] [(h0, .inr (1, [.int th, .ref a1, .int by0, .int (nI 1), .ref a4, .ref a5, .ref a6, .ref a7, .int (nI sz0), .ref a9, .ref a10, .ref a11, .ref a12]))] sz U ∧ True)) (va_Qi (fun r9 (u : Nat → Nat → Int32) => r9 = nI 0) (fun u => BW D [(cI, .int)] (va_A [(h0, .inr (1, [.int th, .ref a1, .int by0, .int (nI 1), .ref a4, .ref a5, .ref a6, .ref a7, .int (nI sz0), .ref a9, .ref a10, .ref a11, .ref a12]))] sz) [(h0, .inr (1, [.int (nI 2), .ref a1, .int by0, .int (nI 1), .ref a4, .ref a5, .ref a6, .ref a7, .int (nI sz0), .ref a9, .ref a10, .ref a11, .ref a12]))]) (va_A [(h0, .inr (1, [.int th, .ref a1, .int by0, .int (nI 1), .ref a4, .ref a5, .ref a6, .ref a7, .int (nI sz0), .ref a9, .ref a10, .ref a11, .ref a12]))] sz)) 0 0 (va_A [(h0, .inr (1, [.int th, .ref a1, .int by0, .int (nI 1), .ref a4, .ref a5, .ref a6, .ref a7, .int (nI sz0), .ref a9, .ref a10, .ref a11, .ref a12]))] sz) := by
  refine Met.ofW (cc := cX1_seal) (maxL := 4) (ret := (some .int)) (by decide) rfl ?_
  intro p e s m args below meth c s₁ B hml hv
  obtain ⟨rfl, ⟨hsz, hP, hK, hD0⟩, -⟩ := hv
  have hx := B.exec
  have hb := B.bytes
  have hr := B.returns
  have hts := atoms_spec (ws := wsX1_seal) B.pre
  have hown : s.vm.findClass RX1 = some m.cls := findClass_of_methodNamed B.named
  have hlocks := B.notSynchronized
  subst hsz
  have hD := hD0.self (sz := s.heap.size)
  have hinX1 := in_X1_seal
  generalize hAe : va_A [(h0, .inr (1, [.int th, .ref a1, .int by0, .int (nI 1), .ref a4, .ref a5, .ref a6, .ref a7, .int (nI sz0), .ref a9, .ref a10, .ref a11, .ref a12]))] s.heap.size = A at hD ⊢
  have hA : ∀ q : Nat, s.heap.size ≤ q → A q := fun q h => by rw [← hAe]; exact Or.inr h
  have hS : va_S A s.heap s.heap [] := va_S.rf
  have hl := lv_entry ([.ref h0, .int (nI k)]) (n := 4) (Nat.le_of_ble_eq_true rfl)
  rw [lg_entry_eq]
  generalize (lg_sl ([.ref h0, .int (nI k)]) ++ List.replicate (4 - (lg_sl ([.ref h0, .int (nI k)])).length) Slot.unset).toArray = ls at hl ⊢
  have hl : lv_has ls 4 [(0, .ref h0), (1, .int (nI k))] := hl
  refine lv_aload_n hx hb dX1_seal_0 rfl (lv_at hl 0 rfl) ?_
  refine lv_iload_n hx hb dX1_seal_1 rfl (lv_at hl 1 rfl) ?_
  refine lv_iconst (v := nI 0) hx hb dX1_seal_2 (by decide) ?_
  refine lv_iconst (v := nI 3) hx hb dX1_seal_3 (by decide) ?_
  refine wk_Sp (v := nI 1) (As := [.int (nI k), .int (nI 0), .int (nI 3)]) (rest := [.ref h0]) ⟨hx, hb, hml, hown, hts⟩ (c_X1_isIn1 l (nI k) (nI 0) (nI 3) (nI_pos (by omega)) (nI_nlt (by omega) (by omega))) (va_cwS 3 hts gX1_seal_X1_isIn rfl rfl rfl (by decide +kernel) ⟨Nat.le_of_ble_eq_true rfl, Nat.le_of_ble_eq_true rfl⟩) rfl hl.1 rfl (Nat.le_of_ble_eq_true rfl) dX1_seal_4 ⟨Nat.zero_le _, Nat.zero_le _⟩ ?_
  refine lv_aload_n hx hb dX1_seal_7 rfl (lv_at hl 0 rfl) ?_
  refine va_get (D := D) (ci := 1) (v := .int (nI 1)) (C := RX1) (T := TX1) (N := 13) hx hb hts hinX1 hown hK hP 0 rfl rfl 3 (by decide) (hts (.fieldLink RX1 59 "SlicedCipherModel" "ready" "Z") (by decide +kernel)) (fun _ h9 => h9) rfl dX1_seal_8 ?_
  refine wk_eq0N (tgt := 27) hx hb (a := 1) (by decide) dX1_seal_11 (by decide) (fun c11 => absurd c11 (by decide)) (fun c11 => ?_)
  refine lv_aload_n hx hb dX1_seal_14 rfl (lv_at hl 0 rfl) ?_
  refine va_get (D := D) (ci := 1) (v := .int (nI sz0)) (C := RX1) (T := TX1) (N := 13) hx hb hts hinX1 hown hK hP 0 rfl rfl 8 (by decide) (hts (.fieldLink RX1 37 "SlicedCipherModel" "size" "I") (by decide +kernel)) (fun _ h9 => h9) rfl dX1_seal_15 ?_
  refine lv_iconst (v := nI 4) hx hb dX1_seal_18 (by decide) ?_
  refine wk_iremN hx hb (a := sz0) (b := 4) (by omega) (by decide) (by decide) dX1_seal_19 ?_
  refine wk_ne0N (tgt := 27) hx hb (a := sz0 % 4) (by omega) dX1_seal_20 (by decide) (fun c20 => ?_) (fun c20 => absurd c20 (h4))
  refine lv_iconst (v := nI 0) hx hb dX1_seal_27 (by decide) ?_
  refine wk_VI (b := h0) (As := [.int (nI 1), .int (nI 0)]) (rest := []) (wc := [(h0, .inr (1, [.int th, .ref a1, .int by0, .int (nI 1), .ref a4, .ref a5, .ref a6, .ref a7, .int (nI sz0), .ref a9, .ref a10, .ref a11, .ref a12]))]) (wr := []) (w1 := fun (u1 : Nat → Nat → Int32) => [(h0, .inr (1, [.int (nI 2), .ref a1, .int by0, .int (nI 1), .ref a4, .ref a5, .ref a6, .ref a7, .int (nI sz0), .ref a9, .ref a10, .ref a11, .ref a12]))]) (w2 := fun (u1 : Nat → Nat → Int32) => [(h0, .inr (1, [.int (nI 2), .ref a1, .int by0, .int (nI 1), .ref a4, .ref a5, .ref a6, .ref a7, .int (nI sz0), .ref a9, .ref a10, .ref a11, .ref a12]))]) (ci := 1) (q0 := 0) ⟨hx, hb, hml, hown, hts⟩ (c_X1_good2 l D cI _ h0 a1 a4 a5 a6 a7 a9 a10 a11 a12 th by0 (nI 1) (nI sz0)) (cwV 2 hts gX1_seal_X1_good rfl rfl rfl (by decide +kernel) ⟨Nat.le_of_ble_eq_true rfl, Nat.le_of_ble_eq_true rfl⟩) (fun _ _ _ _ h => h) (fun _ _ _ _ => trivial) hK hP hD hS hA rfl rfl [0] [] rfl (by decide) rfl (by decide) (by decide) [0] (fun _ => rfl) (by decide) rfl hl.1 rfl (Nat.le_of_ble_eq_true rfl) dX1_seal_28 ⟨Nat.zero_le _, Nat.zero_le _⟩ (fun zu1 u1 H locs hu1 hP hD hS => ?_)
  have hP : va_P D vwCl [(h0, .inr (1, [.int (nI 2), .ref a1, .int by0, .int (nI 1), .ref a4, .ref a5, .ref a6, .ref a7, .int (nI sz0), .ref a9, .ref a10, .ref a11, .ref a12]))] H := hP
  have hD : va_D A [(h0, .inr (1, [.int (nI 2), .ref a1, .int by0, .int (nI 1), .ref a4, .ref a5, .ref a6, .ref a7, .int (nI sz0), .ref a9, .ref a10, .ref a11, .ref a12]))] := hD
  refine wk_i (y := nI 0) hu1 ?_
  refine wk_ne0N (tgt := 36) hx hb (a := 0) (by decide) dX1_seal_31 (by decide) (fun c31 => absurd c31 (fun h => h rfl)) (fun c31 => ?_)
  refine lv_iconst (v := nI 0) hx hb dX1_seal_34 (by decide) ?_
  exact W.iret (v := nI 0) hx hb hr (fun t ht hW => ⟨⟨_, (fun _ _ => 0), rfl, rfl, by rw [ht]; exact hP, va_K.moved hW.alike hK, hD⟩, hS.F ht⟩) hS.2.2 dX1_seal_35
