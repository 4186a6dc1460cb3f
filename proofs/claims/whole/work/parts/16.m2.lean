set_option maxRecDepth 100000 in
theorem in_X1_xor : ∀ w ∈ wsX10, w ∈ wsX1_xor := by decide +kernel
set_option maxHeartbeats 4000000 in
set_option maxRecDepth 100000 in
theorem c_X1_xor (l : Launch) (D : va_G) (cI : ClassId) (sz : Nat) (h0 a1 a4 a5 a6 a7 a9 a10 a11 a12 : Nat) (th by0 rd zz : Int32) (r : Nat) (Rn b : Nat → Int32) (h1 : r ≤ 32) : Met l yX1_xor wsX1_xor ({ frames := 0, cells := 0, slots := 0, locals := 0 }) (va_Pc [.ref h0, .int (nI r)] (fun U => PW D [(cI, .int)] [(h0, .inr (1, [.int th, .ref a1, .int by0, .int rd, .ref a4, .ref a5, .ref a6, .ref a7, .int zz, .ref a9, .ref a10, .ref a11, .ref a12])), (a5, .inl (cI, 132, .inl Rn)), (a10, .inl (cI, 4, .inl b))] sz U ∧ True)) (va_Qv (fun _ : Unit => True) (fun _ => BW D [(cI, .int)] (va_A [(h0, .inr (1, [.int th, .ref a1, .int by0, .int rd, .ref a4, .ref a5, .ref a6, .ref a7, .int zz, .ref a9, .ref a10, .ref a11, .ref a12])), (a5, .inl (cI, 132, .inl Rn)), (a10, .inl (cI, 4, .inl b))] sz) [(h0, .inr (1, [.int th, .ref a1, .int by0, .int rd, .ref a4, .ref a5, .ref a6, .ref a7, .int zz, .ref a9, .ref a10, .ref a11, .ref a12])), (a5, .inl (cI, 132, .inl Rn)), (a10, .inl (cI, 4, .inl (st4 b 0 (x4 (ld4 b 0) (ld4 (shf Rn) (8 + 4 * r))))))]) (va_A [(h0, .inr (1, [.int th, .ref a1, .int by0, .int rd, .ref a4, .ref a5, .ref a6, .ref a7, .int zz, .ref a9, .ref a10, .ref a11, .ref a12])), (a5, .inl (cI, 132, .inl Rn)), (a10, .inl (cI, 4, .inl b))] sz)) 0 0 (va_A [(h0, .inr (1, [.int th, .ref a1, .int by0, .int rd, .ref a4, .ref a5, .ref a6, .ref a7, .int zz, .ref a9, .ref a10, .ref a11, .ref a12])), (a5, .inl (cI, 132, .inl Rn)), (a10, .inl (cI, 4, .inl b))] sz) := by
  refine Met.ofW (cc := cX1_xor) (maxL := 3) (ret := none) (by decide) rfl ?_
  intro p e s m args below meth c s₁ B hml hv
  obtain ⟨rfl, ⟨hsz, hP, hK, hD0⟩, -⟩ := hv
  have hx := B.exec
  have hb := B.bytes
  have hr := B.returns
  have hts := atoms_spec (ws := wsX1_xor) B.pre
  have hown : s.vm.findClass RX1 = some m.cls := findClass_of_methodNamed B.named
  have hlocks := B.notSynchronized
  subst hsz
  have hD := hD0.self (sz := s.heap.size)
  have hinX1 := in_X1_xor
  generalize hAe : va_A [(h0, .inr (1, [.int th, .ref a1, .int by0, .int rd, .ref a4, .ref a5, .ref a6, .ref a7, .int zz, .ref a9, .ref a10, .ref a11, .ref a12])), (a5, .inl (cI, 132, .inl Rn)), (a10, .inl (cI, 4, .inl b))] s.heap.size = A at hD ⊢
  have hA : ∀ q : Nat, s.heap.size ≤ q → A q := fun q h => by rw [← hAe]; exact Or.inr h
  have hS : va_S A s.heap s.heap [] := va_S.rf
  have hl := lv_entry ([.ref h0, .int (nI r)]) (n := 3) (Nat.le_of_ble_eq_true rfl)
  rw [lg_entry_eq]
  generalize (lg_sl ([.ref h0, .int (nI r)]) ++ List.replicate (3 - (lg_sl ([.ref h0, .int (nI r)])).length) Slot.unset).toArray = ls at hl ⊢
  have hl : lv_has ls 3 [(0, .ref h0), (1, .int (nI r))] := hl
  have lp : ∀ (fu : Nat) (j : Nat), j ≤ 4 → 4 + 1 ≤ j + fu → ∀ (H : Heap) (locs : List Loc), va_P D vwCl [(h0, .inr (1, [.int th, .ref a1, .int by0, .int rd, .ref a4, .ref a5, .ref a6, .ref a7, .int zz, .ref a9, .ref a10, .ref a11, .ref a12])), (a5, .inl (cI, 132, .inl Rn)), (a10, .inl (cI, 4, .inl (mX b Rn r j)))] H → va_D A [(h0, .inr (1, [.int th, .ref a1, .int by0, .int rd, .ref a4, .ref a5, .ref a6, .ref a7, .int zz, .ref a9, .ref a10, .ref a11, .ref a12])), (a5, .inl (cI, 132, .inl Rn)), (a10, .inl (cI, 4, .inl (mX b Rn r j)))] → va_S A s.heap H locs → ∀ (ls : Array Slot), lv_has ls 3 [(0, .ref h0), (1, .int (nI r)), (2, .int (nI j))] → W p l e ((headSpec wsX1_xor ({ frames := 0, cells := 0, slots := 0, locals := 0 })).room) s m ([.ref h0, .int (nI r)] : List Value).toArray below meth c H locs 0 0 (MQ below (va_Qv (fun _ : Unit => True) (fun _ => BW D [(cI, .int)] A [(h0, .inr (1, [.int th, .ref a1, .int by0, .int rd, .ref a4, .ref a5, .ref a6, .ref a7, .int zz, .ref a9, .ref a10, .ref a11, .ref a12])), (a5, .inl (cI, 132, .inl Rn)), (a10, .inl (cI, 4, .inl (st4 b 0 (x4 (ld4 b 0) (ld4 (shf Rn) (8 + 4 * r))))))]) A) ([.ref h0, .int (nI r)] : List Value).toArray s 0 0 (A)) (F0 m 2 ls []) := by
    intro fu
    induction fu with
      | zero => intro j hij hfj; exact absurd hfj (by omega)
      | succ fu ih =>
        intro j hij hfj H locs hP hD hS ls hl
        refine lv_iload_n hx hb dX1_xor_2 rfl (lv_at hl 2 rfl) ?_
        refine lv_iconst (v := nI 4) hx hb dX1_xor_3 (by decide) ?_
        refine wk_geN (tgt := 36) hx hb (a := j) (b := 4) (by omega) (by decide) dX1_xor_4 (by decide) (fun c4 => ?_) (fun c4 => ?_)
        · obtain rfl : j = 4 := by omega
          rw [mX_4] at hP hD
          exact W.vret hx hb hr (fun t ht hW => ⟨⟨(), rfl, trivial, by rw [ht]; exact hP, va_K.moved hW.alike hK, hD⟩, hS.F ht⟩) hS.2.2 dX1_xor_36
        · refine lv_aload_n hx hb dX1_xor_7 rfl (lv_at hl 0 rfl) ?_
          refine va_get (D := D) (ci := 1) (v := .ref a10) (C := RX1) (T := TX1) (N := 13) hx hb hts hinX1 hown hK hP 0 rfl rfl 10 (by decide) (hts (.fieldLink RX1 28 "SlicedCipherModel" "block" "[I") (by decide +kernel)) (fun _ h9 => h9) rfl dX1_xor_8 ?_
          refine lv_iload_n hx hb dX1_xor_11 rfl (lv_at hl 2 rfl) ?_
          refine lv_aload_n hx hb dX1_xor_12 rfl (lv_at hl 0 rfl) ?_
          refine va_get (D := D) (ci := 1) (v := .ref a10) (C := RX1) (T := TX1) (N := 13) hx hb hts hinX1 hown hK hP 0 rfl rfl 10 (by decide) (hts (.fieldLink RX1 28 "SlicedCipherModel" "block" "[I") (by decide +kernel)) (fun _ h9 => h9) rfl dX1_xor_13 ?_
          refine lv_iload_n hx hb dX1_xor_16 rfl (lv_at hl 2 rfl) ?_
          refine wk_iald hx hb hK hP 2 0 rfl rfl (k := j) (by omega) (by decide) dX1_xor_17 ?_
          refine lv_aload_n hx hb dX1_xor_18 rfl (lv_at hl 0 rfl) ?_
          refine va_get (D := D) (ci := 1) (v := .ref a5) (C := RX1) (T := TX1) (N := 13) hx hb hts hinX1 hown hK hP 0 rfl rfl 5 (by decide) (hts (.fieldLink RX1 16 "SlicedCipherModel" "rounds" "[I") (by decide +kernel)) (fun _ h9 => h9) rfl dX1_xor_19 ?_
          refine lv_iconst (v := nI 4) hx hb dX1_xor_22 (by decide) ?_
          refine lv_iload_n hx hb dX1_xor_23 rfl (lv_at hl 1 rfl) ?_
          refine wk_imulN hx hb (a := 4) (b := r) dX1_xor_24 ?_
          refine lv_iload_n hx hb dX1_xor_25 rfl (lv_at hl 2 rfl) ?_
          refine wk_iaddN hx hb (a := 4 * r) (b := j) dX1_xor_26 ?_
          refine wk_iald hx hb hK hP 1 0 rfl rfl (k := (4 * r) + j) (by omega) (by decide) dX1_xor_27 ?_
          refine lv_ixor hx hb dX1_xor_28 ?_
          refine wk_iast hx hb hK hP hD hS 2 0 rfl rfl (k := j) (x := ((mX b Rn r j) j) ^^^ (Rn ((4 * r) + j))) (by omega) (by decide) dX1_xor_29 (fun H locs hP hD hS => ?_)
          have hP : va_P D vwCl [(h0, .inr (1, [.int th, .ref a1, .int by0, .int rd, .ref a4, .ref a5, .ref a6, .ref a7, .int zz, .ref a9, .ref a10, .ref a11, .ref a12])), (a5, .inl (cI, 132, .inl Rn)), (a10, .inl (cI, 4, .inl (upd (mX b Rn r j) j (((mX b Rn r j) j) ^^^ (Rn ((4 * r) + j))))))] H := hP
          have hD : va_D A [(h0, .inr (1, [.int th, .ref a1, .int by0, .int rd, .ref a4, .ref a5, .ref a6, .ref a7, .int zz, .ref a9, .ref a10, .ref a11, .ref a12])), (a5, .inl (cI, 132, .inl Rn)), (a10, .inl (cI, 4, .inl (upd (mX b Rn r j) j (((mX b Rn r j) j) ^^^ (Rn ((4 * r) + j))))))] := hD
          refine lv_iinc (v := nI (j + 1)) (lv' := [(2, .int (nI (j + 1))), (0, .ref h0), (1, .int (nI r))]) hx hb dX1_xor_30 hl (k := 2) rfl (wk_inc j (by decide)) (by decide) rfl (fun ls hl => ?_)
          refine lv_goto (tgt := 2) hx hb dX1_xor_33 (by decide) ?_
          exact ih (j + 1) (by omega) (by omega) _ _ hP hD hS ls (lv_sub hl [1, 2, 0] rfl)
  refine lv_iconst (v := nI 0) hx hb dX1_xor_0 (by decide) ?_
  refine lv_istore_n (lv' := [(2, .int (nI 0)), (0, .ref h0), (1, .int (nI r))]) hx hb dX1_xor_1 rfl hl (by decide) rfl (fun ls hl => ?_)
  exact lp 5 0 (by omega) (by omega) _ _ hP hD hS ls (lv_sub hl [1, 2, 0] rfl)
set_option maxRecDepth 100000 in
theorem in_X1_load : ∀ w ∈ wsX10, w ∈ wsX1_load := by decide +kernel
set_option maxHeartbeats 4000000 in
set_option maxRecDepth 100000 in
theorem c_X1_load (l : Launch) (D : va_G) (cI : ClassId) (sz : Nat) (h0 a1 a4 a5 a6 a7 a9 a10 a11 a12 : Nat) (th by0 rd zz : Int32) (at0 : Nat) (f b : Nat → Int32) (h1 : at0 + 4 ≤ 256) : Met l yX1_load wsX1_load ({ frames := 0, cells := 0, slots := 0, locals := 0 }) (va_Pc [.ref h0, .int (nI at0)] (fun U => PW D [(cI, .int)] [(h0, .inr (1, [.int th, .ref a1, .int by0, .int rd, .ref a4, .ref a5, .ref a6, .ref a7, .int zz, .ref a9, .ref a10, .ref a11, .ref a12])), (a7, .inl (cI, 256, .inl f)), (a10, .inl (cI, 4, .inl b))] sz U ∧ True)) (va_Qv (fun _ : Unit => True) (fun _ => BW D [(cI, .int)] (va_A [(h0, .inr (1, [.int th, .ref a1, .int by0, .int rd, .ref a4, .ref a5, .ref a6, .ref a7, .int zz, .ref a9, .ref a10, .ref a11, .ref a12])), (a7, .inl (cI, 256, .inl f)), (a10, .inl (cI, 4, .inl b))] sz) [(h0, .inr (1, [.int th, .ref a1, .int by0, .int rd, .ref a4, .ref a5, .ref a6, .ref a7, .int zz, .ref a9, .ref a10, .ref a11, .ref a12])), (a7, .inl (cI, 256, .inl f)), (a10, .inl (cI, 4, .inl (st4 b 0 (ld4 f at0))))]) (va_A [(h0, .inr (1, [.int th, .ref a1, .int by0, .int rd, .ref a4, .ref a5, .ref a6, .ref a7, .int zz, .ref a9, .ref a10, .ref a11, .ref a12])), (a7, .inl (cI, 256, .inl f)), (a10, .inl (cI, 4, .inl b))] sz)) 0 0 (va_A [(h0, .inr (1, [.int th, .ref a1, .int by0, .int rd, .ref a4, .ref a5, .ref a6, .ref a7, .int zz, .ref a9, .ref a10, .ref a11, .ref a12])), (a7, .inl (cI, 256, .inl f)), (a10, .inl (cI, 4, .inl b))] sz) := by
  refine Met.ofW (cc := cX1_load) (maxL := 3) (ret := none) (by decide) rfl ?_
  intro p e s m args below meth c s₁ B hml hv
  obtain ⟨rfl, ⟨hsz, hP, hK, hD0⟩, -⟩ := hv
  have hx := B.exec
  have hb := B.bytes
  have hr := B.returns
  have hts := atoms_spec (ws := wsX1_load) B.pre
  have hown : s.vm.findClass RX1 = some m.cls := findClass_of_methodNamed B.named
  have hlocks := B.notSynchronized
  subst hsz
  have hD := hD0.self (sz := s.heap.size)
  have hinX1 := in_X1_load
  generalize hAe : va_A [(h0, .inr (1, [.int th, .ref a1, .int by0, .int rd, .ref a4, .ref a5, .ref a6, .ref a7, .int zz, .ref a9, .ref a10, .ref a11, .ref a12])), (a7, .inl (cI, 256, .inl f)), (a10, .inl (cI, 4, .inl b))] s.heap.size = A at hD ⊢
  have hA : ∀ q : Nat, s.heap.size ≤ q → A q := fun q h => by rw [← hAe]; exact Or.inr h
  have hS : va_S A s.heap s.heap [] := va_S.rf
  have hl := lv_entry ([.ref h0, .int (nI at0)]) (n := 3) (Nat.le_of_ble_eq_true rfl)
  rw [lg_entry_eq]
  generalize (lg_sl ([.ref h0, .int (nI at0)]) ++ List.replicate (3 - (lg_sl ([.ref h0, .int (nI at0)])).length) Slot.unset).toArray = ls at hl ⊢
  have hl : lv_has ls 3 [(0, .ref h0), (1, .int (nI at0))] := hl
  have lp : ∀ (fu : Nat) (j : Nat), j ≤ 4 → 4 + 1 ≤ j + fu → ∀ (H : Heap) (locs : List Loc), va_P D vwCl [(h0, .inr (1, [.int th, .ref a1, .int by0, .int rd, .ref a4, .ref a5, .ref a6, .ref a7, .int zz, .ref a9, .ref a10, .ref a11, .ref a12])), (a7, .inl (cI, 256, .inl f)), (a10, .inl (cI, 4, .inl (cpI b f at0 j)))] H → va_D A [(h0, .inr (1, [.int th, .ref a1, .int by0, .int rd, .ref a4, .ref a5, .ref a6, .ref a7, .int zz, .ref a9, .ref a10, .ref a11, .ref a12])), (a7, .inl (cI, 256, .inl f)), (a10, .inl (cI, 4, .inl (cpI b f at0 j)))] → va_S A s.heap H locs → ∀ (ls : Array Slot), lv_has ls 3 [(0, .ref h0), (1, .int (nI at0)), (2, .int (nI j))] → W p l e ((headSpec wsX1_load ({ frames := 0, cells := 0, slots := 0, locals := 0 })).room) s m ([.ref h0, .int (nI at0)] : List Value).toArray below meth c H locs 0 0 (MQ below (va_Qv (fun _ : Unit => True) (fun _ => BW D [(cI, .int)] A [(h0, .inr (1, [.int th, .ref a1, .int by0, .int rd, .ref a4, .ref a5, .ref a6, .ref a7, .int zz, .ref a9, .ref a10, .ref a11, .ref a12])), (a7, .inl (cI, 256, .inl f)), (a10, .inl (cI, 4, .inl (st4 b 0 (ld4 f at0))))]) A) ([.ref h0, .int (nI at0)] : List Value).toArray s 0 0 (A)) (F0 m 2 ls []) := by
    intro fu
    induction fu with
      | zero => intro j hij hfj; exact absurd hfj (by omega)
      | succ fu ih =>
        intro j hij hfj H locs hP hD hS ls hl
        refine lv_iload_n hx hb dX1_load_2 rfl (lv_at hl 2 rfl) ?_
        refine lv_iconst (v := nI 4) hx hb dX1_load_3 (by decide) ?_
        refine wk_geN (tgt := 27) hx hb (a := j) (b := 4) (by omega) (by decide) dX1_load_4 (by decide) (fun c4 => ?_) (fun c4 => ?_)
        · obtain rfl : j = 4 := by omega
          rw [cpI_4] at hP hD
          exact W.vret hx hb hr (fun t ht hW => ⟨⟨(), rfl, trivial, by rw [ht]; exact hP, va_K.moved hW.alike hK, hD⟩, hS.F ht⟩) hS.2.2 dX1_load_27
        · refine lv_aload_n hx hb dX1_load_7 rfl (lv_at hl 0 rfl) ?_
          refine va_get (D := D) (ci := 1) (v := .ref a10) (C := RX1) (T := TX1) (N := 13) hx hb hts hinX1 hown hK hP 0 rfl rfl 10 (by decide) (hts (.fieldLink RX1 28 "SlicedCipherModel" "block" "[I") (by decide +kernel)) (fun _ h9 => h9) rfl dX1_load_8 ?_
          refine lv_iload_n hx hb dX1_load_11 rfl (lv_at hl 2 rfl) ?_
          refine lv_aload_n hx hb dX1_load_12 rfl (lv_at hl 0 rfl) ?_
          refine va_get (D := D) (ci := 1) (v := .ref a7) (C := RX1) (T := TX1) (N := 13) hx hb hts hinX1 hown hK hP 0 rfl rfl 7 (by decide) (hts (.fieldLink RX1 22 "SlicedCipherModel" "tape" "[I") (by decide +kernel)) (fun _ h9 => h9) rfl dX1_load_13 ?_
          refine lv_iload_n hx hb dX1_load_16 rfl (lv_at hl 1 rfl) ?_
          refine lv_iload_n hx hb dX1_load_17 rfl (lv_at hl 2 rfl) ?_
          refine wk_iaddN hx hb (a := at0) (b := j) dX1_load_18 ?_
          refine wk_iald hx hb hK hP 1 0 rfl rfl (k := at0 + j) (by omega) (by decide) dX1_load_19 ?_
          refine wk_iast hx hb hK hP hD hS 2 0 rfl rfl (k := j) (x := f (at0 + j)) (by omega) (by decide) dX1_load_20 (fun H locs hP hD hS => ?_)
          have hP : va_P D vwCl [(h0, .inr (1, [.int th, .ref a1, .int by0, .int rd, .ref a4, .ref a5, .ref a6, .ref a7, .int zz, .ref a9, .ref a10, .ref a11, .ref a12])), (a7, .inl (cI, 256, .inl f)), (a10, .inl (cI, 4, .inl (upd (cpI b f at0 j) j (f (at0 + j)))))] H := hP
          have hD : va_D A [(h0, .inr (1, [.int th, .ref a1, .int by0, .int rd, .ref a4, .ref a5, .ref a6, .ref a7, .int zz, .ref a9, .ref a10, .ref a11, .ref a12])), (a7, .inl (cI, 256, .inl f)), (a10, .inl (cI, 4, .inl (upd (cpI b f at0 j) j (f (at0 + j)))))] := hD
          refine lv_iinc (v := nI (j + 1)) (lv' := [(2, .int (nI (j + 1))), (0, .ref h0), (1, .int (nI at0))]) hx hb dX1_load_21 hl (k := 2) rfl (wk_inc j (by decide)) (by decide) rfl (fun ls hl => ?_)
          refine lv_goto (tgt := 2) hx hb dX1_load_24 (by decide) ?_
          exact ih (j + 1) (by omega) (by omega) _ _ hP hD hS ls (lv_sub hl [1, 2, 0] rfl)
  refine lv_iconst (v := nI 0) hx hb dX1_load_0 (by decide) ?_
  refine lv_istore_n (lv' := [(2, .int (nI 0)), (0, .ref h0), (1, .int (nI at0))]) hx hb dX1_load_1 rfl hl (by decide) rfl (fun ls hl => ?_)
  exact lp 5 0 (by omega) (by omega) _ _ hP hD hS ls (lv_sub hl [1, 2, 0] rfl)
set_option maxRecDepth 100000 in
theorem in_X1_mix : ∀ w ∈ wsX10, w ∈ wsX1_mix := by decide +kernel
set_option maxHeartbeats 4000000 in
set_option maxRecDepth 100000 in
theorem c_X1_mix (l : Launch) (D : va_G) (cI : ClassId) (sz : Nat) (h0 a1 a4 a5 a6 a7 a9 a10 a11 a12 : Nat) (th by0 rd zz : Int32) (b : Nat → Int32) : Met l yX1_mix wsX1_mix ({ frames := 2, cells := 0, slots := 0, locals := 44 }) (va_Pc [.ref h0] (fun U => PW D [(cI, .int)] [(h0, .inr (1, [.int th, .ref a1, .int by0, .int rd, .ref a4, .ref a5, .ref a6, .ref a7, .int zz, .ref a9, .ref a10, .ref a11, .ref a12])), (a10, .inl (cI, 4, .inl b))] sz U ∧ True)) (va_Qv (fun _ : Unit => True) (fun _ => BW D [(cI, .int)] (va_A [(h0, .inr (1, [.int th, .ref a1, .int by0, .int rd, .ref a4, .ref a5, .ref a6, .ref a7, .int zz, .ref a9, .ref a10, .ref a11, .ref a12])), (a10, .inl (cI, 4, .inl b))] sz) [(h0, .inr (1, [.int th, .ref a1, .int by0, .int rd, .ref a4, .ref a5, .ref a6, .ref a7, .int zz, .ref a9, .ref a10, .ref a11, .ref a12])), (a10, .inl (cI, 4, .inl (st4 b 0 (cMix (ld4 b 0)))))]) (va_A [(h0, .inr (1, [.int th, .ref a1, .int by0, .int rd, .ref a4, .ref a5, .ref a6, .ref a7, .int zz, .ref a9, .ref a10, .ref a11, .ref a12])), (a10, .inl (cI, 4, .inl b))] sz)) 0 0 (va_A [(h0, .inr (1, [.int th, .ref a1, .int by0, .int rd, .ref a4, .ref a5, .ref a6, .ref a7, .int zz, .ref a9, .ref a10, .ref a11, .ref a12])), (a10, .inl (cI, 4, .inl b))] sz) := by
  refine Met.ofW (cc := cX1_mix) (maxL := 1) (ret := none) (by decide) rfl ?_
  intro p e s m args below meth c s₁ B hml hv
  obtain ⟨rfl, ⟨hsz, hP, hK, hD0⟩, -⟩ := hv
  have hx := B.exec
  have hb := B.bytes
  have hr := B.returns
  have hts := atoms_spec (ws := wsX1_mix) B.pre
  have hown : s.vm.findClass RX1 = some m.cls := findClass_of_methodNamed B.named
  have hlocks := B.notSynchronized
  subst hsz
  have hD := hD0.self (sz := s.heap.size)
  have hinX1 := in_X1_mix
  generalize hAe : va_A [(h0, .inr (1, [.int th, .ref a1, .int by0, .int rd, .ref a4, .ref a5, .ref a6, .ref a7, .int zz, .ref a9, .ref a10, .ref a11, .ref a12])), (a10, .inl (cI, 4, .inl b))] s.heap.size = A at hD ⊢
  have hA : ∀ q : Nat, s.heap.size ≤ q → A q := fun q h => by rw [← hAe]; exact Or.inr h
  have hS : va_S A s.heap s.heap [] := va_S.rf
  have hl := lv_entry ([.ref h0]) (n := 1) (Nat.le_of_ble_eq_true rfl)
  rw [lg_entry_eq]
  generalize (lg_sl ([.ref h0]) ++ List.replicate (1 - (lg_sl ([.ref h0])).length) Slot.unset).toArray = ls at hl ⊢
  have hl : lv_has ls 1 [(0, .ref h0)] := hl
  have hP : va_P D vwCl [(h0, .inr (1, [.int th, .ref a1, .int by0, .int rd, .ref a4, .ref a5, .ref a6, .ref a7, .int zz, .ref a9, .ref a10, .ref a11, .ref a12])), (a10, .inl (cI, 4, .inl (st4 b 0 (b 0, b 1, b 2, b 3))))] s.heap := by rw [show st4 b 0 (b 0, b 1, b 2, b 3) = b from st4_ld4 b 0]; exact hP
  have hD : va_D A [(h0, .inr (1, [.int th, .ref a1, .int by0, .int rd, .ref a4, .ref a5, .ref a6, .ref a7, .int zz, .ref a9, .ref a10, .ref a11, .ref a12])), (a10, .inl (cI, 4, .inl (st4 b 0 (b 0, b 1, b 2, b 3))))] := by rw [show st4 b 0 (b 0, b 1, b 2, b 3) = b from st4_ld4 b 0]; exact hD
  refine lv_aload_n hx hb dX1_mix_0 rfl (lv_at hl 0 rfl) ?_
  refine va_get (D := D) (ci := 1) (v := .ref a10) (C := RX1) (T := TX1) (N := 13) hx hb hts hinX1 hown hK hP 0 rfl rfl 10 (by decide) (hts (.fieldLink RX1 28 "SlicedCipherModel" "block" "[I") (by decide +kernel)) (fun _ h9 => h9) rfl dX1_mix_1 ?_
  refine lv_iconst (v := nI 0) hx hb dX1_mix_4 (by decide) ?_
  refine lv_aload_n hx hb dX1_mix_5 rfl (lv_at hl 0 rfl) ?_
  refine va_get (D := D) (ci := 1) (v := .ref a10) (C := RX1) (T := TX1) (N := 13) hx hb hts hinX1 hown hK hP 0 rfl rfl 10 (by decide) (hts (.fieldLink RX1 28 "SlicedCipherModel" "block" "[I") (by decide +kernel)) (fun _ h9 => h9) rfl dX1_mix_6 ?_
  refine lv_iconst (v := nI 0) hx hb dX1_mix_9 (by decide) ?_
  refine wk_iald hx hb hK hP 1 0 rfl rfl (k := 0) (by decide) (by decide) dX1_mix_10 ?_
  refine wk_i (y := b 0) rfl ?_
  refine lv_bipush (v := nI 13) hx hb dX1_mix_11 (by decide) ?_
  refine wk_Sp (v := rotL (b 0) (nI 13)) (As := [.int (b 0), .int (nI 13)]) (rest := [.int (nI 0), .ref a10]) ⟨hx, hb, hml, hown, hts⟩ (c_X1_left l (b 0) 13 (by decide) (by decide)) (va_cwS 2 hts gX1_mix_X1_left rfl rfl rfl (by decide +kernel) ⟨Nat.le_of_ble_eq_true rfl, Nat.le_of_ble_eq_true rfl⟩) rfl hl.1 rfl (Nat.le_of_ble_eq_true rfl) dX1_mix_13 ⟨Nat.zero_le _, Nat.zero_le _⟩ ?_
  refine lv_topi (fun v1 ev1 => ?_)
  refine wk_iast hx hb hK hP hD hS 1 0 rfl rfl (k := 0) (x := v1) (by decide) (by decide) dX1_mix_16 (fun H locs hP hD hS => ?_)
  simp only [List.set, up_0] at hP hD
  have hP : va_P D vwCl [(h0, .inr (1, [.int th, .ref a1, .int by0, .int rd, .ref a4, .ref a5, .ref a6, .ref a7, .int zz, .ref a9, .ref a10, .ref a11, .ref a12])), (a10, .inl (cI, 4, .inl (st4 b 0 (v1, b 1, b 2, b 3))))] H := hP
  have hD : va_D A [(h0, .inr (1, [.int th, .ref a1, .int by0, .int rd, .ref a4, .ref a5, .ref a6, .ref a7, .int zz, .ref a9, .ref a10, .ref a11, .ref a12])), (a10, .inl (cI, 4, .inl (st4 b 0 (v1, b 1, b 2, b 3))))] := hD
  refine lv_aload_n hx hb dX1_mix_17 rfl (lv_at hl 0 rfl) ?_
  refine va_get (D := D) (ci := 1) (v := .ref a10) (C := RX1) (T := TX1) (N := 13) hx hb hts hinX1 hown hK hP 0 rfl rfl 10 (by decide) (hts (.fieldLink RX1 28 "SlicedCipherModel" "block" "[I") (by decide +kernel)) (fun _ h9 => h9) rfl dX1_mix_18 ?_
  refine lv_iconst (v := nI 2) hx hb dX1_mix_21 (by decide) ?_
  refine lv_aload_n hx hb dX1_mix_22 rfl (lv_at hl 0 rfl) ?_
  refine va_get (D := D) (ci := 1) (v := .ref a10) (C := RX1) (T := TX1) (N := 13) hx hb hts hinX1 hown hK hP 0 rfl rfl 10 (by decide) (hts (.fieldLink RX1 28 "SlicedCipherModel" "block" "[I") (by decide +kernel)) (fun _ h9 => h9) rfl dX1_mix_23 ?_
  refine lv_iconst (v := nI 2) hx hb dX1_mix_26 (by decide) ?_
  refine wk_iald hx hb hK hP 1 0 rfl rfl (k := 2) (by decide) (by decide) dX1_mix_27 ?_
  refine wk_i (y := b 2) rfl ?_
  refine lv_iconst (v := nI 3) hx hb dX1_mix_28 (by decide) ?_
  refine wk_Sp (v := rotL (b 2) (nI 3)) (As := [.int (b 2), .int (nI 3)]) (rest := [.int (nI 2), .ref a10]) ⟨hx, hb, hml, hown, hts⟩ (c_X1_left l (b 2) 3 (by decide) (by decide)) (va_cwS 2 hts gX1_mix_X1_left rfl rfl rfl (by decide +kernel) ⟨Nat.le_of_ble_eq_true rfl, Nat.le_of_ble_eq_true rfl⟩) rfl hl.1 rfl (Nat.le_of_ble_eq_true rfl) dX1_mix_29 ⟨Nat.zero_le _, Nat.zero_le _⟩ ?_
  refine lv_topi (fun v2 ev2 => ?_)
  refine wk_iast hx hb hK hP hD hS 1 0 rfl rfl (k := 2) (x := v2) (by decide) (by decide) dX1_mix_32 (fun H locs hP hD hS => ?_)
  simp only [List.set, up_2] at hP hD
  have hP : va_P D vwCl [(h0, .inr (1, [.int th, .ref a1, .int by0, .int rd, .ref a4, .ref a5, .ref a6, .ref a7, .int zz, .ref a9, .ref a10, .ref a11, .ref a12])), (a10, .inl (cI, 4, .inl (st4 b 0 (v1, b 1, v2, b 3))))] H := hP
  have hD : va_D A [(h0, .inr (1, [.int th, .ref a1, .int by0, .int rd, .ref a4, .ref a5, .ref a6, .ref a7, .int zz, .ref a9, .ref a10, .ref a11, .ref a12])), (a10, .inl (cI, 4, .inl (st4 b 0 (v1, b 1, v2, b 3))))] := hD
  refine lv_aload_n hx hb dX1_mix_33 rfl (lv_at hl 0 rfl) ?_
  refine va_get (D := D) (ci := 1) (v := .ref a10) (C := RX1) (T := TX1) (N := 13) hx hb hts hinX1 hown hK hP 0 rfl rfl 10 (by decide) (hts (.fieldLink RX1 28 "SlicedCipherModel" "block" "[I") (by decide +kernel)) (fun _ h9 => h9) rfl dX1_mix_34 ?_
  refine lv_iconst (v := nI 1) hx hb dX1_mix_37 (by decide) ?_
  refine lv_aload_n hx hb dX1_mix_38 rfl (lv_at hl 0 rfl) ?_
  refine va_get (D := D) (ci := 1) (v := .ref a10) (C := RX1) (T := TX1) (N := 13) hx hb hts hinX1 hown hK hP 0 rfl rfl 10 (by decide) (hts (.fieldLink RX1 28 "SlicedCipherModel" "block" "[I") (by decide +kernel)) (fun _ h9 => h9) rfl dX1_mix_39 ?_
  refine lv_iconst (v := nI 1) hx hb dX1_mix_42 (by decide) ?_
  refine wk_iald hx hb hK hP 1 0 rfl rfl (k := 1) (by decide) (by decide) dX1_mix_43 ?_
  refine wk_i (y := b 1) rfl ?_
  refine lv_aload_n hx hb dX1_mix_44 rfl (lv_at hl 0 rfl) ?_
  refine va_get (D := D) (ci := 1) (v := .ref a10) (C := RX1) (T := TX1) (N := 13) hx hb hts hinX1 hown hK hP 0 rfl rfl 10 (by decide) (hts (.fieldLink RX1 28 "SlicedCipherModel" "block" "[I") (by decide +kernel)) (fun _ h9 => h9) rfl dX1_mix_45 ?_
  refine lv_iconst (v := nI 0) hx hb dX1_mix_48 (by decide) ?_
  refine wk_iald hx hb hK hP 1 0 rfl rfl (k := 0) (by decide) (by decide) dX1_mix_49 ?_
  refine wk_i (y := v1) rfl ?_
  refine lv_ixor hx hb dX1_mix_50 ?_
  refine lv_aload_n hx hb dX1_mix_51 rfl (lv_at hl 0 rfl) ?_
  refine va_get (D := D) (ci := 1) (v := .ref a10) (C := RX1) (T := TX1) (N := 13) hx hb hts hinX1 hown hK hP 0 rfl rfl 10 (by decide) (hts (.fieldLink RX1 28 "SlicedCipherModel" "block" "[I") (by decide +kernel)) (fun _ h9 => h9) rfl dX1_mix_52 ?_
  refine lv_iconst (v := nI 2) hx hb dX1_mix_55 (by decide) ?_
  refine wk_iald hx hb hK hP 1 0 rfl rfl (k := 2) (by decide) (by decide) dX1_mix_56 ?_
  refine wk_i (y := v2) rfl ?_
  refine lv_ixor hx hb dX1_mix_57 ?_
  refine lv_topi (fun v3 ev3 => ?_)
  refine wk_iast hx hb hK hP hD hS 1 0 rfl rfl (k := 1) (x := v3) (by decide) (by decide) dX1_mix_58 (fun H locs hP hD hS => ?_)
  simp only [List.set, up_1] at hP hD
  have hP : va_P D vwCl [(h0, .inr (1, [.int th, .ref a1, .int by0, .int rd, .ref a4, .ref a5, .ref a6, .ref a7, .int zz, .ref a9, .ref a10, .ref a11, .ref a12])), (a10, .inl (cI, 4, .inl (st4 b 0 (v1, v3, v2, b 3))))] H := hP
  have hD : va_D A [(h0, .inr (1, [.int th, .ref a1, .int by0, .int rd, .ref a4, .ref a5, .ref a6, .ref a7, .int zz, .ref a9, .ref a10, .ref a11, .ref a12])), (a10, .inl (cI, 4, .inl (st4 b 0 (v1, v3, v2, b 3))))] := hD
  refine lv_aload_n hx hb dX1_mix_59 rfl (lv_at hl 0 rfl) ?_
  refine va_get (D := D) (ci := 1) (v := .ref a10) (C := RX1) (T := TX1) (N := 13) hx hb hts hinX1 hown hK hP 0 rfl rfl 10 (by decide) (hts (.fieldLink RX1 28 "SlicedCipherModel" "block" "[I") (by decide +kernel)) (fun _ h9 => h9) rfl dX1_mix_60 ?_
  refine lv_iconst (v := nI 3) hx hb dX1_mix_63 (by decide) ?_
  refine lv_aload_n hx hb dX1_mix_64 rfl (lv_at hl 0 rfl) ?_
  refine va_get (D := D) (ci := 1) (v := .ref a10) (C := RX1) (T := TX1) (N := 13) hx hb hts hinX1 hown hK hP 0 rfl rfl 10 (by decide) (hts (.fieldLink RX1 28 "SlicedCipherModel" "block" "[I") (by decide +kernel)) (fun _ h9 => h9) rfl dX1_mix_65 ?_
  refine lv_iconst (v := nI 3) hx hb dX1_mix_68 (by decide) ?_
  refine wk_iald hx hb hK hP 1 0 rfl rfl (k := 3) (by decide) (by decide) dX1_mix_69 ?_
  refine wk_i (y := b 3) rfl ?_
  refine lv_aload_n hx hb dX1_mix_70 rfl (lv_at hl 0 rfl) ?_
  refine va_get (D := D) (ci := 1) (v := .ref a10) (C := RX1) (T := TX1) (N := 13) hx hb hts hinX1 hown hK hP 0 rfl rfl 10 (by decide) (hts (.fieldLink RX1 28 "SlicedCipherModel" "block" "[I") (by decide +kernel)) (fun _ h9 => h9) rfl dX1_mix_71 ?_
  refine lv_iconst (v := nI 2) hx hb dX1_mix_74 (by decide) ?_
  refine wk_iald hx hb hK hP 1 0 rfl rfl (k := 2) (by decide) (by decide) dX1_mix_75 ?_
  refine wk_i (y := v2) rfl ?_
  refine lv_ixor hx hb dX1_mix_76 ?_
  refine lv_aload_n hx hb dX1_mix_77 rfl (lv_at hl 0 rfl) ?_
  refine va_get (D := D) (ci := 1) (v := .ref a10) (C := RX1) (T := TX1) (N := 13) hx hb hts hinX1 hown hK hP 0 rfl rfl 10 (by decide) (hts (.fieldLink RX1 28 "SlicedCipherModel" "block" "[I") (by decide +kernel)) (fun _ h9 => h9) rfl dX1_mix_78 ?_
  refine lv_iconst (v := nI 0) hx hb dX1_mix_81 (by decide) ?_
  refine wk_iald hx hb hK hP 1 0 rfl rfl (k := 0) (by decide) (by decide) dX1_mix_82 ?_
  refine wk_i (y := v1) rfl ?_
  refine lv_bipush (v := nI 8) hx hb dX1_mix_83 (by decide) ?_
  refine lv_imul hx hb dX1_mix_85 ?_
  refine wk_i (y := v1 <<< (nI 3 &&& 31)) (mul8 _) ?_
  refine lv_ixor hx hb dX1_mix_86 ?_
  refine lv_topi (fun v4 ev4 => ?_)
  refine wk_iast hx hb hK hP hD hS 1 0 rfl rfl (k := 3) (x := v4) (by decide) (by decide) dX1_mix_87 (fun H locs hP hD hS => ?_)
  simp only [List.set, up_3] at hP hD
  have hP : va_P D vwCl [(h0, .inr (1, [.int th, .ref a1, .int by0, .int rd, .ref a4, .ref a5, .ref a6, .ref a7, .int zz, .ref a9, .ref a10, .ref a11, .ref a12])), (a10, .inl (cI, 4, .inl (st4 b 0 (v1, v3, v2, v4))))] H := hP
  have hD : va_D A [(h0, .inr (1, [.int th, .ref a1, .int by0, .int rd, .ref a4, .ref a5, .ref a6, .ref a7, .int zz, .ref a9, .ref a10, .ref a11, .ref a12])), (a10, .inl (cI, 4, .inl (st4 b 0 (v1, v3, v2, v4))))] := hD
  refine lv_aload_n hx hb dX1_mix_88 rfl (lv_at hl 0 rfl) ?_
  refine va_get (D := D) (ci := 1) (v := .ref a10) (C := RX1) (T := TX1) (N := 13) hx hb hts hinX1 hown hK hP 0 rfl rfl 10 (by decide) (hts (.fieldLink RX1 28 "SlicedCipherModel" "block" "[I") (by decide +kernel)) (fun _ h9 => h9) rfl dX1_mix_89 ?_
  refine lv_iconst (v := nI 1) hx hb dX1_mix_92 (by decide) ?_
  refine lv_aload_n hx hb dX1_mix_93 rfl (lv_at hl 0 rfl) ?_
  refine va_get (D := D) (ci := 1) (v := .ref a10) (C := RX1) (T := TX1) (N := 13) hx hb hts hinX1 hown hK hP 0 rfl rfl 10 (by decide) (hts (.fieldLink RX1 28 "SlicedCipherModel" "block" "[I") (by decide +kernel)) (fun _ h9 => h9) rfl dX1_mix_94 ?_
  refine lv_iconst (v := nI 1) hx hb dX1_mix_97 (by decide) ?_
  refine wk_iald hx hb hK hP 1 0 rfl rfl (k := 1) (by decide) (by decide) dX1_mix_98 ?_
  refine wk_i (y := v3) rfl ?_
  refine lv_iconst (v := nI 1) hx hb dX1_mix_99 (by decide) ?_
  refine wk_Sp (v := rotL v3 (nI 1)) (As := [.int v3, .int (nI 1)]) (rest := [.int (nI 1), .ref a10]) ⟨hx, hb, hml, hown, hts⟩ (c_X1_left l v3 1 (by decide) (by decide)) (va_cwS 2 hts gX1_mix_X1_left rfl rfl rfl (by decide +kernel) ⟨Nat.le_of_ble_eq_true rfl, Nat.le_of_ble_eq_true rfl⟩) rfl hl.1 rfl (Nat.le_of_ble_eq_true rfl) dX1_mix_100 ⟨Nat.zero_le _, Nat.zero_le _⟩ ?_
  refine lv_topi (fun v5 ev5 => ?_)
  refine wk_iast hx hb hK hP hD hS 1 0 rfl rfl (k := 1) (x := v5) (by decide) (by decide) dX1_mix_103 (fun H locs hP hD hS => ?_)
  simp only [List.set, up_1] at hP hD
  have hP : va_P D vwCl [(h0, .inr (1, [.int th, .ref a1, .int by0, .int rd, .ref a4, .ref a5, .ref a6, .ref a7, .int zz, .ref a9, .ref a10, .ref a11, .ref a12])), (a10, .inl (cI, 4, .inl (st4 b 0 (v1, v5, v2, v4))))] H := hP
  have hD : va_D A [(h0, .inr (1, [.int th, .ref a1, .int by0, .int rd, .ref a4, .ref a5, .ref a6, .ref a7, .int zz, .ref a9, .ref a10, .ref a11, .ref a12])), (a10, .inl (cI, 4, .inl (st4 b 0 (v1, v5, v2, v4))))] := hD
  refine lv_aload_n hx hb dX1_mix_104 rfl (lv_at hl 0 rfl) ?_
  refine va_get (D := D) (ci := 1) (v := .ref a10) (C := RX1) (T := TX1) (N := 13) hx hb hts hinX1 hown hK hP 0 rfl rfl 10 (by decide) (hts (.fieldLink RX1 28 "SlicedCipherModel" "block" "[I") (by decide +kernel)) (fun _ h9 => h9) rfl dX1_mix_105 ?_
  refine lv_iconst (v := nI 3) hx hb dX1_mix_108 (by decide) ?_
  refine lv_aload_n hx hb dX1_mix_109 rfl (lv_at hl 0 rfl) ?_
  refine va_get (D := D) (ci := 1) (v := .ref a10) (C := RX1) (T := TX1) (N := 13) hx hb hts hinX1 hown hK hP 0 rfl rfl 10 (by decide) (hts (.fieldLink RX1 28 "SlicedCipherModel" "block" "[I") (by decide +kernel)) (fun _ h9 => h9) rfl dX1_mix_110 ?_
  refine lv_iconst (v := nI 3) hx hb dX1_mix_113 (by decide) ?_
  refine wk_iald hx hb hK hP 1 0 rfl rfl (k := 3) (by decide) (by decide) dX1_mix_114 ?_
  refine wk_i (y := v4) rfl ?_
  refine lv_bipush (v := nI 7) hx hb dX1_mix_115 (by decide) ?_
  refine wk_Sp (v := rotL v4 (nI 7)) (As := [.int v4, .int (nI 7)]) (rest := [.int (nI 3), .ref a10]) ⟨hx, hb, hml, hown, hts⟩ (c_X1_left l v4 7 (by decide) (by decide)) (va_cwS 2 hts gX1_mix_X1_left rfl rfl rfl (by decide +kernel) ⟨Nat.le_of_ble_eq_true rfl, Nat.le_of_ble_eq_true rfl⟩) rfl hl.1 rfl (Nat.le_of_ble_eq_true rfl) dX1_mix_117 ⟨Nat.zero_le _, Nat.zero_le _⟩ ?_
  refine lv_topi (fun v6 ev6 => ?_)
  refine wk_iast hx hb hK hP hD hS 1 0 rfl rfl (k := 3) (x := v6) (by decide) (by decide) dX1_mix_120 (fun H locs hP hD hS => ?_)
  simp only [List.set, up_3] at hP hD
  have hP : va_P D vwCl [(h0, .inr (1, [.int th, .ref a1, .int by0, .int rd, .ref a4, .ref a5, .ref a6, .ref a7, .int zz, .ref a9, .ref a10, .ref a11, .ref a12])), (a10, .inl (cI, 4, .inl (st4 b 0 (v1, v5, v2, v6))))] H := hP
  have hD : va_D A [(h0, .inr (1, [.int th, .ref a1, .int by0, .int rd, .ref a4, .ref a5, .ref a6, .ref a7, .int zz, .ref a9, .ref a10, .ref a11, .ref a12])), (a10, .inl (cI, 4, .inl (st4 b 0 (v1, v5, v2, v6))))] := hD
  refine lv_aload_n hx hb dX1_mix_121 rfl (lv_at hl 0 rfl) ?_
  refine va_get (D := D) (ci := 1) (v := .ref a10) (C := RX1) (T := TX1) (N := 13) hx hb hts hinX1 hown hK hP 0 rfl rfl 10 (by decide) (hts (.fieldLink RX1 28 "SlicedCipherModel" "block" "[I") (by decide +kernel)) (fun _ h9 => h9) rfl dX1_mix_122 ?_
  refine lv_iconst (v := nI 0) hx hb dX1_mix_125 (by decide) ?_
  refine lv_aload_n hx hb dX1_mix_126 rfl (lv_at hl 0 rfl) ?_
  refine va_get (D := D) (ci := 1) (v := .ref a10) (C := RX1) (T := TX1) (N := 13) hx hb hts hinX1 hown hK hP 0 rfl rfl 10 (by decide) (hts (.fieldLink RX1 28 "SlicedCipherModel" "block" "[I") (by decide +kernel)) (fun _ h9 => h9) rfl dX1_mix_127 ?_
  refine lv_iconst (v := nI 0) hx hb dX1_mix_130 (by decide) ?_
  refine wk_iald hx hb hK hP 1 0 rfl rfl (k := 0) (by decide) (by decide) dX1_mix_131 ?_
  refine wk_i (y := v1) rfl ?_
  refine lv_aload_n hx hb dX1_mix_132 rfl (lv_at hl 0 rfl) ?_
  refine va_get (D := D) (ci := 1) (v := .ref a10) (C := RX1) (T := TX1) (N := 13) hx hb hts hinX1 hown hK hP 0 rfl rfl 10 (by decide) (hts (.fieldLink RX1 28 "SlicedCipherModel" "block" "[I") (by decide +kernel)) (fun _ h9 => h9) rfl dX1_mix_133 ?_
  refine lv_iconst (v := nI 1) hx hb dX1_mix_136 (by decide) ?_
  refine wk_iald hx hb hK hP 1 0 rfl rfl (k := 1) (by decide) (by decide) dX1_mix_137 ?_
  refine wk_i (y := v5) rfl ?_
  refine lv_ixor hx hb dX1_mix_138 ?_
  refine lv_aload_n hx hb dX1_mix_139 rfl (lv_at hl 0 rfl) ?_
  refine va_get (D := D) (ci := 1) (v := .ref a10) (C := RX1) (T := TX1) (N := 13) hx hb hts hinX1 hown hK hP 0 rfl rfl 10 (by decide) (hts (.fieldLink RX1 28 "SlicedCipherModel" "block" "[I") (by decide +kernel)) (fun _ h9 => h9) rfl dX1_mix_140 ?_
  refine lv_iconst (v := nI 3) hx hb dX1_mix_143 (by decide) ?_
  refine wk_iald hx hb hK hP 1 0 rfl rfl (k := 3) (by decide) (by decide) dX1_mix_144 ?_
  refine wk_i (y := v6) rfl ?_
  refine lv_ixor hx hb dX1_mix_145 ?_
  refine lv_topi (fun v7 ev7 => ?_)
  refine wk_iast hx hb hK hP hD hS 1 0 rfl rfl (k := 0) (x := v7) (by decide) (by decide) dX1_mix_146 (fun H locs hP hD hS => ?_)
  simp only [List.set, up_0] at hP hD
  have hP : va_P D vwCl [(h0, .inr (1, [.int th, .ref a1, .int by0, .int rd, .ref a4, .ref a5, .ref a6, .ref a7, .int zz, .ref a9, .ref a10, .ref a11, .ref a12])), (a10, .inl (cI, 4, .inl (st4 b 0 (v7, v5, v2, v6))))] H := hP
  have hD : va_D A [(h0, .inr (1, [.int th, .ref a1, .int by0, .int rd, .ref a4, .ref a5, .ref a6, .ref a7, .int zz, .ref a9, .ref a10, .ref a11, .ref a12])), (a10, .inl (cI, 4, .inl (st4 b 0 (v7, v5, v2, v6))))] := hD
  refine lv_aload_n hx hb dX1_mix_147 rfl (lv_at hl 0 rfl) ?_
  refine va_get (D := D) (ci := 1) (v := .ref a10) (C := RX1) (T := TX1) (N := 13) hx hb hts hinX1 hown hK hP 0 rfl rfl 10 (by decide) (hts (.fieldLink RX1 28 "SlicedCipherModel" "block" "[I") (by decide +kernel)) (fun _ h9 => h9) rfl dX1_mix_148 ?_
  refine lv_iconst (v := nI 2) hx hb dX1_mix_151 (by decide) ?_
  refine lv_aload_n hx hb dX1_mix_152 rfl (lv_at hl 0 rfl) ?_
  refine va_get (D := D) (ci := 1) (v := .ref a10) (C := RX1) (T := TX1) (N := 13) hx hb hts hinX1 hown hK hP 0 rfl rfl 10 (by decide) (hts (.fieldLink RX1 28 "SlicedCipherModel" "block" "[I") (by decide +kernel)) (fun _ h9 => h9) rfl dX1_mix_153 ?_
  refine lv_iconst (v := nI 2) hx hb dX1_mix_156 (by decide) ?_
  refine wk_iald hx hb hK hP 1 0 rfl rfl (k := 2) (by decide) (by decide) dX1_mix_157 ?_
  refine wk_i (y := v2) rfl ?_
  refine lv_aload_n hx hb dX1_mix_158 rfl (lv_at hl 0 rfl) ?_
  refine va_get (D := D) (ci := 1) (v := .ref a10) (C := RX1) (T := TX1) (N := 13) hx hb hts hinX1 hown hK hP 0 rfl rfl 10 (by decide) (hts (.fieldLink RX1 28 "SlicedCipherModel" "block" "[I") (by decide +kernel)) (fun _ h9 => h9) rfl dX1_mix_159 ?_
  refine lv_iconst (v := nI 3) hx hb dX1_mix_162 (by decide) ?_
  refine wk_iald hx hb hK hP 1 0 rfl rfl (k := 3) (by decide) (by decide) dX1_mix_163 ?_
  refine wk_i (y := v6) rfl ?_
  refine lv_ixor hx hb dX1_mix_164 ?_
  refine lv_aload_n hx hb dX1_mix_165 rfl (lv_at hl 0 rfl) ?_
  refine va_get (D := D) (ci := 1) (v := .ref a10) (C := RX1) (T := TX1) (N := 13) hx hb hts hinX1 hown hK hP 0 rfl rfl 10 (by decide) (hts (.fieldLink RX1 28 "SlicedCipherModel" "block" "[I") (by decide +kernel)) (fun _ h9 => h9) rfl dX1_mix_166 ?_
  refine lv_iconst (v := nI 1) hx hb dX1_mix_169 (by decide) ?_
  refine wk_iald hx hb hK hP 1 0 rfl rfl (k := 1) (by decide) (by decide) dX1_mix_170 ?_
  refine wk_i (y := v5) rfl ?_
  refine lv_sipush (v := nI 128) hx hb dX1_mix_171 (by decide) ?_
  refine lv_imul hx hb dX1_mix_174 ?_
  refine wk_i (y := v5 <<< (nI 7 &&& 31)) (mul128 _) ?_
  refine lv_ixor hx hb dX1_mix_175 ?_
  refine lv_topi (fun v8 ev8 => ?_)
  refine wk_iast hx hb hK hP hD hS 1 0 rfl rfl (k := 2) (x := v8) (by decide) (by decide) dX1_mix_176 (fun H locs hP hD hS => ?_)
  simp only [List.set, up_2] at hP hD
  have hP : va_P D vwCl [(h0, .inr (1, [.int th, .ref a1, .int by0, .int rd, .ref a4, .ref a5, .ref a6, .ref a7, .int zz, .ref a9, .ref a10, .ref a11, .ref a12])), (a10, .inl (cI, 4, .inl (st4 b 0 (v7, v5, v8, v6))))] H := hP
  have hD : va_D A [(h0, .inr (1, [.int th, .ref a1, .int by0, .int rd, .ref a4, .ref a5, .ref a6, .ref a7, .int zz, .ref a9, .ref a10, .ref a11, .ref a12])), (a10, .inl (cI, 4, .inl (st4 b 0 (v7, v5, v8, v6))))] := hD
  refine lv_aload_n hx hb dX1_mix_177 rfl (lv_at hl 0 rfl) ?_
  refine va_get (D := D) (ci := 1) (v := .ref a10) (C := RX1) (T := TX1) (N := 13) hx hb hts hinX1 hown hK hP 0 rfl rfl 10 (by decide) (hts (.fieldLink RX1 28 "SlicedCipherModel" "block" "[I") (by decide +kernel)) (fun _ h9 => h9) rfl dX1_mix_178 ?_
  refine lv_iconst (v := nI 0) hx hb dX1_mix_181 (by decide) ?_
  refine lv_aload_n hx hb dX1_mix_182 rfl (lv_at hl 0 rfl) ?_
  refine va_get (D := D) (ci := 1) (v := .ref a10) (C := RX1) (T := TX1) (N := 13) hx hb hts hinX1 hown hK hP 0 rfl rfl 10 (by decide) (hts (.fieldLink RX1 28 "SlicedCipherModel" "block" "[I") (by decide +kernel)) (fun _ h9 => h9) rfl dX1_mix_183 ?_
  refine lv_iconst (v := nI 0) hx hb dX1_mix_186 (by decide) ?_
  refine wk_iald hx hb hK hP 1 0 rfl rfl (k := 0) (by decide) (by decide) dX1_mix_187 ?_
  refine wk_i (y := v7) rfl ?_
  refine lv_iconst (v := nI 5) hx hb dX1_mix_188 (by decide) ?_
  refine wk_Sp (v := rotL v7 (nI 5)) (As := [.int v7, .int (nI 5)]) (rest := [.int (nI 0), .ref a10]) ⟨hx, hb, hml, hown, hts⟩ (c_X1_left l v7 5 (by decide) (by decide)) (va_cwS 2 hts gX1_mix_X1_left rfl rfl rfl (by decide +kernel) ⟨Nat.le_of_ble_eq_true rfl, Nat.le_of_ble_eq_true rfl⟩) rfl hl.1 rfl (Nat.le_of_ble_eq_true rfl) dX1_mix_189 ⟨Nat.zero_le _, Nat.zero_le _⟩ ?_
  refine lv_topi (fun v9 ev9 => ?_)
  refine wk_iast hx hb hK hP hD hS 1 0 rfl rfl (k := 0) (x := v9) (by decide) (by decide) dX1_mix_192 (fun H locs hP hD hS => ?_)
  simp only [List.set, up_0] at hP hD
  have hP : va_P D vwCl [(h0, .inr (1, [.int th, .ref a1, .int by0, .int rd, .ref a4, .ref a5, .ref a6, .ref a7, .int zz, .ref a9, .ref a10, .ref a11, .ref a12])), (a10, .inl (cI, 4, .inl (st4 b 0 (v9, v5, v8, v6))))] H := hP
  have hD : va_D A [(h0, .inr (1, [.int th, .ref a1, .int by0, .int rd, .ref a4, .ref a5, .ref a6, .ref a7, .int zz, .ref a9, .ref a10, .ref a11, .ref a12])), (a10, .inl (cI, 4, .inl (st4 b 0 (v9, v5, v8, v6))))] := hD
  refine lv_aload_n hx hb dX1_mix_193 rfl (lv_at hl 0 rfl) ?_
  refine va_get (D := D) (ci := 1) (v := .ref a10) (C := RX1) (T := TX1) (N := 13) hx hb hts hinX1 hown hK hP 0 rfl rfl 10 (by decide) (hts (.fieldLink RX1 28 "SlicedCipherModel" "block" "[I") (by decide +kernel)) (fun _ h9 => h9) rfl dX1_mix_194 ?_
  refine lv_iconst (v := nI 2) hx hb dX1_mix_197 (by decide) ?_
  refine lv_aload_n hx hb dX1_mix_198 rfl (lv_at hl 0 rfl) ?_
  refine va_get (D := D) (ci := 1) (v := .ref a10) (C := RX1) (T := TX1) (N := 13) hx hb hts hinX1 hown hK hP 0 rfl rfl 10 (by decide) (hts (.fieldLink RX1 28 "SlicedCipherModel" "block" "[I") (by decide +kernel)) (fun _ h9 => h9) rfl dX1_mix_199 ?_
  refine lv_iconst (v := nI 2) hx hb dX1_mix_202 (by decide) ?_
  refine wk_iald hx hb hK hP 1 0 rfl rfl (k := 2) (by decide) (by decide) dX1_mix_203 ?_
  refine wk_i (y := v8) rfl ?_
  refine lv_bipush (v := nI 22) hx hb dX1_mix_204 (by decide) ?_
  refine wk_Sp (v := rotL v8 (nI 22)) (As := [.int v8, .int (nI 22)]) (rest := [.int (nI 2), .ref a10]) ⟨hx, hb, hml, hown, hts⟩ (c_X1_left l v8 22 (by decide) (by decide)) (va_cwS 2 hts gX1_mix_X1_left rfl rfl rfl (by decide +kernel) ⟨Nat.le_of_ble_eq_true rfl, Nat.le_of_ble_eq_true rfl⟩) rfl hl.1 rfl (Nat.le_of_ble_eq_true rfl) dX1_mix_206 ⟨Nat.zero_le _, Nat.zero_le _⟩ ?_
  refine lv_topi (fun v10 ev10 => ?_)
  refine wk_iast hx hb hK hP hD hS 1 0 rfl rfl (k := 2) (x := v10) (by decide) (by decide) dX1_mix_209 (fun H locs hP hD hS => ?_)
  simp only [List.set, up_2] at hP hD
  have hP : va_P D vwCl [(h0, .inr (1, [.int th, .ref a1, .int by0, .int rd, .ref a4, .ref a5, .ref a6, .ref a7, .int zz, .ref a9, .ref a10, .ref a11, .ref a12])), (a10, .inl (cI, 4, .inl (st4 b 0 (v9, v5, v10, v6))))] H := hP
  have hD : va_D A [(h0, .inr (1, [.int th, .ref a1, .int by0, .int rd, .ref a4, .ref a5, .ref a6, .ref a7, .int zz, .ref a9, .ref a10, .ref a11, .ref a12])), (a10, .inl (cI, 4, .inl (st4 b 0 (v9, v5, v10, v6))))] := hD
  have e9 : ((v9, v5, v10, v6) : Qd) = cMix (ld4 b 0) := by subst ev10 ev9 ev8 ev7 ev6 ev5 ev4 ev3 ev2 ev1; rfl
  rw [e9] at hP hD
  exact W.vret hx hb hr (fun t ht hW => ⟨⟨(), rfl, trivial, by rw [ht]; exact hP, va_K.moved hW.alike hK, hD⟩, hS.F ht⟩) hS.2.2 dX1_mix_210
set_option maxRecDepth 100000 in
theorem in_X1_unmix : ∀ w ∈ wsX10, w ∈ wsX1_unmix := by decide +kernel
set_option maxHeartbeats 4000000 in
set_option maxRecDepth 100000 in
theorem c_X1_unmix (l : Launch) (D : va_G) (cI : ClassId) (sz : Nat) (h0 a1 a4 a5 a6 a7 a9 a10 a11 a12 : Nat) (th by0 rd zz : Int32) (b : Nat → Int32) : Met l yX1_unmix wsX1_unmix ({ frames := 2, cells := 0, slots := 0, locals := 44 }) (va_Pc [.ref h0] (fun U => PW D [(cI, .int)] [(h0, .inr (1, [.int th, .ref a1, .int by0, .int rd, .ref a4, .ref a5, .ref a6, .ref a7, .int zz, .ref a9, .ref a10, .ref a11, .ref a12])), (a10, .inl (cI, 4, .inl b))] sz U ∧ True)) (va_Qv (fun _ : Unit => True) (fun _ => BW D [(cI, .int)] (va_A [(h0, .inr (1, [.int th, .ref a1, .int by0, .int rd, .ref a4, .ref a5, .ref a6, .ref a7, .int zz, .ref a9, .ref a10, .ref a11, .ref a12])), (a10, .inl (cI, 4, .inl b))] sz) [(h0, .inr (1, [.int th, .ref a1, .int by0, .int rd, .ref a4, .ref a5, .ref a6, .ref a7, .int zz, .ref a9, .ref a10, .ref a11, .ref a12])), (a10, .inl (cI, 4, .inl (st4 b 0 (cUnmix (ld4 b 0)))))]) (va_A [(h0, .inr (1, [.int th, .ref a1, .int by0, .int rd, .ref a4, .ref a5, .ref a6, .ref a7, .int zz, .ref a9, .ref a10, .ref a11, .ref a12])), (a10, .inl (cI, 4, .inl b))] sz)) 0 0 (va_A [(h0, .inr (1, [.int th, .ref a1, .int by0, .int rd, .ref a4, .ref a5, .ref a6, .ref a7, .int zz, .ref a9, .ref a10, .ref a11, .ref a12])), (a10, .inl (cI, 4, .inl b))] sz) := by
  refine Met.ofW (cc := cX1_unmix) (maxL := 1) (ret := none) (by decide) rfl ?_
  intro p e s m args below meth c s₁ B hml hv
  obtain ⟨rfl, ⟨hsz, hP, hK, hD0⟩, -⟩ := hv
  have hx := B.exec
  have hb := B.bytes
  have hr := B.returns
  have hts := atoms_spec (ws := wsX1_unmix) B.pre
  have hown : s.vm.findClass RX1 = some m.cls := findClass_of_methodNamed B.named
  have hlocks := B.notSynchronized
  subst hsz
  have hD := hD0.self (sz := s.heap.size)
  have hinX1 := in_X1_unmix
  generalize hAe : va_A [(h0, .inr (1, [.int th, .ref a1, .int by0, .int rd, .ref a4, .ref a5, .ref a6, .ref a7, .int zz, .ref a9, .ref a10, .ref a11, .ref a12])), (a10, .inl (cI, 4, .inl b))] s.heap.size = A at hD ⊢
  have hA : ∀ q : Nat, s.heap.size ≤ q → A q := fun q h => by rw [← hAe]; exact Or.inr h
  have hS : va_S A s.heap s.heap [] := va_S.rf
  have hl := lv_entry ([.ref h0]) (n := 1) (Nat.le_of_ble_eq_true rfl)
  rw [lg_entry_eq]
  generalize (lg_sl ([.ref h0]) ++ List.replicate (1 - (lg_sl ([.ref h0])).length) Slot.unset).toArray = ls at hl ⊢
  have hl : lv_has ls 1 [(0, .ref h0)] := hl
  have hP : va_P D vwCl [(h0, .inr (1, [.int th, .ref a1, .int by0, .int rd, .ref a4, .ref a5, .ref a6, .ref a7, .int zz, .ref a9, .ref a10, .ref a11, .ref a12])), (a10, .inl (cI, 4, .inl (st4 b 0 (b 0, b 1, b 2, b 3))))] s.heap := by rw [show st4 b 0 (b 0, b 1, b 2, b 3) = b from st4_ld4 b 0]; exact hP
  have hD : va_D A [(h0, .inr (1, [.int th, .ref a1, .int by0, .int rd, .ref a4, .ref a5, .ref a6, .ref a7, .int zz, .ref a9, .ref a10, .ref a11, .ref a12])), (a10, .inl (cI, 4, .inl (st4 b 0 (b 0, b 1, b 2, b 3))))] := by rw [show st4 b 0 (b 0, b 1, b 2, b 3) = b from st4_ld4 b 0]; exact hD
  refine lv_aload_n hx hb dX1_unmix_0 rfl (lv_at hl 0 rfl) ?_
  refine va_get (D := D) (ci := 1) (v := .ref a10) (C := RX1) (T := TX1) (N := 13) hx hb hts hinX1 hown hK hP 0 rfl rfl 10 (by decide) (hts (.fieldLink RX1 28 "SlicedCipherModel" "block" "[I") (by decide +kernel)) (fun _ h9 => h9) rfl dX1_unmix_1 ?_
  refine lv_iconst (v := nI 2) hx hb dX1_unmix_4 (by decide) ?_
  refine lv_aload_n hx hb dX1_unmix_5 rfl (lv_at hl 0 rfl) ?_
  refine va_get (D := D) (ci := 1) (v := .ref a10) (C := RX1) (T := TX1) (N := 13) hx hb hts hinX1 hown hK hP 0 rfl rfl 10 (by decide) (hts (.fieldLink RX1 28 "SlicedCipherModel" "block" "[I") (by decide +kernel)) (fun _ h9 => h9) rfl dX1_unmix_6 ?_
  refine lv_iconst (v := nI 2) hx hb dX1_unmix_9 (by decide) ?_
  refine wk_iald hx hb hK hP 1 0 rfl rfl (k := 2) (by decide) (by decide) dX1_unmix_10 ?_
  refine wk_i (y := b 2) rfl ?_
  refine lv_bipush (v := nI 22) hx hb dX1_unmix_11 (by decide) ?_
  refine wk_Sp (v := rotR (b 2) (nI 22)) (As := [.int (b 2), .int (nI 22)]) (rest := [.int (nI 2), .ref a10]) ⟨hx, hb, hml, hown, hts⟩ (c_X1_right l (b 2) 22 (by decide) (by decide)) (va_cwS 2 hts gX1_unmix_X1_right rfl rfl rfl (by decide +kernel) ⟨Nat.le_of_ble_eq_true rfl, Nat.le_of_ble_eq_true rfl⟩) rfl hl.1 rfl (Nat.le_of_ble_eq_true rfl) dX1_unmix_13 ⟨Nat.zero_le _, Nat.zero_le _⟩ ?_
  refine lv_topi (fun v1 ev1 => ?_)
  refine wk_iast hx hb hK hP hD hS 1 0 rfl rfl (k := 2) (x := v1) (by decide) (by decide) dX1_unmix_16 (fun H locs hP hD hS => ?_)
  simp only [List.set, up_2] at hP hD
  have hP : va_P D vwCl [(h0, .inr (1, [.int th, .ref a1, .int by0, .int rd, .ref a4, .ref a5, .ref a6, .ref a7, .int zz, .ref a9, .ref a10, .ref a11, .ref a12])), (a10, .inl (cI, 4, .inl (st4 b 0 (b 0, b 1, v1, b 3))))] H := hP
  have hD : va_D A [(h0, .inr (1, [.int th, .ref a1, .int by0, .int rd, .ref a4, .ref a5, .ref a6, .ref a7, .int zz, .ref a9, .ref a10, .ref a11, .ref a12])), (a10, .inl (cI, 4, .inl (st4 b 0 (b 0, b 1, v1, b 3))))] := hD
  refine lv_aload_n hx hb dX1_unmix_17 rfl (lv_at hl 0 rfl) ?_
  refine va_get (D := D) (ci := 1) (v := .ref a10) (C := RX1) (T := TX1) (N := 13) hx hb hts hinX1 hown hK hP 0 rfl rfl 10 (by decide) (hts (.fieldLink RX1 28 "SlicedCipherModel" "block" "[I") (by decide +kernel)) (fun _ h9 => h9) rfl dX1_unmix_18 ?_
  refine lv_iconst (v := nI 0) hx hb dX1_unmix_21 (by decide) ?_
  refine lv_aload_n hx hb dX1_unmix_22 rfl (lv_at hl 0 rfl) ?_
  refine va_get (D := D) (ci := 1) (v := .ref a10) (C := RX1) (T := TX1) (N := 13) hx hb hts hinX1 hown hK hP 0 rfl rfl 10 (by decide) (hts (.fieldLink RX1 28 "SlicedCipherModel" "block" "[I") (by decide +kernel)) (fun _ h9 => h9) rfl dX1_unmix_23 ?_
  refine lv_iconst (v := nI 0) hx hb dX1_unmix_26 (by decide) ?_
  refine wk_iald hx hb hK hP 1 0 rfl rfl (k := 0) (by decide) (by decide) dX1_unmix_27 ?_
  refine wk_i (y := b 0) rfl ?_
  refine lv_iconst (v := nI 5) hx hb dX1_unmix_28 (by decide) ?_
  refine wk_Sp (v := rotR (b 0) (nI 5)) (As := [.int (b 0), .int (nI 5)]) (rest := [.int (nI 0), .ref a10]) ⟨hx, hb, hml, hown, hts⟩ (c_X1_right l (b 0) 5 (by decide) (by decide)) (va_cwS 2 hts gX1_unmix_X1_right rfl rfl rfl (by decide +kernel) ⟨Nat.le_of_ble_eq_true rfl, Nat.le_of_ble_eq_true rfl⟩) rfl hl.1 rfl (Nat.le_of_ble_eq_true rfl) dX1_unmix_29 ⟨Nat.zero_le _, Nat.zero_le _⟩ ?_
  refine lv_topi (fun v2 ev2 => ?_)
  refine wk_iast hx hb hK hP hD hS 1 0 rfl rfl (k := 0) (x := v2) (by decide) (by decide) dX1_unmix_32 (fun H locs hP hD hS => ?_)
  simp only [List.set, up_0] at hP hD
  have hP : va_P D vwCl [(h0, .inr (1, [.int th, .ref a1, .int by0, .int rd, .ref a4, .ref a5, .ref a6, .ref a7, .int zz, .ref a9, .ref a10, .ref a11, .ref a12])), (a10, .inl (cI, 4, .inl (st4 b 0 (v2, b 1, v1, b 3))))] H := hP
  have hD : va_D A [(h0, .inr (1, [.int th, .ref a1, .int by0, .int rd, .ref a4, .ref a5, .ref a6, .ref a7, .int zz, .ref a9, .ref a10, .ref a11, .ref a12])), (a10, .inl (cI, 4, .inl (st4 b 0 (v2, b 1, v1, b 3))))] := hD
  refine lv_aload_n hx hb dX1_unmix_33 rfl (lv_at hl 0 rfl) ?_
  refine va_get (D := D) (ci := 1) (v := .ref a10) (C := RX1) (T := TX1) (N := 13) hx hb hts hinX1 hown hK hP 0 rfl rfl 10 (by decide) (hts (.fieldLink RX1 28 "SlicedCipherModel" "block" "[I") (by decide +kernel)) (fun _ h9 => h9) rfl dX1_unmix_34 ?_
  refine lv_iconst (v := nI 2) hx hb dX1_unmix_37 (by decide) ?_
  refine lv_aload_n hx hb dX1_unmix_38 rfl (lv_at hl 0 rfl) ?_
  refine va_get (D := D) (ci := 1) (v := .ref a10) (C := RX1) (T := TX1) (N := 13) hx hb hts hinX1 hown hK hP 0 rfl rfl 10 (by decide) (hts (.fieldLink RX1 28 "SlicedCipherModel" "block" "[I") (by decide +kernel)) (fun _ h9 => h9) rfl dX1_unmix_39 ?_
  refine lv_iconst (v := nI 2) hx hb dX1_unmix_42 (by decide) ?_
  refine wk_iald hx hb hK hP 1 0 rfl rfl (k := 2) (by decide) (by decide) dX1_unmix_43 ?_
  refine wk_i (y := v1) rfl ?_
  refine lv_aload_n hx hb dX1_unmix_44 rfl (lv_at hl 0 rfl) ?_
  refine va_get (D := D) (ci := 1) (v := .ref a10) (C := RX1) (T := TX1) (N := 13) hx hb hts hinX1 hown hK hP 0 rfl rfl 10 (by decide) (hts (.fieldLink RX1 28 "SlicedCipherModel" "block" "[I") (by decide +kernel)) (fun _ h9 => h9) rfl dX1_unmix_45 ?_
  refine lv_iconst (v := nI 3) hx hb dX1_unmix_48 (by decide) ?_
  refine wk_iald hx hb hK hP 1 0 rfl rfl (k := 3) (by decide) (by decide) dX1_unmix_49 ?_
  refine wk_i (y := b 3) rfl ?_
  refine lv_ixor hx hb dX1_unmix_50 ?_
  refine lv_aload_n hx hb dX1_unmix_51 rfl (lv_at hl 0 rfl) ?_
  refine va_get (D := D) (ci := 1) (v := .ref a10) (C := RX1) (T := TX1) (N := 13) hx hb hts hinX1 hown hK hP 0 rfl rfl 10 (by decide) (hts (.fieldLink RX1 28 "SlicedCipherModel" "block" "[I") (by decide +kernel)) (fun _ h9 => h9) rfl dX1_unmix_52 ?_
  refine lv_iconst (v := nI 1) hx hb dX1_unmix_55 (by decide) ?_
  refine wk_iald hx hb hK hP 1 0 rfl rfl (k := 1) (by decide) (by decide) dX1_unmix_56 ?_
  refine wk_i (y := b 1) rfl ?_
  refine lv_sipush (v := nI 128) hx hb dX1_unmix_57 (by decide) ?_
  refine lv_imul hx hb dX1_unmix_60 ?_
  refine wk_i (y := (b 1) <<< (nI 7 &&& 31)) (mul128 _) ?_
  refine lv_ixor hx hb dX1_unmix_61 ?_
  refine lv_topi (fun v3 ev3 => ?_)
  refine wk_iast hx hb hK hP hD hS 1 0 rfl rfl (k := 2) (x := v3) (by decide) (by decide) dX1_unmix_62 (fun H locs hP hD hS => ?_)
  simp only [List.set, up_2] at hP hD
  have hP : va_P D vwCl [(h0, .inr (1, [.int th, .ref a1, .int by0, .int rd, .ref a4, .ref a5, .ref a6, .ref a7, .int zz, .ref a9, .ref a10, .ref a11, .ref a12])), (a10, .inl (cI, 4, .inl (st4 b 0 (v2, b 1, v3, b 3))))] H := hP
  have hD : va_D A [(h0, .inr (1, [.int th, .ref a1, .int by0, .int rd, .ref a4, .ref a5, .ref a6, .ref a7, .int zz, .ref a9, .ref a10, .ref a11, .ref a12])), (a10, .inl (cI, 4, .inl (st4 b 0 (v2, b 1, v3, b 3))))] := hD
  refine lv_aload_n hx hb dX1_unmix_63 rfl (lv_at hl 0 rfl) ?_
  refine va_get (D := D) (ci := 1) (v := .ref a10) (C := RX1) (T := TX1) (N := 13) hx hb hts hinX1 hown hK hP 0 rfl rfl 10 (by decide) (hts (.fieldLink RX1 28 "SlicedCipherModel" "block" "[I") (by decide +kernel)) (fun _ h9 => h9) rfl dX1_unmix_64 ?_
  refine lv_iconst (v := nI 0) hx hb dX1_unmix_67 (by decide) ?_
  refine lv_aload_n hx hb dX1_unmix_68 rfl (lv_at hl 0 rfl) ?_
  refine va_get (D := D) (ci := 1) (v := .ref a10) (C := RX1) (T := TX1) (N := 13) hx hb hts hinX1 hown hK hP 0 rfl rfl 10 (by decide) (hts (.fieldLink RX1 28 "SlicedCipherModel" "block" "[I") (by decide +kernel)) (fun _ h9 => h9) rfl dX1_unmix_69 ?_
  refine lv_iconst (v := nI 0) hx hb dX1_unmix_72 (by decide) ?_
  refine wk_iald hx hb hK hP 1 0 rfl rfl (k := 0) (by decide) (by decide) dX1_unmix_73 ?_
  refine wk_i (y := v2) rfl ?_
  refine lv_aload_n hx hb dX1_unmix_74 rfl (lv_at hl 0 rfl) ?_
  refine va_get (D := D) (ci := 1) (v := .ref a10) (C := RX1) (T := TX1) (N := 13) hx hb hts hinX1 hown hK hP 0 rfl rfl 10 (by decide) (hts (.fieldLink RX1 28 "SlicedCipherModel" "block" "[I") (by decide +kernel)) (fun _ h9 => h9) rfl dX1_unmix_75 ?_
  refine lv_iconst (v := nI 1) hx hb dX1_unmix_78 (by decide) ?_
  refine wk_iald hx hb hK hP 1 0 rfl rfl (k := 1) (by decide) (by decide) dX1_unmix_79 ?_
  refine wk_i (y := b 1) rfl ?_
  refine lv_ixor hx hb dX1_unmix_80 ?_
  refine lv_aload_n hx hb dX1_unmix_81 rfl (lv_at hl 0 rfl) ?_
  refine va_get (D := D) (ci := 1) (v := .ref a10) (C := RX1) (T := TX1) (N := 13) hx hb hts hinX1 hown hK hP 0 rfl rfl 10 (by decide) (hts (.fieldLink RX1 28 "SlicedCipherModel" "block" "[I") (by decide +kernel)) (fun _ h9 => h9) rfl dX1_unmix_82 ?_
  refine lv_iconst (v := nI 3) hx hb dX1_unmix_85 (by decide) ?_
  refine wk_iald hx hb hK hP 1 0 rfl rfl (k := 3) (by decide) (by decide) dX1_unmix_86 ?_
  refine wk_i (y := b 3) rfl ?_
  refine lv_ixor hx hb dX1_unmix_87 ?_
  refine lv_topi (fun v4 ev4 => ?_)
  refine wk_iast hx hb hK hP hD hS 1 0 rfl rfl (k := 0) (x := v4) (by decide) (by decide) dX1_unmix_88 (fun H locs hP hD hS => ?_)
  simp only [List.set, up_0] at hP hD
  have hP : va_P D vwCl [(h0, .inr (1, [.int th, .ref a1, .int by0, .int rd, .ref a4, .ref a5, .ref a6, .ref a7, .int zz, .ref a9, .ref a10, .ref a11, .ref a12])), (a10, .inl (cI, 4, .inl (st4 b 0 (v4, b 1, v3, b 3))))] H := hP
  have hD : va_D A [(h0, .inr (1, [.int th, .ref a1, .int by0, .int rd, .ref a4, .ref a5, .ref a6, .ref a7, .int zz, .ref a9, .ref a10, .ref a11, .ref a12])), (a10, .inl (cI, 4, .inl (st4 b 0 (v4, b 1, v3, b 3))))] := hD
  refine lv_aload_n hx hb dX1_unmix_89 rfl (lv_at hl 0 rfl) ?_
  refine va_get (D := D) (ci := 1) (v := .ref a10) (C := RX1) (T := TX1) (N := 13) hx hb hts hinX1 hown hK hP 0 rfl rfl 10 (by decide) (hts (.fieldLink RX1 28 "SlicedCipherModel" "block" "[I") (by decide +kernel)) (fun _ h9 => h9) rfl dX1_unmix_90 ?_
  refine lv_iconst (v := nI 3) hx hb dX1_unmix_93 (by decide) ?_
  refine lv_aload_n hx hb dX1_unmix_94 rfl (lv_at hl 0 rfl) ?_
  refine va_get (D := D) (ci := 1) (v := .ref a10) (C := RX1) (T := TX1) (N := 13) hx hb hts hinX1 hown hK hP 0 rfl rfl 10 (by decide) (hts (.fieldLink RX1 28 "SlicedCipherModel" "block" "[I") (by decide +kernel)) (fun _ h9 => h9) rfl dX1_unmix_95 ?_
  refine lv_iconst (v := nI 3) hx hb dX1_unmix_98 (by decide) ?_
  refine wk_iald hx hb hK hP 1 0 rfl rfl (k := 3) (by decide) (by decide) dX1_unmix_99 ?_
  refine wk_i (y := b 3) rfl ?_
  refine lv_bipush (v := nI 7) hx hb dX1_unmix_100 (by decide) ?_
  refine wk_Sp (v := rotR (b 3) (nI 7)) (As := [.int (b 3), .int (nI 7)]) (rest := [.int (nI 3), .ref a10]) ⟨hx, hb, hml, hown, hts⟩ (c_X1_right l (b 3) 7 (by decide) (by decide)) (va_cwS 2 hts gX1_unmix_X1_right rfl rfl rfl (by decide +kernel) ⟨Nat.le_of_ble_eq_true rfl, Nat.le_of_ble_eq_true rfl⟩) rfl hl.1 rfl (Nat.le_of_ble_eq_true rfl) dX1_unmix_102 ⟨Nat.zero_le _, Nat.zero_le _⟩ ?_
  refine lv_topi (fun v5 ev5 => ?_)
  refine wk_iast hx hb hK hP hD hS 1 0 rfl rfl (k := 3) (x := v5) (by decide) (by decide) dX1_unmix_105 (fun H locs hP hD hS => ?_)
  simp only [List.set, up_3] at hP hD
  have hP : va_P D vwCl [(h0, .inr (1, [.int th, .ref a1, .int by0, .int rd, .ref a4, .ref a5, .ref a6, .ref a7, .int zz, .ref a9, .ref a10, .ref a11, .ref a12])), (a10, .inl (cI, 4, .inl (st4 b 0 (v4, b 1, v3, v5))))] H := hP
  have hD : va_D A [(h0, .inr (1, [.int th, .ref a1, .int by0, .int rd, .ref a4, .ref a5, .ref a6, .ref a7, .int zz, .ref a9, .ref a10, .ref a11, .ref a12])), (a10, .inl (cI, 4, .inl (st4 b 0 (v4, b 1, v3, v5))))] := hD
  refine lv_aload_n hx hb dX1_unmix_106 rfl (lv_at hl 0 rfl) ?_
  refine va_get (D := D) (ci := 1) (v := .ref a10) (C := RX1) (T := TX1) (N := 13) hx hb hts hinX1 hown hK hP 0 rfl rfl 10 (by decide) (hts (.fieldLink RX1 28 "SlicedCipherModel" "block" "[I") (by decide +kernel)) (fun _ h9 => h9) rfl dX1_unmix_107 ?_
  refine lv_iconst (v := nI 1) hx hb dX1_unmix_110 (by decide) ?_
  refine lv_aload_n hx hb dX1_unmix_111 rfl (lv_at hl 0 rfl) ?_
  refine va_get (D := D) (ci := 1) (v := .ref a10) (C := RX1) (T := TX1) (N := 13) hx hb hts hinX1 hown hK hP 0 rfl rfl 10 (by decide) (hts (.fieldLink RX1 28 "SlicedCipherModel" "block" "[I") (by decide +kernel)) (fun _ h9 => h9) rfl dX1_unmix_112 ?_
  refine lv_iconst (v := nI 1) hx hb dX1_unmix_115 (by decide) ?_
  refine wk_iald hx hb hK hP 1 0 rfl rfl (k := 1) (by decide) (by decide) dX1_unmix_116 ?_
  refine wk_i (y := b 1) rfl ?_
  refine lv_iconst (v := nI 1) hx hb dX1_unmix_117 (by decide) ?_
  refine wk_Sp (v := rotR (b 1) (nI 1)) (As := [.int (b 1), .int (nI 1)]) (rest := [.int (nI 1), .ref a10]) ⟨hx, hb, hml, hown, hts⟩ (c_X1_right l (b 1) 1 (by decide) (by decide)) (va_cwS 2 hts gX1_unmix_X1_right rfl rfl rfl (by decide +kernel) ⟨Nat.le_of_ble_eq_true rfl, Nat.le_of_ble_eq_true rfl⟩) rfl hl.1 rfl (Nat.le_of_ble_eq_true rfl) dX1_unmix_118 ⟨Nat.zero_le _, Nat.zero_le _⟩ ?_
  refine lv_topi (fun v6 ev6 => ?_)
  refine wk_iast hx hb hK hP hD hS 1 0 rfl rfl (k := 1) (x := v6) (by decide) (by decide) dX1_unmix_121 (fun H locs hP hD hS => ?_)
  simp only [List.set, up_1] at hP hD
  have hP : va_P D vwCl [(h0, .inr (1, [.int th, .ref a1, .int by0, .int rd, .ref a4, .ref a5, .ref a6, .ref a7, .int zz, .ref a9, .ref a10, .ref a11, .ref a12])), (a10, .inl (cI, 4, .inl (st4 b 0 (v4, v6, v3, v5))))] H := hP
  have hD : va_D A [(h0, .inr (1, [.int th, .ref a1, .int by0, .int rd, .ref a4, .ref a5, .ref a6, .ref a7, .int zz, .ref a9, .ref a10, .ref a11, .ref a12])), (a10, .inl (cI, 4, .inl (st4 b 0 (v4, v6, v3, v5))))] := hD
  refine lv_aload_n hx hb dX1_unmix_122 rfl (lv_at hl 0 rfl) ?_
  refine va_get (D := D) (ci := 1) (v := .ref a10) (C := RX1) (T := TX1) (N := 13) hx hb hts hinX1 hown hK hP 0 rfl rfl 10 (by decide) (hts (.fieldLink RX1 28 "SlicedCipherModel" "block" "[I") (by decide +kernel)) (fun _ h9 => h9) rfl dX1_unmix_123 ?_
  refine lv_iconst (v := nI 3) hx hb dX1_unmix_126 (by decide) ?_
  refine lv_aload_n hx hb dX1_unmix_127 rfl (lv_at hl 0 rfl) ?_
  refine va_get (D := D) (ci := 1) (v := .ref a10) (C := RX1) (T := TX1) (N := 13) hx hb hts hinX1 hown hK hP 0 rfl rfl 10 (by decide) (hts (.fieldLink RX1 28 "SlicedCipherModel" "block" "[I") (by decide +kernel)) (fun _ h9 => h9) rfl dX1_unmix_128 ?_
  refine lv_iconst (v := nI 3) hx hb dX1_unmix_131 (by decide) ?_
  refine wk_iald hx hb hK hP 1 0 rfl rfl (k := 3) (by decide) (by decide) dX1_unmix_132 ?_
  refine wk_i (y := v5) rfl ?_
  refine lv_aload_n hx hb dX1_unmix_133 rfl (lv_at hl 0 rfl) ?_
  refine va_get (D := D) (ci := 1) (v := .ref a10) (C := RX1) (T := TX1) (N := 13) hx hb hts hinX1 hown hK hP 0 rfl rfl 10 (by decide) (hts (.fieldLink RX1 28 "SlicedCipherModel" "block" "[I") (by decide +kernel)) (fun _ h9 => h9) rfl dX1_unmix_134 ?_
  refine lv_iconst (v := nI 2) hx hb dX1_unmix_137 (by decide) ?_
  refine wk_iald hx hb hK hP 1 0 rfl rfl (k := 2) (by decide) (by decide) dX1_unmix_138 ?_
  refine wk_i (y := v3) rfl ?_
  refine lv_ixor hx hb dX1_unmix_139 ?_
  refine lv_aload_n hx hb dX1_unmix_140 rfl (lv_at hl 0 rfl) ?_
  refine va_get (D := D) (ci := 1) (v := .ref a10) (C := RX1) (T := TX1) (N := 13) hx hb hts hinX1 hown hK hP 0 rfl rfl 10 (by decide) (hts (.fieldLink RX1 28 "SlicedCipherModel" "block" "[I") (by decide +kernel)) (fun _ h9 => h9) rfl dX1_unmix_141 ?_
  refine lv_iconst (v := nI 0) hx hb dX1_unmix_144 (by decide) ?_
  refine wk_iald hx hb hK hP 1 0 rfl rfl (k := 0) (by decide) (by decide) dX1_unmix_145 ?_
  refine wk_i (y := v4) rfl ?_
  refine lv_bipush (v := nI 8) hx hb dX1_unmix_146 (by decide) ?_
  refine lv_imul hx hb dX1_unmix_148 ?_
  refine wk_i (y := v4 <<< (nI 3 &&& 31)) (mul8 _) ?_
  refine lv_ixor hx hb dX1_unmix_149 ?_
  refine lv_topi (fun v7 ev7 => ?_)
  refine wk_iast hx hb hK hP hD hS 1 0 rfl rfl (k := 3) (x := v7) (by decide) (by decide) dX1_unmix_150 (fun H locs hP hD hS => ?_)
  simp only [List.set, up_3] at hP hD
  have hP : va_P D vwCl [(h0, .inr (1, [.int th, .ref a1, .int by0, .int rd, .ref a4, .ref a5, .ref a6, .ref a7, .int zz, .ref a9, .ref a10, .ref a11, .ref a12])), (a10, .inl (cI, 4, .inl (st4 b 0 (v4, v6, v3, v7))))] H := hP
  have hD : va_D A [(h0, .inr (1, [.int th, .ref a1, .int by0, .int rd, .ref a4, .ref a5, .ref a6, .ref a7, .int zz, .ref a9, .ref a10, .ref a11, .ref a12])), (a10, .inl (cI, 4, .inl (st4 b 0 (v4, v6, v3, v7))))] := hD
  refine lv_aload_n hx hb dX1_unmix_151 rfl (lv_at hl 0 rfl) ?_
  refine va_get (D := D) (ci := 1) (v := .ref a10) (C := RX1) (T := TX1) (N := 13) hx hb hts hinX1 hown hK hP 0 rfl rfl 10 (by decide) (hts (.fieldLink RX1 28 "SlicedCipherModel" "block" "[I") (by decide +kernel)) (fun _ h9 => h9) rfl dX1_unmix_152 ?_
  refine lv_iconst (v := nI 1) hx hb dX1_unmix_155 (by decide) ?_
  refine lv_aload_n hx hb dX1_unmix_156 rfl (lv_at hl 0 rfl) ?_
  refine va_get (D := D) (ci := 1) (v := .ref a10) (C := RX1) (T := TX1) (N := 13) hx hb hts hinX1 hown hK hP 0 rfl rfl 10 (by decide) (hts (.fieldLink RX1 28 "SlicedCipherModel" "block" "[I") (by decide +kernel)) (fun _ h9 => h9) rfl dX1_unmix_157 ?_
  refine lv_iconst (v := nI 1) hx hb dX1_unmix_160 (by decide) ?_
  refine wk_iald hx hb hK hP 1 0 rfl rfl (k := 1) (by decide) (by decide) dX1_unmix_161 ?_
  refine wk_i (y := v6) rfl ?_
  refine lv_aload_n hx hb dX1_unmix_162 rfl (lv_at hl 0 rfl) ?_
  refine va_get (D := D) (ci := 1) (v := .ref a10) (C := RX1) (T := TX1) (N := 13) hx hb hts hinX1 hown hK hP 0 rfl rfl 10 (by decide) (hts (.fieldLink RX1 28 "SlicedCipherModel" "block" "[I") (by decide +kernel)) (fun _ h9 => h9) rfl dX1_unmix_163 ?_
  refine lv_iconst (v := nI 0) hx hb dX1_unmix_166 (by decide) ?_
  refine wk_iald hx hb hK hP 1 0 rfl rfl (k := 0) (by decide) (by decide) dX1_unmix_167 ?_
  refine wk_i (y := v4) rfl ?_
  refine lv_ixor hx hb dX1_unmix_168 ?_
  refine lv_aload_n hx hb dX1_unmix_169 rfl (lv_at hl 0 rfl) ?_
  refine va_get (D := D) (ci := 1) (v := .ref a10) (C := RX1) (T := TX1) (N := 13) hx hb hts hinX1 hown hK hP 0 rfl rfl 10 (by decide) (hts (.fieldLink RX1 28 "SlicedCipherModel" "block" "[I") (by decide +kernel)) (fun _ h9 => h9) rfl dX1_unmix_170 ?_
  refine lv_iconst (v := nI 2) hx hb dX1_unmix_173 (by decide) ?_
  refine wk_iald hx hb hK hP 1 0 rfl rfl (k := 2) (by decide) (by decide) dX1_unmix_174 ?_
  refine wk_i (y := v3) rfl ?_
  refine lv_ixor hx hb dX1_unmix_175 ?_
  refine lv_topi (fun v8 ev8 => ?_)
  refine wk_iast hx hb hK hP hD hS 1 0 rfl rfl (k := 1) (x := v8) (by decide) (by decide) dX1_unmix_176 (fun H locs hP hD hS => ?_)
  simp only [List.set, up_1] at hP hD
  have hP : va_P D vwCl [(h0, .inr (1, [.int th, .ref a1, .int by0, .int rd, .ref a4, .ref a5, .ref a6, .ref a7, .int zz, .ref a9, .ref a10, .ref a11, .ref a12])), (a10, .inl (cI, 4, .inl (st4 b 0 (v4, v8, v3, v7))))] H := hP
  have hD : va_D A [(h0, .inr (1, [.int th, .ref a1, .int by0, .int rd, .ref a4, .ref a5, .ref a6, .ref a7, .int zz, .ref a9, .ref a10, .ref a11, .ref a12])), (a10, .inl (cI, 4, .inl (st4 b 0 (v4, v8, v3, v7))))] := hD
  refine lv_aload_n hx hb dX1_unmix_177 rfl (lv_at hl 0 rfl) ?_
  refine va_get (D := D) (ci := 1) (v := .ref a10) (C := RX1) (T := TX1) (N := 13) hx hb hts hinX1 hown hK hP 0 rfl rfl 10 (by decide) (hts (.fieldLink RX1 28 "SlicedCipherModel" "block" "[I") (by decide +kernel)) (fun _ h9 => h9) rfl dX1_unmix_178 ?_
  refine lv_iconst (v := nI 2) hx hb dX1_unmix_181 (by decide) ?_
  refine lv_aload_n hx hb dX1_unmix_182 rfl (lv_at hl 0 rfl) ?_
  refine va_get (D := D) (ci := 1) (v := .ref a10) (C := RX1) (T := TX1) (N := 13) hx hb hts hinX1 hown hK hP 0 rfl rfl 10 (by decide) (hts (.fieldLink RX1 28 "SlicedCipherModel" "block" "[I") (by decide +kernel)) (fun _ h9 => h9) rfl dX1_unmix_183 ?_
  refine lv_iconst (v := nI 2) hx hb dX1_unmix_186 (by decide) ?_
  refine wk_iald hx hb hK hP 1 0 rfl rfl (k := 2) (by decide) (by decide) dX1_unmix_187 ?_
  refine wk_i (y := v3) rfl ?_
  refine lv_iconst (v := nI 3) hx hb dX1_unmix_188 (by decide) ?_
  refine wk_Sp (v := rotR v3 (nI 3)) (As := [.int v3, .int (nI 3)]) (rest := [.int (nI 2), .ref a10]) ⟨hx, hb, hml, hown, hts⟩ (c_X1_right l v3 3 (by decide) (by decide)) (va_cwS 2 hts gX1_unmix_X1_right rfl rfl rfl (by decide +kernel) ⟨Nat.le_of_ble_eq_true rfl, Nat.le_of_ble_eq_true rfl⟩) rfl hl.1 rfl (Nat.le_of_ble_eq_true rfl) dX1_unmix_189 ⟨Nat.zero_le _, Nat.zero_le _⟩ ?_
  refine lv_topi (fun v9 ev9 => ?_)
  refine wk_iast hx hb hK hP hD hS 1 0 rfl rfl (k := 2) (x := v9) (by decide) (by decide) dX1_unmix_192 (fun H locs hP hD hS => ?_)
  simp only [List.set, up_2] at hP hD
  have hP : va_P D vwCl [(h0, .inr (1, [.int th, .ref a1, .int by0, .int rd, .ref a4, .ref a5, .ref a6, .ref a7, .int zz, .ref a9, .ref a10, .ref a11, .ref a12])), (a10, .inl (cI, 4, .inl (st4 b 0 (v4, v8, v9, v7))))] H := hP
  have hD : va_D A [(h0, .inr (1, [.int th, .ref a1, .int by0, .int rd, .ref a4, .ref a5, .ref a6, .ref a7, .int zz, .ref a9, .ref a10, .ref a11, .ref a12])), (a10, .inl (cI, 4, .inl (st4 b 0 (v4, v8, v9, v7))))] := hD
  refine lv_aload_n hx hb dX1_unmix_193 rfl (lv_at hl 0 rfl) ?_
  refine va_get (D := D) (ci := 1) (v := .ref a10) (C := RX1) (T := TX1) (N := 13) hx hb hts hinX1 hown hK hP 0 rfl rfl 10 (by decide) (hts (.fieldLink RX1 28 "SlicedCipherModel" "block" "[I") (by decide +kernel)) (fun _ h9 => h9) rfl dX1_unmix_194 ?_
  refine lv_iconst (v := nI 0) hx hb dX1_unmix_197 (by decide) ?_
  refine lv_aload_n hx hb dX1_unmix_198 rfl (lv_at hl 0 rfl) ?_
  refine va_get (D := D) (ci := 1) (v := .ref a10) (C := RX1) (T := TX1) (N := 13) hx hb hts hinX1 hown hK hP 0 rfl rfl 10 (by decide) (hts (.fieldLink RX1 28 "SlicedCipherModel" "block" "[I") (by decide +kernel)) (fun _ h9 => h9) rfl dX1_unmix_199 ?_
  refine lv_iconst (v := nI 0) hx hb dX1_unmix_202 (by decide) ?_
  refine wk_iald hx hb hK hP 1 0 rfl rfl (k := 0) (by decide) (by decide) dX1_unmix_203 ?_
  refine wk_i (y := v4) rfl ?_
  refine lv_bipush (v := nI 13) hx hb dX1_unmix_204 (by decide) ?_
  refine wk_Sp (v := rotR v4 (nI 13)) (As := [.int v4, .int (nI 13)]) (rest := [.int (nI 0), .ref a10]) ⟨hx, hb, hml, hown, hts⟩ (c_X1_right l v4 13 (by decide) (by decide)) (va_cwS 2 hts gX1_unmix_X1_right rfl rfl rfl (by decide +kernel) ⟨Nat.le_of_ble_eq_true rfl, Nat.le_of_ble_eq_true rfl⟩) rfl hl.1 rfl (Nat.le_of_ble_eq_true rfl) dX1_unmix_206 ⟨Nat.zero_le _, Nat.zero_le _⟩ ?_
  refine lv_topi (fun v10 ev10 => ?_)
  refine wk_iast hx hb hK hP hD hS 1 0 rfl rfl (k := 0) (x := v10) (by decide) (by decide) dX1_unmix_209 (fun H locs hP hD hS => ?_)
  simp only [List.set, up_0] at hP hD
  have hP : va_P D vwCl [(h0, .inr (1, [.int th, .ref a1, .int by0, .int rd, .ref a4, .ref a5, .ref a6, .ref a7, .int zz, .ref a9, .ref a10, .ref a11, .ref a12])), (a10, .inl (cI, 4, .inl (st4 b 0 (v10, v8, v9, v7))))] H := hP
  have hD : va_D A [(h0, .inr (1, [.int th, .ref a1, .int by0, .int rd, .ref a4, .ref a5, .ref a6, .ref a7, .int zz, .ref a9, .ref a10, .ref a11, .ref a12])), (a10, .inl (cI, 4, .inl (st4 b 0 (v10, v8, v9, v7))))] := hD
  have e9 : ((v10, v8, v9, v7) : Qd) = cUnmix (ld4 b 0) := by subst ev10 ev9 ev8 ev7 ev6 ev5 ev4 ev3 ev2 ev1; rfl
  rw [e9] at hP hD
  exact W.vret hx hb hr (fun t ht hW => ⟨⟨(), rfl, trivial, by rw [ht]; exact hP, va_K.moved hW.alike hK, hD⟩, hS.F ht⟩) hS.2.2 dX1_unmix_210
theorem nibR_at (b : Nat → Int32) (pl : Nat) {j : Nat} (h : j < 4) : nibR b pl (4 - j) = (2 * (nibR b pl (4 - (j + 1)))) + (bN (b j) pl) := by
  obtain ⟨q, hq⟩ : ∃ q, 4 - j = q + 1 := ⟨3 - j, by omega⟩
  have e1 : 4 - (j + 1) = q := by omega
  have e2 : 3 - q = j := by omega
  rw [hq, e1]
  show (2 * nibR b pl q) + bN (b (3 - q)) pl = _
  rw [e2]
set_option maxRecDepth 100000 in
theorem in_X1_through : ∀ w ∈ wsX10, w ∈ wsX1_through := by decide +kernel
set_option maxHeartbeats 4000000 in
set_option maxRecDepth 100000 in
theorem c_X1_through0 (l : Launch) (D : va_G) (cI : ClassId) (sz : Nat) (h0 a1 a4 a5 a6 a7 a9 a10 a11 a12 : Nat) (th by0 rd zz : Int32) (wh : Nat) (b d : Nat → Int32) (h1 : wh < 8) : Met l yX1_through wsX1_through ({ frames := 1, cells := 0, slots := 0, locals := 23 }) (va_Pc [.ref h0, .int (nI wh), .int (nI 0)] (fun U => PW D [(cI, .int)] [(h0, .inr (1, [.int th, .ref a1, .int by0, .int rd, .ref a4, .ref a5, .ref a6, .ref a7, .int zz, .ref a9, .ref a10, .ref a11, .ref a12])), (a9, .inl (cI, 128, .inl TB)), (a10, .inl (cI, 4, .inl b)), (a11, .inl (cI, 4, .inl d))] sz U ∧ True)) (va_Qv (fun _ : Unit => True) (fun _ => BW D [(cI, .int)] (va_A [(h0, .inr (1, [.int th, .ref a1, .int by0, .int rd, .ref a4, .ref a5, .ref a6, .ref a7, .int zz, .ref a9, .ref a10, .ref a11, .ref a12])), (a9, .inl (cI, 128, .inl TB)), (a10, .inl (cI, 4, .inl b)), (a11, .inl (cI, 4, .inl d))] sz) [(h0, .inr (1, [.int th, .ref a1, .int by0, .int rd, .ref a4, .ref a5, .ref a6, .ref a7, .int zz, .ref a9, .ref a10, .ref a11, .ref a12])), (a9, .inl (cI, 128, .inl TB)), (a10, .inl (cI, 4, .inl (st4 b 0 (cBox 0 wh (ld4 b 0))))), (a11, .inl (cI, 4, .inl (st4 d 0 (cBox 0 wh (ld4 b 0)))))]) (va_A [(h0, .inr (1, [.int th, .ref a1, .int by0, .int rd, .ref a4, .ref a5, .ref a6, .ref a7, .int zz, .ref a9, .ref a10, .ref a11, .ref a12])), (a9, .inl (cI, 128, .inl TB)), (a10, .inl (cI, 4, .inl b)), (a11, .inl (cI, 4, .inl d))] sz)) 0 0 (va_A [(h0, .inr (1, [.int th, .ref a1, .int by0, .int rd, .ref a4, .ref a5, .ref a6, .ref a7, .int zz, .ref a9, .ref a10, .ref a11, .ref a12])), (a9, .inl (cI, 128, .inl TB)), (a10, .inl (cI, 4, .inl b)), (a11, .inl (cI, 4, .inl d))] sz) := by
  refine Met.ofW (cc := cX1_through) (maxL := 7) (ret := none) (by decide) rfl ?_
  intro p e s m args below meth c s₁ B hml hv
  obtain ⟨rfl, ⟨hsz, hP, hK, hD0⟩, -⟩ := hv
  have hx := B.exec
  have hb := B.bytes
  have hr := B.returns
  have hts := atoms_spec (ws := wsX1_through) B.pre
  have hown : s.vm.findClass RX1 = some m.cls := findClass_of_methodNamed B.named
  have hlocks := B.notSynchronized
  subst hsz
  have hD := hD0.self (sz := s.heap.size)
  have hinX1 := in_X1_through
  generalize hAe : va_A [(h0, .inr (1, [.int th, .ref a1, .int by0, .int rd, .ref a4, .ref a5, .ref a6, .ref a7, .int zz, .ref a9, .ref a10, .ref a11, .ref a12])), (a9, .inl (cI, 128, .inl TB)), (a10, .inl (cI, 4, .inl b)), (a11, .inl (cI, 4, .inl d))] s.heap.size = A at hD ⊢
  have hA : ∀ q : Nat, s.heap.size ≤ q → A q := fun q h => by rw [← hAe]; exact Or.inr h
  have hS : va_S A s.heap s.heap [] := va_S.rf
  have hl := lv_entry ([.ref h0, .int (nI wh), .int (nI 0)]) (n := 7) (Nat.le_of_ble_eq_true rfl)
  rw [lg_entry_eq]
  generalize (lg_sl ([.ref h0, .int (nI wh), .int (nI 0)]) ++ List.replicate (7 - (lg_sl ([.ref h0, .int (nI wh), .int (nI 0)])).length) Slot.unset).toArray = ls at hl ⊢
  have hl : lv_has ls 7 [(0, .ref h0), (1, .int (nI wh)), (2, .int (nI 0))] := hl
  have lpE : ∀ (fu : Nat) (k : Nat), k ≤ 4 → 4 + 1 ≤ k + fu → ∀ (H : Heap) (locs : List Loc), va_P D vwCl [(h0, .inr (1, [.int th, .ref a1, .int by0, .int rd, .ref a4, .ref a5, .ref a6, .ref a7, .int zz, .ref a9, .ref a10, .ref a11, .ref a12])), (a9, .inl (cI, 128, .inl TB)), (a10, .inl (cI, 4, .inl (cpZ b (st4 d 0 (cBox 0 wh (ld4 b 0))) k))), (a11, .inl (cI, 4, .inl (st4 d 0 (cBox 0 wh (ld4 b 0)))))] H → va_D A [(h0, .inr (1, [.int th, .ref a1, .int by0, .int rd, .ref a4, .ref a5, .ref a6, .ref a7, .int zz, .ref a9, .ref a10, .ref a11, .ref a12])), (a9, .inl (cI, 128, .inl TB)), (a10, .inl (cI, 4, .inl (cpZ b (st4 d 0 (cBox 0 wh (ld4 b 0))) k))), (a11, .inl (cI, 4, .inl (st4 d 0 (cBox 0 wh (ld4 b 0)))))] → va_S A s.heap H locs → ∀ (ls : Array Slot), lv_has ls 7 [(0, .ref h0), (1, .int (nI wh)), (2, .int (nI 0)), (3, .int (nI k))] → W p l e ((headSpec wsX1_through ({ frames := 1, cells := 0, slots := 0, locals := 23 })).room) s m ([.ref h0, .int (nI wh), .int (nI 0)] : List Value).toArray below meth c H locs 0 0 (MQ below (va_Qv (fun _ : Unit => True) (fun _ => BW D [(cI, .int)] A [(h0, .inr (1, [.int th, .ref a1, .int by0, .int rd, .ref a4, .ref a5, .ref a6, .ref a7, .int zz, .ref a9, .ref a10, .ref a11, .ref a12])), (a9, .inl (cI, 128, .inl TB)), (a10, .inl (cI, 4, .inl (st4 b 0 (cBox 0 wh (ld4 b 0))))), (a11, .inl (cI, 4, .inl (st4 d 0 (cBox 0 wh (ld4 b 0)))))]) A) ([.ref h0, .int (nI wh), .int (nI 0)] : List Value).toArray s 0 0 (A)) (F0 m 138 ls []) := by
    intro fu
    induction fu with
      | zero => intro k hik hfk; exact absurd hfk (by omega)
      | succ fu ih =>
        intro k hik hfk H locs hP hD hS ls hl
        refine lv_iload_n hx hb dX1_through_138 rfl (lv_at hl 3 rfl) ?_
        refine lv_iconst (v := nI 4) hx hb dX1_through_139 (by decide) ?_
        refine wk_geN (tgt := 161) hx hb (a := k) (b := 4) (by omega) (by decide) dX1_through_140 (by decide) (fun c140 => ?_) (fun c140 => ?_)
        · obtain rfl : k = 4 := by omega
          rw [cpZ_4, ld4_st4] at hP hD
          exact W.vret hx hb hr (fun t ht hW => ⟨⟨(), rfl, trivial, by rw [ht]; exact hP, va_K.moved hW.alike hK, hD⟩, hS.F ht⟩) hS.2.2 dX1_through_161
        · refine lv_aload_n hx hb dX1_through_143 rfl (lv_at hl 0 rfl) ?_
          refine va_get (D := D) (ci := 1) (v := .ref a10) (C := RX1) (T := TX1) (N := 13) hx hb hts hinX1 hown hK hP 0 rfl rfl 10 (by decide) (hts (.fieldLink RX1 28 "SlicedCipherModel" "block" "[I") (by decide +kernel)) (fun _ h9 => h9) rfl dX1_through_144 ?_
          refine lv_iload_n hx hb dX1_through_147 rfl (lv_at hl 3 rfl) ?_
          refine lv_aload_n hx hb dX1_through_148 rfl (lv_at hl 0 rfl) ?_
          refine va_get (D := D) (ci := 1) (v := .ref a11) (C := RX1) (T := TX1) (N := 13) hx hb hts hinX1 hown hK hP 0 rfl rfl 11 (by decide) (hts (.fieldLink RX1 31 "SlicedCipherModel" "made" "[I") (by decide +kernel)) (fun _ h9 => h9) rfl dX1_through_149 ?_
          refine lv_iload_n hx hb dX1_through_152 rfl (lv_at hl 3 rfl) ?_
          refine wk_iald hx hb hK hP 3 0 rfl rfl (k := k) (by omega) (by decide) dX1_through_153 ?_
          refine wk_iast hx hb hK hP hD hS 2 0 rfl rfl (k := k) (x := (st4 d 0 (cBox 0 wh (ld4 b 0))) k) (by omega) (by decide) dX1_through_154 (fun H locs hP hD hS => ?_)
          have hP : va_P D vwCl [(h0, .inr (1, [.int th, .ref a1, .int by0, .int rd, .ref a4, .ref a5, .ref a6, .ref a7, .int zz, .ref a9, .ref a10, .ref a11, .ref a12])), (a9, .inl (cI, 128, .inl TB)), (a10, .inl (cI, 4, .inl (upd (cpZ b (st4 d 0 (cBox 0 wh (ld4 b 0))) k) k ((st4 d 0 (cBox 0 wh (ld4 b 0))) k)))), (a11, .inl (cI, 4, .inl (st4 d 0 (cBox 0 wh (ld4 b 0)))))] H := hP
          have hD : va_D A [(h0, .inr (1, [.int th, .ref a1, .int by0, .int rd, .ref a4, .ref a5, .ref a6, .ref a7, .int zz, .ref a9, .ref a10, .ref a11, .ref a12])), (a9, .inl (cI, 128, .inl TB)), (a10, .inl (cI, 4, .inl (upd (cpZ b (st4 d 0 (cBox 0 wh (ld4 b 0))) k) k ((st4 d 0 (cBox 0 wh (ld4 b 0))) k)))), (a11, .inl (cI, 4, .inl (st4 d 0 (cBox 0 wh (ld4 b 0)))))] := hD
          refine lv_iinc (v := nI (k + 1)) (lv' := [(3, .int (nI (k + 1))), (0, .ref h0), (1, .int (nI wh)), (2, .int (nI 0))]) hx hb dX1_through_155 hl (k := 3) rfl (wk_inc k (by decide)) (by decide) rfl (fun ls hl => ?_)
          refine lv_goto (tgt := 138) hx hb dX1_through_158 (by decide) ?_
          exact ih (k + 1) (by omega) (by omega) _ _ hP hD hS ls (lv_sub hl [1, 2, 3, 0] rfl)
  have lpP : ∀ (fu : Nat) (pl : Nat), pl ≤ 32 → 33 ≤ pl + fu → ∀ (H : Heap) (locs : List Loc), va_P D vwCl [(h0, .inr (1, [.int th, .ref a1, .int by0, .int rd, .ref a4, .ref a5, .ref a6, .ref a7, .int zz, .ref a9, .ref a10, .ref a11, .ref a12])), (a9, .inl (cI, 128, .inl TB)), (a10, .inl (cI, 4, .inl b)), (a11, .inl (cI, 4, .inl (st4 d 0 (mQ 0 wh b pl))))] H → va_D A [(h0, .inr (1, [.int th, .ref a1, .int by0, .int rd, .ref a4, .ref a5, .ref a6, .ref a7, .int zz, .ref a9, .ref a10, .ref a11, .ref a12])), (a9, .inl (cI, 128, .inl TB)), (a10, .inl (cI, 4, .inl b)), (a11, .inl (cI, 4, .inl (st4 d 0 (mQ 0 wh b pl))))] → va_S A s.heap H locs → ∀ (ls : Array Slot), lv_has ls 7 [(0, .ref h0), (1, .int (nI wh)), (2, .int (nI 0)), (3, .int (nI pl))] → W p l e ((headSpec wsX1_through ({ frames := 1, cells := 0, slots := 0, locals := 23 })).room) s m ([.ref h0, .int (nI wh), .int (nI 0)] : List Value).toArray below meth c H locs 0 0 (MQ below (va_Qv (fun _ : Unit => True) (fun _ => BW D [(cI, .int)] A [(h0, .inr (1, [.int th, .ref a1, .int by0, .int rd, .ref a4, .ref a5, .ref a6, .ref a7, .int zz, .ref a9, .ref a10, .ref a11, .ref a12])), (a9, .inl (cI, 128, .inl TB)), (a10, .inl (cI, 4, .inl (st4 b 0 (cBox 0 wh (ld4 b 0))))), (a11, .inl (cI, 4, .inl (st4 d 0 (cBox 0 wh (ld4 b 0)))))]) A) ([.ref h0, .int (nI wh), .int (nI 0)] : List Value).toArray s 0 0 (A)) (F0 m 22 ls []) := by
    intro fu
    induction fu with
      | zero => intro pl hip hfp; exact absurd hfp (by omega)
      | succ fu ih =>
        intro pl hip hfp H locs hP hD hS ls hl
        refine lv_iload_n hx hb dX1_through_22 rfl (lv_at hl 3 rfl) ?_
        refine lv_bipush (v := nI 32) hx hb dX1_through_23 (by decide) ?_
        refine wk_geN (tgt := 136) hx hb (a := pl) (b := 32) (by omega) (by decide) dX1_through_25 (by decide) (fun c25 => ?_) (fun c25 => ?_)
        · obtain rfl : pl = 32 := by omega
          rw [show mQ 0 wh b 32 = cBox 0 wh (ld4 b 0) from box_eq (by decide) h1 b] at hP hD
          refine lv_iconst (v := nI 0) hx hb dX1_through_136 (by decide) ?_
          refine lv_istore_n (lv' := [(3, .int (nI 0)), (0, .ref h0), (1, .int (nI wh)), (2, .int (nI 0))]) hx hb dX1_through_137 rfl hl (by decide) rfl (fun ls hl => ?_)
          exact lpE 5 0 (by omega) (by omega) _ _ hP hD hS ls (lv_sub hl [1, 2, 3, 0] rfl)
        · have ihP := ih
          have lpM : ∀ (fu : Nat) (k : Nat), k ≤ 4 → 4 + 1 ≤ k + fu → ∀ (H : Heap) (locs : List Loc), va_P D vwCl [(h0, .inr (1, [.int th, .ref a1, .int by0, .int rd, .ref a4, .ref a5, .ref a6, .ref a7, .int zz, .ref a9, .ref a10, .ref a11, .ref a12])), (a9, .inl (cI, 128, .inl TB)), (a10, .inl (cI, 4, .inl b)), (a11, .inl (cI, 4, .inl (inF (st4 d 0 (mQ 0 wh b pl)) (boxV 0 wh (nibR b pl 4)) pl k)))] H → va_D A [(h0, .inr (1, [.int th, .ref a1, .int by0, .int rd, .ref a4, .ref a5, .ref a6, .ref a7, .int zz, .ref a9, .ref a10, .ref a11, .ref a12])), (a9, .inl (cI, 128, .inl TB)), (a10, .inl (cI, 4, .inl b)), (a11, .inl (cI, 4, .inl (inF (st4 d 0 (mQ 0 wh b pl)) (boxV 0 wh (nibR b pl 4)) pl k)))] → va_S A s.heap H locs → ∀ (ls : Array Slot), lv_has ls 7 [(0, .ref h0), (1, .int (nI wh)), (2, .int (nI 0)), (3, .int (nI pl)), (5, .int (boxV 0 wh (nibR b pl 4))), (6, .int (nI k))] → W p l e ((headSpec wsX1_through ({ frames := 1, cells := 0, slots := 0, locals := 23 })).room) s m ([.ref h0, .int (nI wh), .int (nI 0)] : List Value).toArray below meth c H locs 0 0 (MQ below (va_Qv (fun _ : Unit => True) (fun _ => BW D [(cI, .int)] A [(h0, .inr (1, [.int th, .ref a1, .int by0, .int rd, .ref a4, .ref a5, .ref a6, .ref a7, .int zz, .ref a9, .ref a10, .ref a11, .ref a12])), (a9, .inl (cI, 128, .inl TB)), (a10, .inl (cI, 4, .inl (st4 b 0 (cBox 0 wh (ld4 b 0))))), (a11, .inl (cI, 4, .inl (st4 d 0 (cBox 0 wh (ld4 b 0)))))]) A) ([.ref h0, .int (nI wh), .int (nI 0)] : List Value).toArray s 0 0 (A)) (F0 m 94 ls []) := by
            intro fu
            induction fu with
              | zero => intro k hik hfk; exact absurd hfk (by omega)
              | succ fu ih =>
                intro k hik hfk H locs hP hD hS ls hl
                refine lv_iload hx hb dX1_through_94 (lv_at hl 5 rfl) ?_
                refine lv_iconst (v := nI 4) hx hb dX1_through_96 (by decide) ?_
                refine wk_geN (tgt := 130) hx hb (a := k) (b := 4) (by omega) (by decide) dX1_through_97 (by decide) (fun c97 => ?_) (fun c97 => ?_)
                · obtain rfl : k = 4 := by omega
                  rw [mQ_step] at hP hD
                  refine lv_iinc (v := nI (pl + 1)) (lv' := [(3, .int (nI (pl + 1))), (0, .ref h0), (1, .int (nI wh)), (2, .int (nI 0)), (5, .int (boxV 0 wh (nibR b pl 4))), (6, .int (nI 4))]) hx hb dX1_through_130 hl (k := 3) rfl (wk_inc pl (by decide)) (by decide) rfl (fun ls hl => ?_)
                  refine lv_goto (tgt := 22) hx hb dX1_through_133 (by decide) ?_
                  exact ihP (pl + 1) (by omega) (by omega) _ _ hP hD hS ls (lv_sub hl [1, 2, 3, 0] rfl)
                · refine lv_aload_n hx hb dX1_through_100 rfl (lv_at hl 0 rfl) ?_
                  refine va_get (D := D) (ci := 1) (v := .ref a11) (C := RX1) (T := TX1) (N := 13) hx hb hts hinX1 hown hK hP 0 rfl rfl 11 (by decide) (hts (.fieldLink RX1 31 "SlicedCipherModel" "made" "[I") (by decide +kernel)) (fun _ h9 => h9) rfl dX1_through_101 ?_
                  refine lv_iload hx hb dX1_through_104 (lv_at hl 5 rfl) ?_
                  refine lv_aload_n hx hb dX1_through_106 rfl (lv_at hl 0 rfl) ?_
                  refine va_get (D := D) (ci := 1) (v := .ref a11) (C := RX1) (T := TX1) (N := 13) hx hb hts hinX1 hown hK hP 0 rfl rfl 11 (by decide) (hts (.fieldLink RX1 31 "SlicedCipherModel" "made" "[I") (by decide +kernel)) (fun _ h9 => h9) rfl dX1_through_107 ?_
                  refine lv_iload hx hb dX1_through_110 (lv_at hl 5 rfl) ?_
                  refine wk_iald hx hb hK hP 3 0 rfl rfl (k := k) (by omega) (by decide) dX1_through_112 ?_
                  refine lv_iload hx hb dX1_through_113 (lv_at hl 4 rfl) ?_
                  refine lv_iload hx hb dX1_through_115 (lv_at hl 5 rfl) ?_
                  refine lv_ishr hx hb dX1_through_117 ?_
                  refine lv_iconst (v := nI 1) hx hb dX1_through_118 (by decide) ?_
                  refine lv_iand hx hb dX1_through_119 ?_
                  refine lv_iload_n hx hb dX1_through_120 rfl (lv_at hl 3 rfl) ?_
                  refine lv_ishl hx hb dX1_through_121 ?_
                  refine lv_ior hx hb dX1_through_122 ?_
                  refine wk_iast hx hb hK hP hD hS 3 0 rfl rfl (k := k) (x := ((inF (st4 d 0 (mQ 0 wh b pl)) (boxV 0 wh (nibR b pl 4)) pl k) k) ||| ((((boxV 0 wh (nibR b pl 4)) >>> ((nI k) &&& 31)) &&& (nI 1)) <<< ((nI pl) &&& 31))) (by omega) (by decide) dX1_through_123 (fun H locs hP hD hS => ?_)
                  have hP : va_P D vwCl [(h0, .inr (1, [.int th, .ref a1, .int by0, .int rd, .ref a4, .ref a5, .ref a6, .ref a7, .int zz, .ref a9, .ref a10, .ref a11, .ref a12])), (a9, .inl (cI, 128, .inl TB)), (a10, .inl (cI, 4, .inl b)), (a11, .inl (cI, 4, .inl (upd (inF (st4 d 0 (mQ 0 wh b pl)) (boxV 0 wh (nibR b pl 4)) pl k) k (((inF (st4 d 0 (mQ 0 wh b pl)) (boxV 0 wh (nibR b pl 4)) pl k) k) ||| ((((boxV 0 wh (nibR b pl 4)) >>> ((nI k) &&& 31)) &&& (nI 1)) <<< ((nI pl) &&& 31))))))] H := hP
                  have hD : va_D A [(h0, .inr (1, [.int th, .ref a1, .int by0, .int rd, .ref a4, .ref a5, .ref a6, .ref a7, .int zz, .ref a9, .ref a10, .ref a11, .ref a12])), (a9, .inl (cI, 128, .inl TB)), (a10, .inl (cI, 4, .inl b)), (a11, .inl (cI, 4, .inl (upd (inF (st4 d 0 (mQ 0 wh b pl)) (boxV 0 wh (nibR b pl 4)) pl k) k (((inF (st4 d 0 (mQ 0 wh b pl)) (boxV 0 wh (nibR b pl 4)) pl k) k) ||| ((((boxV 0 wh (nibR b pl 4)) >>> ((nI k) &&& 31)) &&& (nI 1)) <<< ((nI pl) &&& 31))))))] := hD
                  refine lv_iinc (v := nI (k + 1)) (lv' := [(6, .int (nI (k + 1))), (0, .ref h0), (1, .int (nI wh)), (2, .int (nI 0)), (3, .int (nI pl)), (5, .int (boxV 0 wh (nibR b pl 4)))]) hx hb dX1_through_124 hl (k := 5) rfl (wk_inc k (by decide)) (by decide) rfl (fun ls hl => ?_)
                  refine lv_goto (tgt := 94) hx hb dX1_through_127 (by decide) ?_
                  exact ih (k + 1) (by omega) (by omega) _ _ hP hD hS ls (lv_sub hl [1, 2, 3, 4, 5, 0] rfl)
          have lpN : ∀ (fu : Nat) (j : Nat), j ≤ 4 → j + 1 ≤ fu → ∀ (H : Heap) (locs : List Loc), va_P D vwCl [(h0, .inr (1, [.int th, .ref a1, .int by0, .int rd, .ref a4, .ref a5, .ref a6, .ref a7, .int zz, .ref a9, .ref a10, .ref a11, .ref a12])), (a9, .inl (cI, 128, .inl TB)), (a10, .inl (cI, 4, .inl b)), (a11, .inl (cI, 4, .inl (st4 d 0 (mQ 0 wh b pl))))] H → va_D A [(h0, .inr (1, [.int th, .ref a1, .int by0, .int rd, .ref a4, .ref a5, .ref a6, .ref a7, .int zz, .ref a9, .ref a10, .ref a11, .ref a12])), (a9, .inl (cI, 128, .inl TB)), (a10, .inl (cI, 4, .inl b)), (a11, .inl (cI, 4, .inl (st4 d 0 (mQ 0 wh b pl))))] → va_S A s.heap H locs → ∀ (ls : Array Slot), lv_has ls 7 [(0, .ref h0), (1, .int (nI wh)), (2, .int (nI 0)), (3, .int (nI pl)), (4, .int (nI (nibR b pl (4 - j)))), (5, .int (nI j + Int32.ofInt (-1)))] → W p l e ((headSpec wsX1_through ({ frames := 1, cells := 0, slots := 0, locals := 23 })).room) s m ([.ref h0, .int (nI wh), .int (nI 0)] : List Value).toArray below meth c H locs 0 0 (MQ below (va_Qv (fun _ : Unit => True) (fun _ => BW D [(cI, .int)] A [(h0, .inr (1, [.int th, .ref a1, .int by0, .int rd, .ref a4, .ref a5, .ref a6, .ref a7, .int zz, .ref a9, .ref a10, .ref a11, .ref a12])), (a9, .inl (cI, 128, .inl TB)), (a10, .inl (cI, 4, .inl (st4 b 0 (cBox 0 wh (ld4 b 0))))), (a11, .inl (cI, 4, .inl (st4 d 0 (cBox 0 wh (ld4 b 0)))))]) A) ([.ref h0, .int (nI wh), .int (nI 0)] : List Value).toArray s 0 0 (A)) (F0 m 34 ls []) := by
            intro fu
            induction fu with
              | zero => intro j hij hfj; exact absurd hfj (by omega)
              | succ fu ih =>
                intro j hij hfj H locs hP hD hS ls hl
                rcases j with _ | j
                · have hv : nibR b pl (4 - 0) < 16 := nibR_lt b pl
                  refine lv_iload hx hb dX1_through_34 (lv_at hl 5 rfl) ?_
                  refine lv_if_lt (tgt := 63) hx hb dX1_through_36 (by decide) (fun c36 => ?_) (fun c36 => absurd c36 (by decide))
                  refine lv_iload_n hx hb dX1_through_63 rfl (lv_at hl 2 rfl) ?_
                  refine wk_eq0N (tgt := 77) hx hb (a := 0) (by decide) dX1_through_64 (by decide) (fun c64 => ?_) (fun c64 => absurd c64 (fun h => h rfl))
                  refine lv_aload_n hx hb dX1_through_77 rfl (lv_at hl 0 rfl) ?_
                  refine va_get (D := D) (ci := 1) (v := .ref a9) (C := RX1) (T := TX1) (N := 13) hx hb hts hinX1 hown hK hP 0 rfl rfl 9 (by decide) (hts (.fieldLink RX1 25 "SlicedCipherModel" "rows" "[I") (by decide +kernel)) (fun _ h9 => h9) rfl dX1_through_78 ?_
                  refine lv_bipush (v := nI 16) hx hb dX1_through_81 (by decide) ?_
                  refine lv_iload_n hx hb dX1_through_83 rfl (lv_at hl 1 rfl) ?_
                  refine wk_imulN hx hb (a := 16) (b := wh) dX1_through_84 ?_
                  refine lv_iload hx hb dX1_through_85 (lv_at hl 4 rfl) ?_
                  refine wk_iaddN hx hb (a := 16 * wh) (b := nibR b pl (4 - 0)) dX1_through_87 ?_
                  refine wk_iald hx hb hK hP 1 0 rfl rfl (k := (16 * wh) + (nibR b pl (4 - 0))) (by omega) (by decide) dX1_through_88 ?_
                  refine wk_i (y := boxV 0 wh (nibR b pl 4)) rfl ?_
                  refine lv_istore (lv' := [(5, .int (boxV 0 wh (nibR b pl 4))), (0, .ref h0), (1, .int (nI wh)), (2, .int (nI 0)), (3, .int (nI pl)), (4, .int (nI (nibR b pl (4 - 0))))]) hx hb dX1_through_89 hl (by decide) rfl (fun ls hl => ?_)
                  refine lv_iconst (v := nI 0) hx hb dX1_through_91 (by decide) ?_
                  refine lv_istore (lv' := [(6, .int (nI 0)), (5, .int (boxV 0 wh (nibR b pl 4))), (0, .ref h0), (1, .int (nI wh)), (2, .int (nI 0)), (3, .int (nI pl)), (4, .int (nI (nibR b pl (4 - 0))))]) hx hb dX1_through_92 hl (by decide) rfl (fun ls hl => ?_)
                  exact lpM 5 0 (by omega) (by omega) _ _ hP hD hS ls (lv_sub hl [2, 3, 4, 5, 1, 0] rfl)
                · rw [dec1 j] at hl
                  refine lv_iload hx hb dX1_through_34 (lv_at hl 5 rfl) ?_
                  refine lv_if_lt (tgt := 63) hx hb dX1_through_36 (by decide) (fun c36 => absurd c36 (nI_pos (by omega))) (fun c36 => ?_)
                  refine lv_iconst (v := nI 2) hx hb dX1_through_39 (by decide) ?_
                  refine lv_iload hx hb dX1_through_40 (lv_at hl 4 rfl) ?_
                  refine wk_imulN hx hb (a := 2) (b := nibR b pl (4 - (j + 1))) dX1_through_42 ?_
                  refine lv_aload_n hx hb dX1_through_43 rfl (lv_at hl 0 rfl) ?_
                  refine va_get (D := D) (ci := 1) (v := .ref a10) (C := RX1) (T := TX1) (N := 13) hx hb hts hinX1 hown hK hP 0 rfl rfl 10 (by decide) (hts (.fieldLink RX1 28 "SlicedCipherModel" "block" "[I") (by decide +kernel)) (fun _ h9 => h9) rfl dX1_through_44 ?_
                  refine lv_iload hx hb dX1_through_47 (lv_at hl 5 rfl) ?_
                  refine wk_iald hx hb hK hP 2 0 rfl rfl (k := j) (by omega) (by decide) dX1_through_49 ?_
                  refine lv_iload_n hx hb dX1_through_50 rfl (lv_at hl 3 rfl) ?_
                  refine lv_ishr hx hb dX1_through_51 ?_
                  refine lv_iconst (v := nI 1) hx hb dX1_through_52 (by decide) ?_
                  refine lv_iand hx hb dX1_through_53 ?_
                  refine wk_i (y := nI (bN (b j) pl)) (sh1 _ (by omega)) ?_
                  refine wk_iaddN hx hb (a := 2 * (nibR b pl (4 - (j + 1)))) (b := bN (b j) pl) dX1_through_54 ?_
                  refine lv_istore (lv' := [(4, .int (nI ((2 * (nibR b pl (4 - (j + 1)))) + (bN (b j) pl)))), (0, .ref h0), (1, .int (nI wh)), (2, .int (nI 0)), (3, .int (nI pl)), (5, .int (nI j))]) hx hb dX1_through_55 hl (by decide) rfl (fun ls hl => ?_)
                  refine lv_iinc (v := nI j + Int32.ofInt (-1)) (lv' := [(5, .int (nI j + Int32.ofInt (-1))), (4, .int (nI ((2 * (nibR b pl (4 - (j + 1)))) + (bN (b j) pl)))), (0, .ref h0), (1, .int (nI wh)), (2, .int (nI 0)), (3, .int (nI pl))]) hx hb dX1_through_57 hl (k := 5) rfl rfl (by decide) rfl (fun ls hl => ?_)
                  refine lv_goto (tgt := 34) hx hb dX1_through_60 (by decide) ?_
                  exact ih j (by omega) (by omega) _ _ hP hD hS ls (by rw [nibR_at b pl (by omega)]; exact lv_sub hl [2, 3, 4, 5, 1, 0] rfl)
          refine lv_iconst (v := nI 0) hx hb dX1_through_28 (by decide) ?_
          refine lv_istore (lv' := [(4, .int (nI 0)), (0, .ref h0), (1, .int (nI wh)), (2, .int (nI 0)), (3, .int (nI pl))]) hx hb dX1_through_29 hl (by decide) rfl (fun ls hl => ?_)
          refine lv_iconst (v := nI 3) hx hb dX1_through_31 (by decide) ?_
          refine lv_istore (lv' := [(5, .int (nI 3)), (4, .int (nI 0)), (0, .ref h0), (1, .int (nI wh)), (2, .int (nI 0)), (3, .int (nI pl))]) hx hb dX1_through_32 hl (by decide) rfl (fun ls hl => ?_)
          exact lpN 5 4 (by omega) (by omega) _ _ hP hD hS ls (lv_sub hl [2, 3, 4, 5, 1, 0] rfl)
  have lpA : ∀ (fu : Nat) (k : Nat), k ≤ 4 → 4 + 1 ≤ k + fu → ∀ (H : Heap) (locs : List Loc), va_P D vwCl [(h0, .inr (1, [.int th, .ref a1, .int by0, .int rd, .ref a4, .ref a5, .ref a6, .ref a7, .int zz, .ref a9, .ref a10, .ref a11, .ref a12])), (a9, .inl (cI, 128, .inl TB)), (a10, .inl (cI, 4, .inl b)), (a11, .inl (cI, 4, .inl (cp0 d k)))] H → va_D A [(h0, .inr (1, [.int th, .ref a1, .int by0, .int rd, .ref a4, .ref a5, .ref a6, .ref a7, .int zz, .ref a9, .ref a10, .ref a11, .ref a12])), (a9, .inl (cI, 128, .inl TB)), (a10, .inl (cI, 4, .inl b)), (a11, .inl (cI, 4, .inl (cp0 d k)))] → va_S A s.heap H locs → ∀ (ls : Array Slot), lv_has ls 7 [(0, .ref h0), (1, .int (nI wh)), (2, .int (nI 0)), (3, .int (nI k))] → W p l e ((headSpec wsX1_through ({ frames := 1, cells := 0, slots := 0, locals := 23 })).room) s m ([.ref h0, .int (nI wh), .int (nI 0)] : List Value).toArray below meth c H locs 0 0 (MQ below (va_Qv (fun _ : Unit => True) (fun _ => BW D [(cI, .int)] A [(h0, .inr (1, [.int th, .ref a1, .int by0, .int rd, .ref a4, .ref a5, .ref a6, .ref a7, .int zz, .ref a9, .ref a10, .ref a11, .ref a12])), (a9, .inl (cI, 128, .inl TB)), (a10, .inl (cI, 4, .inl (st4 b 0 (cBox 0 wh (ld4 b 0))))), (a11, .inl (cI, 4, .inl (st4 d 0 (cBox 0 wh (ld4 b 0)))))]) A) ([.ref h0, .int (nI wh), .int (nI 0)] : List Value).toArray s 0 0 (A)) (F0 m 2 ls []) := by
    intro fu
    induction fu with
      | zero => intro k hik hfk; exact absurd hfk (by omega)
      | succ fu ih =>
        intro k hik hfk H locs hP hD hS ls hl
        refine lv_iload_n hx hb dX1_through_2 rfl (lv_at hl 3 rfl) ?_
        refine lv_iconst (v := nI 4) hx hb dX1_through_3 (by decide) ?_
        refine wk_geN (tgt := 20) hx hb (a := k) (b := 4) (by omega) (by decide) dX1_through_4 (by decide) (fun c4 => ?_) (fun c4 => ?_)
        · obtain rfl : k = 4 := by omega
          rw [cp0_4] at hP hD
          have hP : va_P D vwCl [(h0, .inr (1, [.int th, .ref a1, .int by0, .int rd, .ref a4, .ref a5, .ref a6, .ref a7, .int zz, .ref a9, .ref a10, .ref a11, .ref a12])), (a9, .inl (cI, 128, .inl TB)), (a10, .inl (cI, 4, .inl b)), (a11, .inl (cI, 4, .inl (st4 d 0 (mQ 0 wh b 0))))] H := hP
          have hD : va_D A [(h0, .inr (1, [.int th, .ref a1, .int by0, .int rd, .ref a4, .ref a5, .ref a6, .ref a7, .int zz, .ref a9, .ref a10, .ref a11, .ref a12])), (a9, .inl (cI, 128, .inl TB)), (a10, .inl (cI, 4, .inl b)), (a11, .inl (cI, 4, .inl (st4 d 0 (mQ 0 wh b 0))))] := hD
          refine lv_iconst (v := nI 0) hx hb dX1_through_20 (by decide) ?_
          refine lv_istore_n (lv' := [(3, .int (nI 0)), (0, .ref h0), (1, .int (nI wh)), (2, .int (nI 0))]) hx hb dX1_through_21 rfl hl (by decide) rfl (fun ls hl => ?_)
          exact lpP 33 0 (by omega) (by omega) _ _ hP hD hS ls (lv_sub hl [1, 2, 3, 0] rfl)
        · refine lv_aload_n hx hb dX1_through_7 rfl (lv_at hl 0 rfl) ?_
          refine va_get (D := D) (ci := 1) (v := .ref a11) (C := RX1) (T := TX1) (N := 13) hx hb hts hinX1 hown hK hP 0 rfl rfl 11 (by decide) (hts (.fieldLink RX1 31 "SlicedCipherModel" "made" "[I") (by decide +kernel)) (fun _ h9 => h9) rfl dX1_through_8 ?_
          refine lv_iload_n hx hb dX1_through_11 rfl (lv_at hl 3 rfl) ?_
          refine lv_iconst (v := nI 0) hx hb dX1_through_12 (by decide) ?_
          refine wk_iast hx hb hK hP hD hS 3 0 rfl rfl (k := k) (x := nI 0) (by omega) (by decide) dX1_through_13 (fun H locs hP hD hS => ?_)
          have hP : va_P D vwCl [(h0, .inr (1, [.int th, .ref a1, .int by0, .int rd, .ref a4, .ref a5, .ref a6, .ref a7, .int zz, .ref a9, .ref a10, .ref a11, .ref a12])), (a9, .inl (cI, 128, .inl TB)), (a10, .inl (cI, 4, .inl b)), (a11, .inl (cI, 4, .inl (upd (cp0 d k) k (nI 0))))] H := hP
          have hD : va_D A [(h0, .inr (1, [.int th, .ref a1, .int by0, .int rd, .ref a4, .ref a5, .ref a6, .ref a7, .int zz, .ref a9, .ref a10, .ref a11, .ref a12])), (a9, .inl (cI, 128, .inl TB)), (a10, .inl (cI, 4, .inl b)), (a11, .inl (cI, 4, .inl (upd (cp0 d k) k (nI 0))))] := hD
          refine lv_iinc (v := nI (k + 1)) (lv' := [(3, .int (nI (k + 1))), (0, .ref h0), (1, .int (nI wh)), (2, .int (nI 0))]) hx hb dX1_through_14 hl (k := 3) rfl (wk_inc k (by decide)) (by decide) rfl (fun ls hl => ?_)
          refine lv_goto (tgt := 2) hx hb dX1_through_17 (by decide) ?_
          exact ih (k + 1) (by omega) (by omega) _ _ hP hD hS ls (lv_sub hl [1, 2, 3, 0] rfl)
  refine lv_iconst (v := nI 0) hx hb dX1_through_0 (by decide) ?_
  refine lv_istore_n (lv' := [(3, .int (nI 0)), (0, .ref h0), (1, .int (nI wh)), (2, .int (nI 0))]) hx hb dX1_through_1 rfl hl (by decide) rfl (fun ls hl => ?_)
  exact lpA 5 0 (by omega) (by omega) _ _ hP hD hS ls (lv_sub hl [1, 2, 3, 0] rfl)
set_option maxHeartbeats 4000000 in
set_option maxRecDepth 100000 in
theorem c_X1_through1 (l : Launch) (D : va_G) (cI : ClassId) (sz : Nat) (h0 a1 a4 a5 a6 a7 a9 a10 a11 a12 : Nat) (th by0 rd zz : Int32) (wh : Nat) (b d : Nat → Int32) (h1 : wh < 8) : Met l yX1_through wsX1_through ({ frames := 1, cells := 0, slots := 0, locals := 23 }) (va_Pc [.ref h0, .int (nI wh), .int (nI 1)] (fun U => PW D [(cI, .int)] [(h0, .inr (1, [.int th, .ref a1, .int by0, .int rd, .ref a4, .ref a5, .ref a6, .ref a7, .int zz, .ref a9, .ref a10, .ref a11, .ref a12])), (a9, .inl (cI, 128, .inl TB)), (a10, .inl (cI, 4, .inl b)), (a11, .inl (cI, 4, .inl d))] sz U ∧ True)) (va_Qv (fun _ : Unit => True) (fun _ => BW D [(cI, .int)] (va_A [(h0, .inr (1, [.int th, .ref a1, .int by0, .int rd, .ref a4, .ref a5, .ref a6, .ref a7, .int zz, .ref a9, .ref a10, .ref a11, .ref a12])), (a9, .inl (cI, 128, .inl TB)), (a10, .inl (cI, 4, .inl b)), (a11, .inl (cI, 4, .inl d))] sz) [(h0, .inr (1, [.int th, .ref a1, .int by0, .int rd, .ref a4, .ref a5, .ref a6, .ref a7, .int zz, .ref a9, .ref a10, .ref a11, .ref a12])), (a9, .inl (cI, 128, .inl TB)), (a10, .inl (cI, 4, .inl (st4 b 0 (cBox 1 wh (ld4 b 0))))), (a11, .inl (cI, 4, .inl (st4 d 0 (cBox 1 wh (ld4 b 0)))))]) (va_A [(h0, .inr (1, [.int th, .ref a1, .int by0, .int rd, .ref a4, .ref a5, .ref a6, .ref a7, .int zz, .ref a9, .ref a10, .ref a11, .ref a12])), (a9, .inl (cI, 128, .inl TB)), (a10, .inl (cI, 4, .inl b)), (a11, .inl (cI, 4, .inl d))] sz)) 0 0 (va_A [(h0, .inr (1, [.int th, .ref a1, .int by0, .int rd, .ref a4, .ref a5, .ref a6, .ref a7, .int zz, .ref a9, .ref a10, .ref a11, .ref a12])), (a9, .inl (cI, 128, .inl TB)), (a10, .inl (cI, 4, .inl b)), (a11, .inl (cI, 4, .inl d))] sz) := by
  refine Met.ofW (cc := cX1_through) (maxL := 7) (ret := none) (by decide) rfl ?_
  intro p e s m args below meth c s₁ B hml hv
  obtain ⟨rfl, ⟨hsz, hP, hK, hD0⟩, -⟩ := hv
  have hx := B.exec
  have hb := B.bytes
  have hr := B.returns
  have hts := atoms_spec (ws := wsX1_through) B.pre
  have hown : s.vm.findClass RX1 = some m.cls := findClass_of_methodNamed B.named
  have hlocks := B.notSynchronized
  subst hsz
  have hD := hD0.self (sz := s.heap.size)
  have hinX1 := in_X1_through
  generalize hAe : va_A [(h0, .inr (1, [.int th, .ref a1, .int by0, .int rd, .ref a4, .ref a5, .ref a6, .ref a7, .int zz, .ref a9, .ref a10, .ref a11, .ref a12])), (a9, .inl (cI, 128, .inl TB)), (a10, .inl (cI, 4, .inl b)), (a11, .inl (cI, 4, .inl d))] s.heap.size = A at hD ⊢
  have hA : ∀ q : Nat, s.heap.size ≤ q → A q := fun q h => by rw [← hAe]; exact Or.inr h
  have hS : va_S A s.heap s.heap [] := va_S.rf
  have hl := lv_entry ([.ref h0, .int (nI wh), .int (nI 1)]) (n := 7) (Nat.le_of_ble_eq_true rfl)
  rw [lg_entry_eq]
  generalize (lg_sl ([.ref h0, .int (nI wh), .int (nI 1)]) ++ List.replicate (7 - (lg_sl ([.ref h0, .int (nI wh), .int (nI 1)])).length) Slot.unset).toArray = ls at hl ⊢
  have hl : lv_has ls 7 [(0, .ref h0), (1, .int (nI wh)), (2, .int (nI 1))] := hl
  have lpE : ∀ (fu : Nat) (k : Nat), k ≤ 4 → 4 + 1 ≤ k + fu → ∀ (H : Heap) (locs : List Loc), va_P D vwCl [(h0, .inr (1, [.int th, .ref a1, .int by0, .int rd, .ref a4, .ref a5, .ref a6, .ref a7, .int zz, .ref a9, .ref a10, .ref a11, .ref a12])), (a9, .inl (cI, 128, .inl TB)), (a10, .inl (cI, 4, .inl (cpZ b (st4 d 0 (cBox 1 wh (ld4 b 0))) k))), (a11, .inl (cI, 4, .inl (st4 d 0 (cBox 1 wh (ld4 b 0)))))] H → va_D A [(h0, .inr (1, [.int th, .ref a1, .int by0, .int rd, .ref a4, .ref a5, .ref a6, .ref a7, .int zz, .ref a9, .ref a10, .ref a11, .ref a12])), (a9, .inl (cI, 128, .inl TB)), (a10, .inl (cI, 4, .inl (cpZ b (st4 d 0 (cBox 1 wh (ld4 b 0))) k))), (a11, .inl (cI, 4, .inl (st4 d 0 (cBox 1 wh (ld4 b 0)))))] → va_S A s.heap H locs → ∀ (ls : Array Slot), lv_has ls 7 [(0, .ref h0), (1, .int (nI wh)), (2, .int (nI 1)), (3, .int (nI k))] → W p l e ((headSpec wsX1_through ({ frames := 1, cells := 0, slots := 0, locals := 23 })).room) s m ([.ref h0, .int (nI wh), .int (nI 1)] : List Value).toArray below meth c H locs 0 0 (MQ below (va_Qv (fun _ : Unit => True) (fun _ => BW D [(cI, .int)] A [(h0, .inr (1, [.int th, .ref a1, .int by0, .int rd, .ref a4, .ref a5, .ref a6, .ref a7, .int zz, .ref a9, .ref a10, .ref a11, .ref a12])), (a9, .inl (cI, 128, .inl TB)), (a10, .inl (cI, 4, .inl (st4 b 0 (cBox 1 wh (ld4 b 0))))), (a11, .inl (cI, 4, .inl (st4 d 0 (cBox 1 wh (ld4 b 0)))))]) A) ([.ref h0, .int (nI wh), .int (nI 1)] : List Value).toArray s 0 0 (A)) (F0 m 138 ls []) := by
    intro fu
    induction fu with
      | zero => intro k hik hfk; exact absurd hfk (by omega)
      | succ fu ih =>
        intro k hik hfk H locs hP hD hS ls hl
        refine lv_iload_n hx hb dX1_through_138 rfl (lv_at hl 3 rfl) ?_
        refine lv_iconst (v := nI 4) hx hb dX1_through_139 (by decide) ?_
        refine wk_geN (tgt := 161) hx hb (a := k) (b := 4) (by omega) (by decide) dX1_through_140 (by decide) (fun c140 => ?_) (fun c140 => ?_)
        · obtain rfl : k = 4 := by omega
          rw [cpZ_4, ld4_st4] at hP hD
          exact W.vret hx hb hr (fun t ht hW => ⟨⟨(), rfl, trivial, by rw [ht]; exact hP, va_K.moved hW.alike hK, hD⟩, hS.F ht⟩) hS.2.2 dX1_through_161
        · refine lv_aload_n hx hb dX1_through_143 rfl (lv_at hl 0 rfl) ?_
          refine va_get (D := D) (ci := 1) (v := .ref a10) (C := RX1) (T := TX1) (N := 13) hx hb hts hinX1 hown hK hP 0 rfl rfl 10 (by decide) (hts (.fieldLink RX1 28 "SlicedCipherModel" "block" "[I") (by decide +kernel)) (fun _ h9 => h9) rfl dX1_through_144 ?_
          refine lv_iload_n hx hb dX1_through_147 rfl (lv_at hl 3 rfl) ?_
          refine lv_aload_n hx hb dX1_through_148 rfl (lv_at hl 0 rfl) ?_
          refine va_get (D := D) (ci := 1) (v := .ref a11) (C := RX1) (T := TX1) (N := 13) hx hb hts hinX1 hown hK hP 0 rfl rfl 11 (by decide) (hts (.fieldLink RX1 31 "SlicedCipherModel" "made" "[I") (by decide +kernel)) (fun _ h9 => h9) rfl dX1_through_149 ?_
          refine lv_iload_n hx hb dX1_through_152 rfl (lv_at hl 3 rfl) ?_
          refine wk_iald hx hb hK hP 3 0 rfl rfl (k := k) (by omega) (by decide) dX1_through_153 ?_
          refine wk_iast hx hb hK hP hD hS 2 0 rfl rfl (k := k) (x := (st4 d 0 (cBox 1 wh (ld4 b 0))) k) (by omega) (by decide) dX1_through_154 (fun H locs hP hD hS => ?_)
          have hP : va_P D vwCl [(h0, .inr (1, [.int th, .ref a1, .int by0, .int rd, .ref a4, .ref a5, .ref a6, .ref a7, .int zz, .ref a9, .ref a10, .ref a11, .ref a12])), (a9, .inl (cI, 128, .inl TB)), (a10, .inl (cI, 4, .inl (upd (cpZ b (st4 d 0 (cBox 1 wh (ld4 b 0))) k) k ((st4 d 0 (cBox 1 wh (ld4 b 0))) k)))), (a11, .inl (cI, 4, .inl (st4 d 0 (cBox 1 wh (ld4 b 0)))))] H := hP
          have hD : va_D A [(h0, .inr (1, [.int th, .ref a1, .int by0, .int rd, .ref a4, .ref a5, .ref a6, .ref a7, .int zz, .ref a9, .ref a10, .ref a11, .ref a12])), (a9, .inl (cI, 128, .inl TB)), (a10, .inl (cI, 4, .inl (upd (cpZ b (st4 d 0 (cBox 1 wh (ld4 b 0))) k) k ((st4 d 0 (cBox 1 wh (ld4 b 0))) k)))), (a11, .inl (cI, 4, .inl (st4 d 0 (cBox 1 wh (ld4 b 0)))))] := hD
          refine lv_iinc (v := nI (k + 1)) (lv' := [(3, .int (nI (k + 1))), (0, .ref h0), (1, .int (nI wh)), (2, .int (nI 1))]) hx hb dX1_through_155 hl (k := 3) rfl (wk_inc k (by decide)) (by decide) rfl (fun ls hl => ?_)
          refine lv_goto (tgt := 138) hx hb dX1_through_158 (by decide) ?_
          exact ih (k + 1) (by omega) (by omega) _ _ hP hD hS ls (lv_sub hl [1, 2, 3, 0] rfl)
  have lpP : ∀ (fu : Nat) (pl : Nat), pl ≤ 32 → 33 ≤ pl + fu → ∀ (H : Heap) (locs : List Loc), va_P D vwCl [(h0, .inr (1, [.int th, .ref a1, .int by0, .int rd, .ref a4, .ref a5, .ref a6, .ref a7, .int zz, .ref a9, .ref a10, .ref a11, .ref a12])), (a9, .inl (cI, 128, .inl TB)), (a10, .inl (cI, 4, .inl b)), (a11, .inl (cI, 4, .inl (st4 d 0 (mQ 1 wh b pl))))] H → va_D A [(h0, .inr (1, [.int th, .ref a1, .int by0, .int rd, .ref a4, .ref a5, .ref a6, .ref a7, .int zz, .ref a9, .ref a10, .ref a11, .ref a12])), (a9, .inl (cI, 128, .inl TB)), (a10, .inl (cI, 4, .inl b)), (a11, .inl (cI, 4, .inl (st4 d 0 (mQ 1 wh b pl))))] → va_S A s.heap H locs → ∀ (ls : Array Slot), lv_has ls 7 [(0, .ref h0), (1, .int (nI wh)), (2, .int (nI 1)), (3, .int (nI pl))] → W p l e ((headSpec wsX1_through ({ frames := 1, cells := 0, slots := 0, locals := 23 })).room) s m ([.ref h0, .int (nI wh), .int (nI 1)] : List Value).toArray below meth c H locs 0 0 (MQ below (va_Qv (fun _ : Unit => True) (fun _ => BW D [(cI, .int)] A [(h0, .inr (1, [.int th, .ref a1, .int by0, .int rd, .ref a4, .ref a5, .ref a6, .ref a7, .int zz, .ref a9, .ref a10, .ref a11, .ref a12])), (a9, .inl (cI, 128, .inl TB)), (a10, .inl (cI, 4, .inl (st4 b 0 (cBox 1 wh (ld4 b 0))))), (a11, .inl (cI, 4, .inl (st4 d 0 (cBox 1 wh (ld4 b 0)))))]) A) ([.ref h0, .int (nI wh), .int (nI 1)] : List Value).toArray s 0 0 (A)) (F0 m 22 ls []) := by
    intro fu
    induction fu with
      | zero => intro pl hip hfp; exact absurd hfp (by omega)
      | succ fu ih =>
        intro pl hip hfp H locs hP hD hS ls hl
        refine lv_iload_n hx hb dX1_through_22 rfl (lv_at hl 3 rfl) ?_
        refine lv_bipush (v := nI 32) hx hb dX1_through_23 (by decide) ?_
        refine wk_geN (tgt := 136) hx hb (a := pl) (b := 32) (by omega) (by decide) dX1_through_25 (by decide) (fun c25 => ?_) (fun c25 => ?_)
        · obtain rfl : pl = 32 := by omega
          rw [show mQ 1 wh b 32 = cBox 1 wh (ld4 b 0) from box_eq (by decide) h1 b] at hP hD
          refine lv_iconst (v := nI 0) hx hb dX1_through_136 (by decide) ?_
          refine lv_istore_n (lv' := [(3, .int (nI 0)), (0, .ref h0), (1, .int (nI wh)), (2, .int (nI 1))]) hx hb dX1_through_137 rfl hl (by decide) rfl (fun ls hl => ?_)
          exact lpE 5 0 (by omega) (by omega) _ _ hP hD hS ls (lv_sub hl [1, 2, 3, 0] rfl)
        · have ihP := ih
          have lpM : ∀ (fu : Nat) (k : Nat), k ≤ 4 → 4 + 1 ≤ k + fu → ∀ (H : Heap) (locs : List Loc), va_P D vwCl [(h0, .inr (1, [.int th, .ref a1, .int by0, .int rd, .ref a4, .ref a5, .ref a6, .ref a7, .int zz, .ref a9, .ref a10, .ref a11, .ref a12])), (a9, .inl (cI, 128, .inl TB)), (a10, .inl (cI, 4, .inl b)), (a11, .inl (cI, 4, .inl (inF (st4 d 0 (mQ 1 wh b pl)) (boxV 1 wh (nibR b pl 4)) pl k)))] H → va_D A [(h0, .inr (1, [.int th, .ref a1, .int by0, .int rd, .ref a4, .ref a5, .ref a6, .ref a7, .int zz, .ref a9, .ref a10, .ref a11, .ref a12])), (a9, .inl (cI, 128, .inl TB)), (a10, .inl (cI, 4, .inl b)), (a11, .inl (cI, 4, .inl (inF (st4 d 0 (mQ 1 wh b pl)) (boxV 1 wh (nibR b pl 4)) pl k)))] → va_S A s.heap H locs → ∀ (ls : Array Slot), lv_has ls 7 [(0, .ref h0), (1, .int (nI wh)), (2, .int (nI 1)), (3, .int (nI pl)), (5, .int (boxV 1 wh (nibR b pl 4))), (6, .int (nI k))] → W p l e ((headSpec wsX1_through ({ frames := 1, cells := 0, slots := 0, locals := 23 })).room) s m ([.ref h0, .int (nI wh), .int (nI 1)] : List Value).toArray below meth c H locs 0 0 (MQ below (va_Qv (fun _ : Unit => True) (fun _ => BW D [(cI, .int)] A [(h0, .inr (1, [.int th, .ref a1, .int by0, .int rd, .ref a4, .ref a5, .ref a6, .ref a7, .int zz, .ref a9, .ref a10, .ref a11, .ref a12])), (a9, .inl (cI, 128, .inl TB)), (a10, .inl (cI, 4, .inl (st4 b 0 (cBox 1 wh (ld4 b 0))))), (a11, .inl (cI, 4, .inl (st4 d 0 (cBox 1 wh (ld4 b 0)))))]) A) ([.ref h0, .int (nI wh), .int (nI 1)] : List Value).toArray s 0 0 (A)) (F0 m 94 ls []) := by
            intro fu
            induction fu with
              | zero => intro k hik hfk; exact absurd hfk (by omega)
              | succ fu ih =>
                intro k hik hfk H locs hP hD hS ls hl
                refine lv_iload hx hb dX1_through_94 (lv_at hl 5 rfl) ?_
                refine lv_iconst (v := nI 4) hx hb dX1_through_96 (by decide) ?_
                refine wk_geN (tgt := 130) hx hb (a := k) (b := 4) (by omega) (by decide) dX1_through_97 (by decide) (fun c97 => ?_) (fun c97 => ?_)
                · obtain rfl : k = 4 := by omega
                  rw [mQ_step] at hP hD
                  refine lv_iinc (v := nI (pl + 1)) (lv' := [(3, .int (nI (pl + 1))), (0, .ref h0), (1, .int (nI wh)), (2, .int (nI 1)), (5, .int (boxV 1 wh (nibR b pl 4))), (6, .int (nI 4))]) hx hb dX1_through_130 hl (k := 3) rfl (wk_inc pl (by decide)) (by decide) rfl (fun ls hl => ?_)
                  refine lv_goto (tgt := 22) hx hb dX1_through_133 (by decide) ?_
                  exact ihP (pl + 1) (by omega) (by omega) _ _ hP hD hS ls (lv_sub hl [1, 2, 3, 0] rfl)
                · refine lv_aload_n hx hb dX1_through_100 rfl (lv_at hl 0 rfl) ?_
                  refine va_get (D := D) (ci := 1) (v := .ref a11) (C := RX1) (T := TX1) (N := 13) hx hb hts hinX1 hown hK hP 0 rfl rfl 11 (by decide) (hts (.fieldLink RX1 31 "SlicedCipherModel" "made" "[I") (by decide +kernel)) (fun _ h9 => h9) rfl dX1_through_101 ?_
                  refine lv_iload hx hb dX1_through_104 (lv_at hl 5 rfl) ?_
                  refine lv_aload_n hx hb dX1_through_106 rfl (lv_at hl 0 rfl) ?_
                  refine va_get (D := D) (ci := 1) (v := .ref a11) (C := RX1) (T := TX1) (N := 13) hx hb hts hinX1 hown hK hP 0 rfl rfl 11 (by decide) (hts (.fieldLink RX1 31 "SlicedCipherModel" "made" "[I") (by decide +kernel)) (fun _ h9 => h9) rfl dX1_through_107 ?_
                  refine lv_iload hx hb dX1_through_110 (lv_at hl 5 rfl) ?_
                  refine wk_iald hx hb hK hP 3 0 rfl rfl (k := k) (by omega) (by decide) dX1_through_112 ?_
                  refine lv_iload hx hb dX1_through_113 (lv_at hl 4 rfl) ?_
                  refine lv_iload hx hb dX1_through_115 (lv_at hl 5 rfl) ?_
                  refine lv_ishr hx hb dX1_through_117 ?_
                  refine lv_iconst (v := nI 1) hx hb dX1_through_118 (by decide) ?_
                  refine lv_iand hx hb dX1_through_119 ?_
                  refine lv_iload_n hx hb dX1_through_120 rfl (lv_at hl 3 rfl) ?_
                  refine lv_ishl hx hb dX1_through_121 ?_
                  refine lv_ior hx hb dX1_through_122 ?_
                  refine wk_iast hx hb hK hP hD hS 3 0 rfl rfl (k := k) (x := ((inF (st4 d 0 (mQ 1 wh b pl)) (boxV 1 wh (nibR b pl 4)) pl k) k) ||| ((((boxV 1 wh (nibR b pl 4)) >>> ((nI k) &&& 31)) &&& (nI 1)) <<< ((nI pl) &&& 31))) (by omega) (by decide) dX1_through_123 (fun H locs hP hD hS => ?_)
                  have hP : va_P D vwCl [(h0, .inr (1, [.int th, .ref a1, .int by0, .int rd, .ref a4, .ref a5, .ref a6, .ref a7, .int zz, .ref a9, .ref a10, .ref a11, .ref a12])), (a9, .inl (cI, 128, .inl TB)), (a10, .inl (cI, 4, .inl b)), (a11, .inl (cI, 4, .inl (upd (inF (st4 d 0 (mQ 1 wh b pl)) (boxV 1 wh (nibR b pl 4)) pl k) k (((inF (st4 d 0 (mQ 1 wh b pl)) (boxV 1 wh (nibR b pl 4)) pl k) k) ||| ((((boxV 1 wh (nibR b pl 4)) >>> ((nI k) &&& 31)) &&& (nI 1)) <<< ((nI pl) &&& 31))))))] H := hP
                  have hD : va_D A [(h0, .inr (1, [.int th, .ref a1, .int by0, .int rd, .ref a4, .ref a5, .ref a6, .ref a7, .int zz, .ref a9, .ref a10, .ref a11, .ref a12])), (a9, .inl (cI, 128, .inl TB)), (a10, .inl (cI, 4, .inl b)), (a11, .inl (cI, 4, .inl (upd (inF (st4 d 0 (mQ 1 wh b pl)) (boxV 1 wh (nibR b pl 4)) pl k) k (((inF (st4 d 0 (mQ 1 wh b pl)) (boxV 1 wh (nibR b pl 4)) pl k) k) ||| ((((boxV 1 wh (nibR b pl 4)) >>> ((nI k) &&& 31)) &&& (nI 1)) <<< ((nI pl) &&& 31))))))] := hD
                  refine lv_iinc (v := nI (k + 1)) (lv' := [(6, .int (nI (k + 1))), (0, .ref h0), (1, .int (nI wh)), (2, .int (nI 1)), (3, .int (nI pl)), (5, .int (boxV 1 wh (nibR b pl 4)))]) hx hb dX1_through_124 hl (k := 5) rfl (wk_inc k (by decide)) (by decide) rfl (fun ls hl => ?_)
                  refine lv_goto (tgt := 94) hx hb dX1_through_127 (by decide) ?_
                  exact ih (k + 1) (by omega) (by omega) _ _ hP hD hS ls (lv_sub hl [1, 2, 3, 4, 5, 0] rfl)
          have lpN : ∀ (fu : Nat) (j : Nat), j ≤ 4 → j + 1 ≤ fu → ∀ (H : Heap) (locs : List Loc), va_P D vwCl [(h0, .inr (1, [.int th, .ref a1, .int by0, .int rd, .ref a4, .ref a5, .ref a6, .ref a7, .int zz, .ref a9, .ref a10, .ref a11, .ref a12])), (a9, .inl (cI, 128, .inl TB)), (a10, .inl (cI, 4, .inl b)), (a11, .inl (cI, 4, .inl (st4 d 0 (mQ 1 wh b pl))))] H → va_D A [(h0, .inr (1, [.int th, .ref a1, .int by0, .int rd, .ref a4, .ref a5, .ref a6, .ref a7, .int zz, .ref a9, .ref a10, .ref a11, .ref a12])), (a9, .inl (cI, 128, .inl TB)), (a10, .inl (cI, 4, .inl b)), (a11, .inl (cI, 4, .inl (st4 d 0 (mQ 1 wh b pl))))] → va_S A s.heap H locs → ∀ (ls : Array Slot), lv_has ls 7 [(0, .ref h0), (1, .int (nI wh)), (2, .int (nI 1)), (3, .int (nI pl)), (4, .int (nI (nibR b pl (4 - j)))), (5, .int (nI j + Int32.ofInt (-1)))] → W p l e ((headSpec wsX1_through ({ frames := 1, cells := 0, slots := 0, locals := 23 })).room) s m ([.ref h0, .int (nI wh), .int (nI 1)] : List Value).toArray below meth c H locs 0 0 (MQ below (va_Qv (fun _ : Unit => True) (fun _ => BW D [(cI, .int)] A [(h0, .inr (1, [.int th, .ref a1, .int by0, .int rd, .ref a4, .ref a5, .ref a6, .ref a7, .int zz, .ref a9, .ref a10, .ref a11, .ref a12])), (a9, .inl (cI, 128, .inl TB)), (a10, .inl (cI, 4, .inl (st4 b 0 (cBox 1 wh (ld4 b 0))))), (a11, .inl (cI, 4, .inl (st4 d 0 (cBox 1 wh (ld4 b 0)))))]) A) ([.ref h0, .int (nI wh), .int (nI 1)] : List Value).toArray s 0 0 (A)) (F0 m 34 ls []) := by
            intro fu
            induction fu with
              | zero => intro j hij hfj; exact absurd hfj (by omega)
              | succ fu ih =>
                intro j hij hfj H locs hP hD hS ls hl
                rcases j with _ | j
                · have hv : nibR b pl (4 - 0) < 16 := nibR_lt b pl
                  refine lv_iload hx hb dX1_through_34 (lv_at hl 5 rfl) ?_
                  refine lv_if_lt (tgt := 63) hx hb dX1_through_36 (by decide) (fun c36 => ?_) (fun c36 => absurd c36 (by decide))
                  refine lv_iload_n hx hb dX1_through_63 rfl (lv_at hl 2 rfl) ?_
                  refine wk_eq0N (tgt := 77) hx hb (a := 1) (by decide) dX1_through_64 (by decide) (fun c64 => absurd c64 (by decide)) (fun c64 => ?_)
                  refine lv_aload_n hx hb dX1_through_67 rfl (lv_at hl 0 rfl) ?_
                  refine lv_iload_n hx hb dX1_through_68 rfl (lv_at hl 1 rfl) ?_
                  refine lv_iload hx hb dX1_through_69 (lv_at hl 4 rfl) ?_
                  refine wk_Vi (b := h0) (As := [.int (nI wh), .int (nI (nibR b pl (4 - 0)))]) (rest := []) (wc := [(h0, .inr (1, [.int th, .ref a1, .int by0, .int rd, .ref a4, .ref a5, .ref a6, .ref a7, .int zz, .ref a9, .ref a10, .ref a11, .ref a12])), (a9, .inl (cI, 128, .inl TB))]) (ci := 1) (q0 := 0) ⟨hx, hb, hml, hown, hts⟩ (c_X1_back l D cI _ h0 a1 a4 a5 a6 a7 a9 a10 a11 a12 th by0 rd zz wh (nibR b pl (4 - 0)) h1 hv) (cwV 2 hts gX1_through_X1_back rfl rfl rfl (by decide +kernel) ⟨Nat.le_of_ble_eq_true rfl, Nat.le_of_ble_eq_true rfl⟩) (fun _ _ _ _ h => h) (fun _ _ _ => trivial) hK hP hD rfl rfl [0, 1] rfl (by decide) rfl hl.1 rfl (Nat.le_of_ble_eq_true rfl) dX1_through_71 ⟨Nat.zero_le _, Nat.zero_le _⟩ (fun z9 hz9 => ?_)
                  refine wk_i (y := nI (cSrc wh (nI (nibR b pl (4 - 0))) 16)) hz9 ?_
                  refine lv_goto (tgt := 89) hx hb dX1_through_74 (by decide) ?_
                  refine wk_i (y := boxV 1 wh (nibR b pl 4)) rfl ?_
                  refine lv_istore (lv' := [(5, .int (boxV 1 wh (nibR b pl 4))), (0, .ref h0), (1, .int (nI wh)), (2, .int (nI 1)), (3, .int (nI pl)), (4, .int (nI (nibR b pl (4 - 0))))]) hx hb dX1_through_89 hl (by decide) rfl (fun ls hl => ?_)
                  refine lv_iconst (v := nI 0) hx hb dX1_through_91 (by decide) ?_
                  refine lv_istore (lv' := [(6, .int (nI 0)), (5, .int (boxV 1 wh (nibR b pl 4))), (0, .ref h0), (1, .int (nI wh)), (2, .int (nI 1)), (3, .int (nI pl)), (4, .int (nI (nibR b pl (4 - 0))))]) hx hb dX1_through_92 hl (by decide) rfl (fun ls hl => ?_)
                  exact lpM 5 0 (by omega) (by omega) _ _ hP hD hS ls (lv_sub hl [2, 3, 4, 5, 1, 0] rfl)
                · rw [dec1 j] at hl
                  refine lv_iload hx hb dX1_through_34 (lv_at hl 5 rfl) ?_
                  refine lv_if_lt (tgt := 63) hx hb dX1_through_36 (by decide) (fun c36 => absurd c36 (nI_pos (by omega))) (fun c36 => ?_)
                  refine lv_iconst (v := nI 2) hx hb dX1_through_39 (by decide) ?_
                  refine lv_iload hx hb dX1_through_40 (lv_at hl 4 rfl) ?_
                  refine wk_imulN hx hb (a := 2) (b := nibR b pl (4 - (j + 1))) dX1_through_42 ?_
                  refine lv_aload_n hx hb dX1_through_43 rfl (lv_at hl 0 rfl) ?_
                  refine va_get (D := D) (ci := 1) (v := .ref a10) (C := RX1) (T := TX1) (N := 13) hx hb hts hinX1 hown hK hP 0 rfl rfl 10 (by decide) (hts (.fieldLink RX1 28 "SlicedCipherModel" "block" "[I") (by decide +kernel)) (fun _ h9 => h9) rfl dX1_through_44 ?_
                  refine lv_iload hx hb dX1_through_47 (lv_at hl 5 rfl) ?_
                  refine wk_iald hx hb hK hP 2 0 rfl rfl (k := j) (by omega) (by decide) dX1_through_49 ?_
                  refine lv_iload_n hx hb dX1_through_50 rfl (lv_at hl 3 rfl) ?_
                  refine lv_ishr hx hb dX1_through_51 ?_
                  refine lv_iconst (v := nI 1) hx hb dX1_through_52 (by decide) ?_
                  refine lv_iand hx hb dX1_through_53 ?_
                  refine wk_i (y := nI (bN (b j) pl)) (sh1 _ (by omega)) ?_
                  refine wk_iaddN hx hb (a := 2 * (nibR b pl (4 - (j + 1)))) (b := bN (b j) pl) dX1_through_54 ?_
                  refine lv_istore (lv' := [(4, .int (nI ((2 * (nibR b pl (4 - (j + 1)))) + (bN (b j) pl)))), (0, .ref h0), (1, .int (nI wh)), (2, .int (nI 1)), (3, .int (nI pl)), (5, .int (nI j))]) hx hb dX1_through_55 hl (by decide) rfl (fun ls hl => ?_)
                  refine lv_iinc (v := nI j + Int32.ofInt (-1)) (lv' := [(5, .int (nI j + Int32.ofInt (-1))), (4, .int (nI ((2 * (nibR b pl (4 - (j + 1)))) + (bN (b j) pl)))), (0, .ref h0), (1, .int (nI wh)), (2, .int (nI 1)), (3, .int (nI pl))]) hx hb dX1_through_57 hl (k := 5) rfl rfl (by decide) rfl (fun ls hl => ?_)
                  refine lv_goto (tgt := 34) hx hb dX1_through_60 (by decide) ?_
                  exact ih j (by omega) (by omega) _ _ hP hD hS ls (by rw [nibR_at b pl (by omega)]; exact lv_sub hl [2, 3, 4, 5, 1, 0] rfl)
          refine lv_iconst (v := nI 0) hx hb dX1_through_28 (by decide) ?_
          refine lv_istore (lv' := [(4, .int (nI 0)), (0, .ref h0), (1, .int (nI wh)), (2, .int (nI 1)), (3, .int (nI pl))]) hx hb dX1_through_29 hl (by decide) rfl (fun ls hl => ?_)
          refine lv_iconst (v := nI 3) hx hb dX1_through_31 (by decide) ?_
          refine lv_istore (lv' := [(5, .int (nI 3)), (4, .int (nI 0)), (0, .ref h0), (1, .int (nI wh)), (2, .int (nI 1)), (3, .int (nI pl))]) hx hb dX1_through_32 hl (by decide) rfl (fun ls hl => ?_)
          exact lpN 5 4 (by omega) (by omega) _ _ hP hD hS ls (lv_sub hl [2, 3, 4, 5, 1, 0] rfl)
  have lpA : ∀ (fu : Nat) (k : Nat), k ≤ 4 → 4 + 1 ≤ k + fu → ∀ (H : Heap) (locs : List Loc), va_P D vwCl [(h0, .inr (1, [.int th, .ref a1, .int by0, .int rd, .ref a4, .ref a5, .ref a6, .ref a7, .int zz, .ref a9, .ref a10, .ref a11, .ref a12])), (a9, .inl (cI, 128, .inl TB)), (a10, .inl (cI, 4, .inl b)), (a11, .inl (cI, 4, .inl (cp0 d k)))] H → va_D A [(h0, .inr (1, [.int th, .ref a1, .int by0, .int rd, .ref a4, .ref a5, .ref a6, .ref a7, .int zz, .ref a9, .ref a10, .ref a11, .ref a12])), (a9, .inl (cI, 128, .inl TB)), (a10, .inl (cI, 4, .inl b)), (a11, .inl (cI, 4, .inl (cp0 d k)))] → va_S A s.heap H locs → ∀ (ls : Array Slot), lv_has ls 7 [(0, .ref h0), (1, .int (nI wh)), (2, .int (nI 1)), (3, .int (nI k))] → W p l e ((headSpec wsX1_through ({ frames := 1, cells := 0, slots := 0, locals := 23 })).room) s m ([.ref h0, .int (nI wh), .int (nI 1)] : List Value).toArray below meth c H locs 0 0 (MQ below (va_Qv (fun _ : Unit => True) (fun _ => BW D [(cI, .int)] A [(h0, .inr (1, [.int th, .ref a1, .int by0, .int rd, .ref a4, .ref a5, .ref a6, .ref a7, .int zz, .ref a9, .ref a10, .ref a11, .ref a12])), (a9, .inl (cI, 128, .inl TB)), (a10, .inl (cI, 4, .inl (st4 b 0 (cBox 1 wh (ld4 b 0))))), (a11, .inl (cI, 4, .inl (st4 d 0 (cBox 1 wh (ld4 b 0)))))]) A) ([.ref h0, .int (nI wh), .int (nI 1)] : List Value).toArray s 0 0 (A)) (F0 m 2 ls []) := by
    intro fu
    induction fu with
      | zero => intro k hik hfk; exact absurd hfk (by omega)
      | succ fu ih =>
        intro k hik hfk H locs hP hD hS ls hl
        refine lv_iload_n hx hb dX1_through_2 rfl (lv_at hl 3 rfl) ?_
        refine lv_iconst (v := nI 4) hx hb dX1_through_3 (by decide) ?_
        refine wk_geN (tgt := 20) hx hb (a := k) (b := 4) (by omega) (by decide) dX1_through_4 (by decide) (fun c4 => ?_) (fun c4 => ?_)
        · obtain rfl : k = 4 := by omega
          rw [cp0_4] at hP hD
          have hP : va_P D vwCl [(h0, .inr (1, [.int th, .ref a1, .int by0, .int rd, .ref a4, .ref a5, .ref a6, .ref a7, .int zz, .ref a9, .ref a10, .ref a11, .ref a12])), (a9, .inl (cI, 128, .inl TB)), (a10, .inl (cI, 4, .inl b)), (a11, .inl (cI, 4, .inl (st4 d 0 (mQ 1 wh b 0))))] H := hP
          have hD : va_D A [(h0, .inr (1, [.int th, .ref a1, .int by0, .int rd, .ref a4, .ref a5, .ref a6, .ref a7, .int zz, .ref a9, .ref a10, .ref a11, .ref a12])), (a9, .inl (cI, 128, .inl TB)), (a10, .inl (cI, 4, .inl b)), (a11, .inl (cI, 4, .inl (st4 d 0 (mQ 1 wh b 0))))] := hD
          refine lv_iconst (v := nI 0) hx hb dX1_through_20 (by decide) ?_
          refine lv_istore_n (lv' := [(3, .int (nI 0)), (0, .ref h0), (1, .int (nI wh)), (2, .int (nI 1))]) hx hb dX1_through_21 rfl hl (by decide) rfl (fun ls hl => ?_)
          exact lpP 33 0 (by omega) (by omega) _ _ hP hD hS ls (lv_sub hl [1, 2, 3, 0] rfl)
        · refine lv_aload_n hx hb dX1_through_7 rfl (lv_at hl 0 rfl) ?_
          refine va_get (D := D) (ci := 1) (v := .ref a11) (C := RX1) (T := TX1) (N := 13) hx hb hts hinX1 hown hK hP 0 rfl rfl 11 (by decide) (hts (.fieldLink RX1 31 "SlicedCipherModel" "made" "[I") (by decide +kernel)) (fun _ h9 => h9) rfl dX1_through_8 ?_
          refine lv_iload_n hx hb dX1_through_11 rfl (lv_at hl 3 rfl) ?_
          refine lv_iconst (v := nI 0) hx hb dX1_through_12 (by decide) ?_
          refine wk_iast hx hb hK hP hD hS 3 0 rfl rfl (k := k) (x := nI 0) (by omega) (by decide) dX1_through_13 (fun H locs hP hD hS => ?_)
          have hP : va_P D vwCl [(h0, .inr (1, [.int th, .ref a1, .int by0, .int rd, .ref a4, .ref a5, .ref a6, .ref a7, .int zz, .ref a9, .ref a10, .ref a11, .ref a12])), (a9, .inl (cI, 128, .inl TB)), (a10, .inl (cI, 4, .inl b)), (a11, .inl (cI, 4, .inl (upd (cp0 d k) k (nI 0))))] H := hP
          have hD : va_D A [(h0, .inr (1, [.int th, .ref a1, .int by0, .int rd, .ref a4, .ref a5, .ref a6, .ref a7, .int zz, .ref a9, .ref a10, .ref a11, .ref a12])), (a9, .inl (cI, 128, .inl TB)), (a10, .inl (cI, 4, .inl b)), (a11, .inl (cI, 4, .inl (upd (cp0 d k) k (nI 0))))] := hD
          refine lv_iinc (v := nI (k + 1)) (lv' := [(3, .int (nI (k + 1))), (0, .ref h0), (1, .int (nI wh)), (2, .int (nI 1))]) hx hb dX1_through_14 hl (k := 3) rfl (wk_inc k (by decide)) (by decide) rfl (fun ls hl => ?_)
          refine lv_goto (tgt := 2) hx hb dX1_through_17 (by decide) ?_
          exact ih (k + 1) (by omega) (by omega) _ _ hP hD hS ls (lv_sub hl [1, 2, 3, 0] rfl)
  refine lv_iconst (v := nI 0) hx hb dX1_through_0 (by decide) ?_
  refine lv_istore_n (lv' := [(3, .int (nI 0)), (0, .ref h0), (1, .int (nI wh)), (2, .int (nI 1))]) hx hb dX1_through_1 rfl hl (by decide) rfl (fun ls hl => ?_)
  exact lpA 5 0 (by omega) (by omega) _ _ hP hD hS ls (lv_sub hl [1, 2, 3, 0] rfl)
