set_option maxRecDepth 100000 in
theorem in_X0_countOneMore : ∀ w ∈ wsX00, w ∈ wsX0_countOneMore := by decide +kernel
set_option maxHeartbeats 4000000 in
set_option maxRecDepth 100000 in
theorem c_X0_countOneMore (l : Launch) (D : va_G) (cI : ClassId) (sz : Nat) (h0 kw sc so tp ct sr : Nat) (kb kr tl : Int32) (C0 : Nat → Int32) : Met l yX0_countOneMore wsX0_countOneMore ({ frames := 0, cells := 0, slots := 0, locals := 0 }) (va_Pc [.ref h0] (fun U => PW D [(cI, .int)] [(h0, .inr (0, [.ref kw, .int kb, .int kr, .ref sc, .ref so, .ref tp, .int tl, .ref ct, .ref sr])), (ct, .inl (cI, 4, .inl C0))] sz U ∧ True)) (va_Qv (fun _ : Unit => True) (fun _ => BW D [(cI, .int)] (va_A [(h0, .inr (0, [.ref kw, .int kb, .int kr, .ref sc, .ref so, .ref tp, .int tl, .ref ct, .ref sr])), (ct, .inl (cI, 4, .inl C0))] sz) [(h0, .inr (0, [.ref kw, .int kb, .int kr, .ref sc, .ref so, .ref tp, .int tl, .ref ct, .ref sr])), (ct, .inl (cI, 4, .inl (cInc C0)))]) (va_A [(h0, .inr (0, [.ref kw, .int kb, .int kr, .ref sc, .ref so, .ref tp, .int tl, .ref ct, .ref sr])), (ct, .inl (cI, 4, .inl C0))] sz)) 0 0 (va_A [(h0, .inr (0, [.ref kw, .int kb, .int kr, .ref sc, .ref so, .ref tp, .int tl, .ref ct, .ref sr])), (ct, .inl (cI, 4, .inl C0))] sz) := by
  refine Met.ofW (cc := cX0_countOneMore) (maxL := 2) (ret := none) (by decide) rfl ?_
  intro p e s m args below meth c s₁ B hml hv
  obtain ⟨rfl, ⟨hsz, hP, hK, hD0⟩, -⟩ := hv
  have hx := B.exec
  have hb := B.bytes
  have hr := B.returns
  have hts := atoms_spec (ws := wsX0_countOneMore) B.pre
  have hown : s.vm.findClass RX0 = some m.cls := findClass_of_methodNamed B.named
  have hlocks := B.notSynchronized
  subst hsz
  have hD := hD0.self (sz := s.heap.size)
  have hinX0 := in_X0_countOneMore
  generalize hAe : va_A [(h0, .inr (0, [.ref kw, .int kb, .int kr, .ref sc, .ref so, .ref tp, .int tl, .ref ct, .ref sr])), (ct, .inl (cI, 4, .inl C0))] s.heap.size = A at hD ⊢
  have hA : ∀ q : Nat, s.heap.size ≤ q → A q := fun q h => by rw [← hAe]; exact Or.inr h
  have hS : va_S A s.heap s.heap [] := va_S.rf
  have hl := lv_entry ([.ref h0]) (n := 2) (Nat.le_of_ble_eq_true rfl)
  rw [lg_entry_eq]
  generalize (lg_sl ([.ref h0]) ++ List.replicate (2 - (lg_sl ([.ref h0])).length) Slot.unset).toArray = ls at hl ⊢
  have hl : lv_has ls 2 [(0, .ref h0)] := hl
  have lp : ∀ (fu : Nat) (j : Nat) (C : Nat → Int32), j ≤ 4 → cIncF C (4 - j) j = cInc C0 → 4 + 1 ≤ j + fu → ∀ (H : Heap) (locs : List Loc), va_P D vwCl [(h0, .inr (0, [.ref kw, .int kb, .int kr, .ref sc, .ref so, .ref tp, .int tl, .ref ct, .ref sr])), (ct, .inl (cI, 4, .inl C))] H → va_D A [(h0, .inr (0, [.ref kw, .int kb, .int kr, .ref sc, .ref so, .ref tp, .int tl, .ref ct, .ref sr])), (ct, .inl (cI, 4, .inl C))] → va_S A s.heap H locs → ∀ (ls : Array Slot), lv_has ls 2 [(0, .ref h0), (1, .int (nI j))] → W p l e ((headSpec wsX0_countOneMore ({ frames := 0, cells := 0, slots := 0, locals := 0 })).room) s m ([.ref h0] : List Value).toArray below meth c H locs 0 0 (MQ below (va_Qv (fun _ : Unit => True) (fun _ => BW D [(cI, .int)] A [(h0, .inr (0, [.ref kw, .int kb, .int kr, .ref sc, .ref so, .ref tp, .int tl, .ref ct, .ref sr])), (ct, .inl (cI, 4, .inl (cInc C0)))]) A) ([.ref h0] : List Value).toArray s 0 0 (A)) (F0 m 2 ls []) := by
    intro fu
    induction fu with
      | zero => intro j C hi hT hfu; exact absurd hfu (by omega)
      | succ fu ih =>
        intro j C hi hT hfu H locs hP hD hS ls hl
        refine lv_iload_n hx hb dX0_countOneMore_2 rfl (lv_at hl 1 rfl) ?_
        refine lv_iconst (v := nI 4) hx hb dX0_countOneMore_3 (by decide) ?_
        refine wk_geN (tgt := 35) hx hb (a := j) (b := 4) (by omega) (by decide) dX0_countOneMore_4 (by decide) (fun c4 => ?_) (fun c4 => ?_)
        · obtain rfl : j = 4 := by omega
          have hT : C = cInc C0 := hT
          subst hT
          exact W.vret hx hb hr (fun t ht hW => ⟨⟨(), rfl, trivial, by rw [ht]; exact hP, va_K.moved hW.alike hK, hD⟩, hS.F ht⟩) hS.2.2 dX0_countOneMore_35
        · refine lv_aload_n hx hb dX0_countOneMore_7 rfl (lv_at hl 0 rfl) ?_
          refine va_get (D := D) (ci := 0) (v := .ref ct) (C := RX0) (T := TX0) (N := 9) hx hb hts hinX0 hown hK hP 0 rfl rfl 7 (by decide) (hts (.fieldLink RX0 22 "SlicedCipher" "counter" "[I") (by decide +kernel)) (fun _ h9 => h9) rfl dX0_countOneMore_8 ?_
          refine lv_iload_n hx hb dX0_countOneMore_11 rfl (lv_at hl 1 rfl) ?_
          refine lv_dup2_11 hx hb dX0_countOneMore_12 rfl rfl ?_
          refine wk_iald hx hb hK hP 1 0 rfl rfl (k := j) (by omega) (by decide) dX0_countOneMore_13 ?_
          refine lv_iconst (v := nI 1) hx hb dX0_countOneMore_14 (by decide) ?_
          refine lv_iadd hx hb dX0_countOneMore_15 ?_
          refine wk_iast hx hb hK hP hD hS 1 0 rfl rfl (k := j) (x := (C j) + (nI 1)) (by omega) (by decide) dX0_countOneMore_16 (fun H locs hP hD hS => ?_)
          have hP : va_P D vwCl [(h0, .inr (0, [.ref kw, .int kb, .int kr, .ref sc, .ref so, .ref tp, .int tl, .ref ct, .ref sr])), (ct, .inl (cI, 4, .inl (upd C j ((C j) + (nI 1)))))] H := hP
          have hD : va_D A [(h0, .inr (0, [.ref kw, .int kb, .int kr, .ref sc, .ref so, .ref tp, .int tl, .ref ct, .ref sr])), (ct, .inl (cI, 4, .inl (upd C j ((C j) + (nI 1)))))] := hD
          refine lv_aload_n hx hb dX0_countOneMore_17 rfl (lv_at hl 0 rfl) ?_
          refine va_get (D := D) (ci := 0) (v := .ref ct) (C := RX0) (T := TX0) (N := 9) hx hb hts hinX0 hown hK hP 0 rfl rfl 7 (by decide) (hts (.fieldLink RX0 22 "SlicedCipher" "counter" "[I") (by decide +kernel)) (fun _ h9 => h9) rfl dX0_countOneMore_18 ?_
          refine lv_iload_n hx hb dX0_countOneMore_21 rfl (lv_at hl 1 rfl) ?_
          refine wk_iald hx hb hK hP 1 0 rfl rfl (k := j) (by omega) (by decide) dX0_countOneMore_22 ?_
          refine lv_if_eq (tgt := 29) hx hb dX0_countOneMore_23 (by decide) (fun c23 => ?_) (fun c23 => ?_)
          · refine lv_iinc (v := nI (j + 1)) (lv' := [(1, .int (nI (j + 1))), (0, .ref h0)]) hx hb dX0_countOneMore_29 hl (k := 1) rfl (wk_inc j (by decide)) (by decide) rfl (fun ls hl => ?_)
            refine lv_goto (tgt := 2) hx hb dX0_countOneMore_32 (by decide) ?_
            exact ih (j + 1) _ (by omega) (cIncF_z (by omega) hT c23) (by omega) _ _ hP hD hS ls (lv_sub hl [1, 0] rfl)
          · rw [cIncF_s (by omega) hT c23] at hP hD
            refine lv_goto (tgt := 35) hx hb dX0_countOneMore_26 (by decide) ?_
            exact W.vret hx hb hr (fun t ht hW => ⟨⟨(), rfl, trivial, by rw [ht]; exact hP, va_K.moved hW.alike hK, hD⟩, hS.F ht⟩) hS.2.2 dX0_countOneMore_35
  refine lv_iconst (v := nI 0) hx hb dX0_countOneMore_0 (by decide) ?_
  refine lv_istore_n (lv' := [(1, .int (nI 0)), (0, .ref h0)]) hx hb dX0_countOneMore_1 rfl hl (by decide) rfl (fun ls hl => ?_)
  exact lp 5 0 C0 (by omega) rfl (by omega) _ _ hP hD hS ls (lv_sub hl [1, 0] rfl)
set_option maxRecDepth 100000 in
theorem in_X0_maskByCounter : ∀ w ∈ wsX00, w ∈ wsX0_maskByCounter := by decide +kernel
set_option maxHeartbeats 4000000 in
set_option maxRecDepth 100000 in
theorem c_X0_maskByCounter (l : Launch) (D : va_G) (cI : ClassId) (tb : Nat) (sz : Nat) (h0 kw sc so tp ct sr : Nat) (kb kr : Int32) (nb : Nat) (F S f C R : Nat → Int32) (hnb : nb ≤ 64) : Met l yX0_maskByCounter wsX0_maskByCounter ({ frames := 4, cells := 0, slots := 0, locals := 100 }) (va_Pc [.ref h0] (fun U => PW D [(cI, .int)] [(h0, .inr (0, [.ref kw, .int kb, .int kr, .ref sc, .ref so, .ref tp, .int (nI (4 * nb)), .ref ct, .ref sr])), (sc, .inl (cI, 140, .inl F)), (so, .inl (cI, 4, .inl S)), (tp, .inl (cI, 256, .inl f)), (ct, .inl (cI, 4, .inl C)), (sr, .inl (cI, 4, .inl R))] sz U ∧ bxs tb (va_A [(h0, .inr (0, [.ref kw, .int kb, .int kr, .ref sc, .ref so, .ref tp, .int (nI (4 * nb)), .ref ct, .ref sr])), (sc, .inl (cI, 140, .inl F)), (so, .inl (cI, 4, .inl S)), (tp, .inl (cI, 256, .inl f)), (ct, .inl (cI, 4, .inl C)), (sr, .inl (cI, 4, .inl R))] sz) U U.heap)) (va_Qv (fun _ : Unit => True) (fun _ => BW D [(cI, .int)] (va_A [(h0, .inr (0, [.ref kw, .int kb, .int kr, .ref sc, .ref so, .ref tp, .int (nI (4 * nb)), .ref ct, .ref sr])), (sc, .inl (cI, 140, .inl F)), (so, .inl (cI, 4, .inl S)), (tp, .inl (cI, 256, .inl f)), (ct, .inl (cI, 4, .inl C)), (sr, .inl (cI, 4, .inl R))] sz) [(h0, .inr (0, [.ref kw, .int kb, .int kr, .ref sc, .ref so, .ref tp, .int (nI (4 * nb)), .ref ct, .ref sr])), (sc, .inl (cI, 140, .inl F)), (so, .inl (cI, 4, .inl S)), (tp, .inl (cI, 256, .inl (cMT F (va_cpy S C 0 0 4) f nb))), (ct, .inl (cI, 4, .inl (cCnt (va_cpy S C 0 0 4) nb))), (sr, .inl (cI, 4, .inl (cMR F (va_cpy S C 0 0 4) R nb)))]) (va_A [(h0, .inr (0, [.ref kw, .int kb, .int kr, .ref sc, .ref so, .ref tp, .int (nI (4 * nb)), .ref ct, .ref sr])), (sc, .inl (cI, 140, .inl F)), (so, .inl (cI, 4, .inl S)), (tp, .inl (cI, 256, .inl f)), (ct, .inl (cI, 4, .inl C)), (sr, .inl (cI, 4, .inl R))] sz)) 0 0 (va_A [(h0, .inr (0, [.ref kw, .int kb, .int kr, .ref sc, .ref so, .ref tp, .int (nI (4 * nb)), .ref ct, .ref sr])), (sc, .inl (cI, 140, .inl F)), (so, .inl (cI, 4, .inl S)), (tp, .inl (cI, 256, .inl f)), (ct, .inl (cI, 4, .inl C)), (sr, .inl (cI, 4, .inl R))] sz) := by
  refine Met.ofW (cc := cX0_maskByCounter) (maxL := 2) (ret := none) (by decide) rfl ?_
  intro p e s m args below meth c s₁ B hml hv
  obtain ⟨rfl, ⟨hsz, hP, hK, hD0⟩, hbx⟩ := hv
  have hx := B.exec
  have hb := B.bytes
  have hr := B.returns
  have hts := atoms_spec (ws := wsX0_maskByCounter) B.pre
  have hown : s.vm.findClass RX0 = some m.cls := findClass_of_methodNamed B.named
  have hlocks := B.notSynchronized
  subst hsz
  have hD := hD0.self (sz := s.heap.size)
  have hinX0 := in_X0_maskByCounter
  generalize hAe : va_A [(h0, .inr (0, [.ref kw, .int kb, .int kr, .ref sc, .ref so, .ref tp, .int (nI (4 * nb)), .ref ct, .ref sr])), (sc, .inl (cI, 140, .inl F)), (so, .inl (cI, 4, .inl S)), (tp, .inl (cI, 256, .inl f)), (ct, .inl (cI, 4, .inl C)), (sr, .inl (cI, 4, .inl R))] s.heap.size = A at hbx hD ⊢
  have hA : ∀ q : Nat, s.heap.size ≤ q → A q := fun q h => by rw [← hAe]; exact Or.inr h
  have hS : va_S A s.heap s.heap [] := va_S.rf
  have hl := lv_entry ([.ref h0]) (n := 2) (Nat.le_of_ble_eq_true rfl)
  rw [lg_entry_eq]
  generalize (lg_sl ([.ref h0]) ++ List.replicate (2 - (lg_sl ([.ref h0])).length) Slot.unset).toArray = ls at hl ⊢
  have hl : lv_has ls 2 [(0, .ref h0)] := hl
  have lp : ∀ (fu : Nat) (k : Nat), k ≤ nb → nb + 1 ≤ k + fu → ∀ (H : Heap) (locs : List Loc), va_P D vwCl [(h0, .inr (0, [.ref kw, .int kb, .int kr, .ref sc, .ref so, .ref tp, .int (nI (4 * nb)), .ref ct, .ref sr])), (sc, .inl (cI, 140, .inl F)), (so, .inl (cI, 4, .inl S)), (tp, .inl (cI, 256, .inl (cMT F (va_cpy S C 0 0 4) f k))), (ct, .inl (cI, 4, .inl (cCnt (va_cpy S C 0 0 4) k))), (sr, .inl (cI, 4, .inl (cMR F (va_cpy S C 0 0 4) R k)))] H → va_D A [(h0, .inr (0, [.ref kw, .int kb, .int kr, .ref sc, .ref so, .ref tp, .int (nI (4 * nb)), .ref ct, .ref sr])), (sc, .inl (cI, 140, .inl F)), (so, .inl (cI, 4, .inl S)), (tp, .inl (cI, 256, .inl (cMT F (va_cpy S C 0 0 4) f k))), (ct, .inl (cI, 4, .inl (cCnt (va_cpy S C 0 0 4) k))), (sr, .inl (cI, 4, .inl (cMR F (va_cpy S C 0 0 4) R k)))] → va_S A s.heap H locs → ∀ (ls : Array Slot), lv_has ls 2 [(0, .ref h0), (1, .int (nI (4 * k)))] → W p l e ((headSpec wsX0_maskByCounter ({ frames := 4, cells := 0, slots := 0, locals := 100 })).room) s m ([.ref h0] : List Value).toArray below meth c H locs 0 0 (MQ below (va_Qv (fun _ : Unit => True) (fun _ => BW D [(cI, .int)] A [(h0, .inr (0, [.ref kw, .int kb, .int kr, .ref sc, .ref so, .ref tp, .int (nI (4 * nb)), .ref ct, .ref sr])), (sc, .inl (cI, 140, .inl F)), (so, .inl (cI, 4, .inl S)), (tp, .inl (cI, 256, .inl (cMT F (va_cpy S C 0 0 4) f nb))), (ct, .inl (cI, 4, .inl (cCnt (va_cpy S C 0 0 4) nb))), (sr, .inl (cI, 4, .inl (cMR F (va_cpy S C 0 0 4) R nb)))]) A) ([.ref h0] : List Value).toArray s 0 0 (A)) (F0 m 16 ls []) := by
    intro fu
    induction fu with
      | zero => intro k hi hfu; exact absurd hfu (by omega)
      | succ fu ih =>
        intro k hi hfu H locs hP hD hS ls hl
        refine lv_iload_n hx hb dX0_maskByCounter_16 rfl (lv_at hl 1 rfl) ?_
        refine lv_aload_n hx hb dX0_maskByCounter_17 rfl (lv_at hl 0 rfl) ?_
        refine va_get (D := D) (ci := 0) (v := .int (nI (4 * nb))) (C := RX0) (T := TX0) (N := 9) hx hb hts hinX0 hown hK hP 0 rfl rfl 6 (by decide) (hts (.fieldLink RX0 36 "SlicedCipher" "tapeLength" "I") (by decide +kernel)) (fun _ h9 => h9) rfl dX0_maskByCounter_18 ?_
        refine wk_geN (tgt := 70) hx hb (a := 4 * k) (b := 4 * nb) (by omega) (by omega) dX0_maskByCounter_21 (by decide) (fun c21 => ?_) (fun c21 => ?_)
        · obtain rfl : k = nb := by omega
          exact W.vret hx hb hr (fun t ht hW => ⟨⟨(), rfl, trivial, by rw [ht]; exact hP, va_K.moved hW.alike hK, hD⟩, hS.F ht⟩) hS.2.2 dX0_maskByCounter_70
        · refine lv_aload_n hx hb dX0_maskByCounter_24 rfl (lv_at hl 0 rfl) ?_
          refine va_get (D := D) (ci := 0) (v := .ref ct) (C := RX0) (T := TX0) (N := 9) hx hb hts hinX0 hown hK hP 0 rfl rfl 7 (by decide) (hts (.fieldLink RX0 22 "SlicedCipher" "counter" "[I") (by decide +kernel)) (fun _ h9 => h9) rfl dX0_maskByCounter_25 ?_
          refine lv_iconst (v := nI 0) hx hb dX0_maskByCounter_28 (by decide) ?_
          refine lv_aload_n hx hb dX0_maskByCounter_29 rfl (lv_at hl 0 rfl) ?_
          refine va_get (D := D) (ci := 0) (v := .ref sr) (C := RX0) (T := TX0) (N := 9) hx hb hts hinX0 hown hK hP 0 rfl rfl 8 (by decide) (hts (.fieldLink RX0 25 "SlicedCipher" "scratch" "[I") (by decide +kernel)) (fun _ h9 => h9) rfl dX0_maskByCounter_30 ?_
          refine lv_iconst (v := nI 0) hx hb dX0_maskByCounter_33 (by decide) ?_
          refine lv_iconst (v := nI 4) hx hb dX0_maskByCounter_34 (by decide) ?_
          refine va_copyi (ty := .int) (sp := nI 0) (dp := nI 0) (n := nI 4) hx hb (by rw [hml]; exact hl.1.symm) hown (hts (.methodLink RX0 145 arraycopyName) (by decide +kernel)) (hts (.native arraycopyName) (by decide +kernel)) (hts (.static arraycopyName) (by decide +kernel)) (hts (.initialized "java/lang/System") (by decide +kernel)) hK hP hD hS 4 5 0 0 rfl rfl rfl rfl rfl (by decide) (by decide) (by decide) (by decide) (by decide) (fun _ _ => rfl) (by decide) (Nat.le_of_ble_eq_true rfl) dX0_maskByCounter_35 (fun H locs hP hD hS => ?_)
          have hP : va_P D vwCl [(h0, .inr (0, [.ref kw, .int kb, .int kr, .ref sc, .ref so, .ref tp, .int (nI (4 * nb)), .ref ct, .ref sr])), (sc, .inl (cI, 140, .inl F)), (so, .inl (cI, 4, .inl S)), (tp, .inl (cI, 256, .inl (cMT F (va_cpy S C 0 0 4) f k))), (ct, .inl (cI, 4, .inl (cCnt (va_cpy S C 0 0 4) k))), (sr, .inl (cI, 4, .inl (va_cpy (cCnt (va_cpy S C 0 0 4) k) (cMR F (va_cpy S C 0 0 4) R k) 0 0 4)))] H := hP
          have hD : va_D A [(h0, .inr (0, [.ref kw, .int kb, .int kr, .ref sc, .ref so, .ref tp, .int (nI (4 * nb)), .ref ct, .ref sr])), (sc, .inl (cI, 140, .inl F)), (so, .inl (cI, 4, .inl S)), (tp, .inl (cI, 256, .inl (cMT F (va_cpy S C 0 0 4) f k))), (ct, .inl (cI, 4, .inl (cCnt (va_cpy S C 0 0 4) k))), (sr, .inl (cI, 4, .inl (va_cpy (cCnt (va_cpy S C 0 0 4) k) (cMR F (va_cpy S C 0 0 4) R k) 0 0 4)))] := hD
          refine lv_aload_n hx hb dX0_maskByCounter_38 rfl (lv_at hl 0 rfl) ?_
          refine lv_aload_n hx hb dX0_maskByCounter_39 rfl (lv_at hl 0 rfl) ?_
          refine va_get (D := D) (ci := 0) (v := .ref sr) (C := RX0) (T := TX0) (N := 9) hx hb hts hinX0 hown hK hP 0 rfl rfl 8 (by decide) (hts (.fieldLink RX0 25 "SlicedCipher" "scratch" "[I") (by decide +kernel)) (fun _ h9 => h9) rfl dX0_maskByCounter_40 ?_
          refine lv_iconst (v := nI 0) hx hb dX0_maskByCounter_43 (by decide) ?_
          refine wk_Vv (b := h0) (As := [.ref sr, .int (nI 0)]) (rest := []) (wc := [(h0, .inr (0, [.ref kw, .int kb, .int kr, .ref sc, .ref so, .ref tp, .int (nI (4 * nb)), .ref ct, .ref sr])), (sc, .inl (cI, 140, .inl F)), (sr, .inl (cI, 4, .inl (va_cpy (cCnt (va_cpy S C 0 0 4) k) (cMR F (va_cpy S C 0 0 4) R k) 0 0 4)))]) (wr := [(so, .inl (cI, 4, .inl S)), (tp, .inl (cI, 256, .inl (cMT F (va_cpy S C 0 0 4) f k))), (ct, .inl (cI, 4, .inl (cCnt (va_cpy S C 0 0 4) k)))]) (w1 := [(h0, .inr (0, [.ref kw, .int kb, .int kr, .ref sc, .ref so, .ref tp, .int (nI (4 * nb)), .ref ct, .ref sr])), (sc, .inl (cI, 140, .inl F)), (sr, .inl (cI, 4, .inl (st4 (va_cpy (cCnt (va_cpy S C 0 0 4) k) (cMR F (va_cpy S C 0 0 4) R k) 0 0 4) 0 (cEnc F (ld4 (va_cpy (cCnt (va_cpy S C 0 0 4) k) (cMR F (va_cpy S C 0 0 4) R k) 0 0 4) 0)))))]) (w2 := [(h0, .inr (0, [.ref kw, .int kb, .int kr, .ref sc, .ref so, .ref tp, .int (nI (4 * nb)), .ref ct, .ref sr])), (sc, .inl (cI, 140, .inl F)), (so, .inl (cI, 4, .inl S)), (tp, .inl (cI, 256, .inl (cMT F (va_cpy S C 0 0 4) f k))), (ct, .inl (cI, 4, .inl (cCnt (va_cpy S C 0 0 4) k))), (sr, .inl (cI, 4, .inl (st4 (va_cpy (cCnt (va_cpy S C 0 0 4) k) (cMR F (va_cpy S C 0 0 4) R k) 0 0 4) 0 (cEnc F (ld4 (va_cpy (cCnt (va_cpy S C 0 0 4) k) (cMR F (va_cpy S C 0 0 4) R k) 0 0 4) 0)))))]) (ci := 0) (q0 := 0) ⟨hx, hb, hml, hown, hts⟩ (c_X0_encipher l D cI tb _ h0 kw sc so tp ct sr kb kr (nI (4 * nb)) sr 0 4 F (va_cpy (cCnt (va_cpy S C 0 0 4) k) (cMR F (va_cpy S C 0 0 4) R k) 0 0 4) (by omega) (by decide)) (cwV 2 hts gX0_maskByCounter_X0_encipher rfl rfl rfl (by decide +kernel) ⟨Nat.le_of_ble_eq_true rfl, Nat.le_of_ble_eq_true rfl⟩) (fun U g mk a h => bxs.call g mk a h) (fun hF U hU hW => hbx.give hS hF hU hW) hK hP hD hS hA rfl rfl [0, 1, 5] [2, 3, 4] rfl (by decide) rfl (by decide) (by decide) [3, 4, 0, 1, 2, 5] rfl (by decide) rfl hl.1 rfl (Nat.le_of_ble_eq_true rfl) dX0_maskByCounter_44 ⟨Nat.zero_le _, Nat.zero_le _⟩ (fun H locs hP hD hS => ?_)
          rw [ld4_cpy] at hP hD
          have hP : va_P D vwCl [(h0, .inr (0, [.ref kw, .int kb, .int kr, .ref sc, .ref so, .ref tp, .int (nI (4 * nb)), .ref ct, .ref sr])), (sc, .inl (cI, 140, .inl F)), (so, .inl (cI, 4, .inl S)), (tp, .inl (cI, 256, .inl (cMT F (va_cpy S C 0 0 4) f k))), (ct, .inl (cI, 4, .inl (cCnt (va_cpy S C 0 0 4) k))), (sr, .inl (cI, 4, .inl (cMR F (va_cpy S C 0 0 4) R (k + 1))))] H := hP
          have hD : va_D A [(h0, .inr (0, [.ref kw, .int kb, .int kr, .ref sc, .ref so, .ref tp, .int (nI (4 * nb)), .ref ct, .ref sr])), (sc, .inl (cI, 140, .inl F)), (so, .inl (cI, 4, .inl S)), (tp, .inl (cI, 256, .inl (cMT F (va_cpy S C 0 0 4) f k))), (ct, .inl (cI, 4, .inl (cCnt (va_cpy S C 0 0 4) k))), (sr, .inl (cI, 4, .inl (cMR F (va_cpy S C 0 0 4) R (k + 1))))] := hD
          refine lv_aload_n hx hb dX0_maskByCounter_47 rfl (lv_at hl 0 rfl) ?_
          refine va_get (D := D) (ci := 0) (v := .ref tp) (C := RX0) (T := TX0) (N := 9) hx hb hts hinX0 hown hK hP 0 rfl rfl 5 (by decide) (hts (.fieldLink RX0 19 "SlicedCipher" "tape" "[I") (by decide +kernel)) (fun _ h9 => h9) rfl dX0_maskByCounter_48 ?_
          refine lv_iload_n hx hb dX0_maskByCounter_51 rfl (lv_at hl 1 rfl) ?_
          refine lv_aload_n hx hb dX0_maskByCounter_52 rfl (lv_at hl 0 rfl) ?_
          refine va_get (D := D) (ci := 0) (v := .ref sr) (C := RX0) (T := TX0) (N := 9) hx hb hts hinX0 hown hK hP 0 rfl rfl 8 (by decide) (hts (.fieldLink RX0 25 "SlicedCipher" "scratch" "[I") (by decide +kernel)) (fun _ h9 => h9) rfl dX0_maskByCounter_53 ?_
          refine lv_iconst (v := nI 0) hx hb dX0_maskByCounter_56 (by decide) ?_
          refine wk_Sv (As := [.ref tp, .int (nI (4 * k)), .ref sr, .int (nI 0)]) (rest := []) (wc := [(tp, .inl (cI, 256, .inl (cMT F (va_cpy S C 0 0 4) f k))), (sr, .inl (cI, 4, .inl (cMR F (va_cpy S C 0 0 4) R (k + 1))))]) (wr := [(h0, .inr (0, [.ref kw, .int kb, .int kr, .ref sc, .ref so, .ref tp, .int (nI (4 * nb)), .ref ct, .ref sr])), (sc, .inl (cI, 140, .inl F)), (so, .inl (cI, 4, .inl S)), (ct, .inl (cI, 4, .inl (cCnt (va_cpy S C 0 0 4) k)))]) (w1 := [(tp, .inl (cI, 256, .inl (xbF (cMT F (va_cpy S C 0 0 4) f k) (4 * k) (cMR F (va_cpy S C 0 0 4) R (k + 1)) 0 4))), (sr, .inl (cI, 4, .inl (cMR F (va_cpy S C 0 0 4) R (k + 1))))]) (w2 := [(h0, .inr (0, [.ref kw, .int kb, .int kr, .ref sc, .ref so, .ref tp, .int (nI (4 * nb)), .ref ct, .ref sr])), (sc, .inl (cI, 140, .inl F)), (so, .inl (cI, 4, .inl S)), (tp, .inl (cI, 256, .inl (xbF (cMT F (va_cpy S C 0 0 4) f k) (4 * k) (cMR F (va_cpy S C 0 0 4) R (k + 1)) 0 4))), (ct, .inl (cI, 4, .inl (cCnt (va_cpy S C 0 0 4) k))), (sr, .inl (cI, 4, .inl (cMR F (va_cpy S C 0 0 4) R (k + 1))))]) ⟨hx, hb, hml, hown, hts⟩ (c_X0_xorBlock l D cI _ tp (4 * k) sr 0 256 4 (cMT F (va_cpy S C 0 0 4) f k) (cMR F (va_cpy S C 0 0 4) R (k + 1)) (by omega) (by decide) (by decide) (by decide)) (va_cwS 4 hts gX0_maskByCounter_X0_xorBlock rfl rfl rfl (by decide +kernel) ⟨Nat.le_of_ble_eq_true rfl, Nat.le_of_ble_eq_true rfl⟩) (fun _ _ _ _ h => h) (fun _ _ _ _ => trivial) hK hP hD hS hA [3, 5] [0, 1, 2, 4] rfl (by decide) rfl (by decide) (by decide) [0, 1, 2, 4, 3, 5] rfl (by decide) rfl hl.1 rfl (Nat.le_of_ble_eq_true rfl) dX0_maskByCounter_57 ⟨Nat.zero_le _, Nat.zero_le _⟩ (fun H locs hP hD hS => ?_)
          rw [xb_eq, show ld4 (cMR F (va_cpy S C 0 0 4) R (k + 1)) 0 = cEnc F (ld4 (cCnt (va_cpy S C 0 0 4) k) 0) from ld4_st4 _ _ _] at hP hD
          have hP : va_P D vwCl [(h0, .inr (0, [.ref kw, .int kb, .int kr, .ref sc, .ref so, .ref tp, .int (nI (4 * nb)), .ref ct, .ref sr])), (sc, .inl (cI, 140, .inl F)), (so, .inl (cI, 4, .inl S)), (tp, .inl (cI, 256, .inl (cMT F (va_cpy S C 0 0 4) f (k + 1)))), (ct, .inl (cI, 4, .inl (cCnt (va_cpy S C 0 0 4) k))), (sr, .inl (cI, 4, .inl (cMR F (va_cpy S C 0 0 4) R (k + 1))))] H := hP
          have hD : va_D A [(h0, .inr (0, [.ref kw, .int kb, .int kr, .ref sc, .ref so, .ref tp, .int (nI (4 * nb)), .ref ct, .ref sr])), (sc, .inl (cI, 140, .inl F)), (so, .inl (cI, 4, .inl S)), (tp, .inl (cI, 256, .inl (cMT F (va_cpy S C 0 0 4) f (k + 1)))), (ct, .inl (cI, 4, .inl (cCnt (va_cpy S C 0 0 4) k))), (sr, .inl (cI, 4, .inl (cMR F (va_cpy S C 0 0 4) R (k + 1))))] := hD
          refine lv_aload_n hx hb dX0_maskByCounter_60 rfl (lv_at hl 0 rfl) ?_
          refine wk_Vv (b := h0) (As := []) (rest := []) (wc := [(h0, .inr (0, [.ref kw, .int kb, .int kr, .ref sc, .ref so, .ref tp, .int (nI (4 * nb)), .ref ct, .ref sr])), (ct, .inl (cI, 4, .inl (cCnt (va_cpy S C 0 0 4) k)))]) (wr := [(sc, .inl (cI, 140, .inl F)), (so, .inl (cI, 4, .inl S)), (tp, .inl (cI, 256, .inl (cMT F (va_cpy S C 0 0 4) f (k + 1)))), (sr, .inl (cI, 4, .inl (cMR F (va_cpy S C 0 0 4) R (k + 1))))]) (w1 := [(h0, .inr (0, [.ref kw, .int kb, .int kr, .ref sc, .ref so, .ref tp, .int (nI (4 * nb)), .ref ct, .ref sr])), (ct, .inl (cI, 4, .inl (cInc (cCnt (va_cpy S C 0 0 4) k))))]) (w2 := [(h0, .inr (0, [.ref kw, .int kb, .int kr, .ref sc, .ref so, .ref tp, .int (nI (4 * nb)), .ref ct, .ref sr])), (sc, .inl (cI, 140, .inl F)), (so, .inl (cI, 4, .inl S)), (tp, .inl (cI, 256, .inl (cMT F (va_cpy S C 0 0 4) f (k + 1)))), (ct, .inl (cI, 4, .inl (cInc (cCnt (va_cpy S C 0 0 4) k)))), (sr, .inl (cI, 4, .inl (cMR F (va_cpy S C 0 0 4) R (k + 1))))]) (ci := 0) (q0 := 0) ⟨hx, hb, hml, hown, hts⟩ (c_X0_countOneMore l D cI _ h0 kw sc so tp ct sr kb kr (nI (4 * nb)) (cCnt (va_cpy S C 0 0 4) k)) (cwV 0 hts gX0_maskByCounter_X0_countOneMore rfl rfl rfl (by decide +kernel) ⟨Nat.le_of_ble_eq_true rfl, Nat.le_of_ble_eq_true rfl⟩) (fun _ _ _ _ h => h) (fun _ _ _ _ => trivial) hK hP hD hS hA rfl rfl [0, 4] [1, 2, 3, 5] rfl (by decide) rfl (by decide) (by decide) [4, 0, 1, 2, 5, 3] rfl (by decide) rfl hl.1 rfl (Nat.le_of_ble_eq_true rfl) dX0_maskByCounter_61 ⟨Nat.zero_le _, Nat.zero_le _⟩ (fun H locs hP hD hS => ?_)
          refine lv_iinc (v := nI (4 * k + 4)) (lv' := [(1, .int (nI (4 * k + 4))), (0, .ref h0)]) hx hb dX0_maskByCounter_64 hl (k := 1) rfl (wk_inc (4 * k) (by decide)) (by decide) rfl (fun ls hl => ?_)
          refine lv_goto (tgt := 16) hx hb dX0_maskByCounter_67 (by decide) ?_
          exact ih (k + 1) (by omega) (by omega) _ _ hP hD hS ls (lv_sub hl [1, 0] rfl)
  refine lv_aload_n hx hb dX0_maskByCounter_0 rfl (lv_at hl 0 rfl) ?_
  refine va_get (D := D) (ci := 0) (v := .ref so) (C := RX0) (T := TX0) (N := 9) hx hb hts hinX0 hown hK hP 0 rfl rfl 4 (by decide) (hts (.fieldLink RX0 16 "SlicedCipher" "startWords" "[I") (by decide +kernel)) (fun _ h9 => h9) rfl dX0_maskByCounter_1 ?_
  refine lv_iconst (v := nI 0) hx hb dX0_maskByCounter_4 (by decide) ?_
  refine lv_aload_n hx hb dX0_maskByCounter_5 rfl (lv_at hl 0 rfl) ?_
  refine va_get (D := D) (ci := 0) (v := .ref ct) (C := RX0) (T := TX0) (N := 9) hx hb hts hinX0 hown hK hP 0 rfl rfl 7 (by decide) (hts (.fieldLink RX0 22 "SlicedCipher" "counter" "[I") (by decide +kernel)) (fun _ h9 => h9) rfl dX0_maskByCounter_6 ?_
  refine lv_iconst (v := nI 0) hx hb dX0_maskByCounter_9 (by decide) ?_
  refine lv_iconst (v := nI 4) hx hb dX0_maskByCounter_10 (by decide) ?_
  refine va_copyi (ty := .int) (sp := nI 0) (dp := nI 0) (n := nI 4) hx hb (by rw [hml]; exact hl.1.symm) hown (hts (.methodLink RX0 145 arraycopyName) (by decide +kernel)) (hts (.native arraycopyName) (by decide +kernel)) (hts (.static arraycopyName) (by decide +kernel)) (hts (.initialized "java/lang/System") (by decide +kernel)) hK hP hD hS 2 4 0 0 rfl rfl rfl rfl rfl (by decide) (by decide) (by decide) (by decide) (by decide) (fun _ _ => rfl) (by decide) (Nat.le_of_ble_eq_true rfl) dX0_maskByCounter_11 (fun H locs hP hD hS => ?_)
  have hP : va_P D vwCl [(h0, .inr (0, [.ref kw, .int kb, .int kr, .ref sc, .ref so, .ref tp, .int (nI (4 * nb)), .ref ct, .ref sr])), (sc, .inl (cI, 140, .inl F)), (so, .inl (cI, 4, .inl S)), (tp, .inl (cI, 256, .inl f)), (ct, .inl (cI, 4, .inl (va_cpy S C 0 0 4))), (sr, .inl (cI, 4, .inl R))] H := hP
  have hD : va_D A [(h0, .inr (0, [.ref kw, .int kb, .int kr, .ref sc, .ref so, .ref tp, .int (nI (4 * nb)), .ref ct, .ref sr])), (sc, .inl (cI, 140, .inl F)), (so, .inl (cI, 4, .inl S)), (tp, .inl (cI, 256, .inl f)), (ct, .inl (cI, 4, .inl (va_cpy S C 0 0 4))), (sr, .inl (cI, 4, .inl R))] := hD
  refine lv_iconst (v := nI 0) hx hb dX0_maskByCounter_14 (by decide) ?_
  refine lv_istore_n (lv' := [(1, .int (nI 0)), (0, .ref h0)]) hx hb dX0_maskByCounter_15 rfl hl (by decide) rfl (fun ls hl => ?_)
  exact lp (nb + 1) 0 (by omega) (by omega) _ _ hP hD hS ls (lv_sub hl [1, 0] rfl)
