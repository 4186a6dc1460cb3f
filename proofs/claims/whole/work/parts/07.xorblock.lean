/-! xorBlock: word by word, into another row or the same -/
def xbF (f : Nat → Int32) (at0 : Nat) (g : Nat → Int32) (fr : Nat) : Nat → Nat → Int32
  | 0 => f
  | i + 1 => upd (xbF f at0 g fr i) (at0 + i) (xbF f at0 g fr i (at0 + i) ^^^ g (fr + i))
def xbS (f : Nat → Int32) (at0 : Nat) (fr : Nat) : Nat → Nat → Int32
  | 0 => f
  | i + 1 => upd (xbS f at0 fr i) (at0 + i) (xbS f at0 fr i (at0 + i) ^^^ xbS f at0 fr i (fr + i))
set_option maxHeartbeats 4000000 in
set_option maxRecDepth 100000 in
theorem c_X0_xorBlock (l : Launch) (D : va_G) (cI : ClassId) (sz : Nat) (w at0 o fr n k : Nat) (f g : Nat → Int32) (h1 : at0 + 4 ≤ n) (h2 : fr + 4 ≤ k) (h3 : n < 2 ^ 31) (h4 : k < 2 ^ 31) : Met l yX0_xorBlock wsX0_xorBlock ({ frames := 0, cells := 0, slots := 0, locals := 0 }) (va_Pc [.ref w, .int (nI at0), .ref o, .int (nI fr)] (fun U => PW D [(cI, .int)] [(w, .inl (cI, n, .inl f)), (o, .inl (cI, k, .inl g))] sz U ∧ True)) (va_Qv (fun _ : Unit => True) (fun _ => BW D [(cI, .int)] (va_A [(w, .inl (cI, n, .inl f)), (o, .inl (cI, k, .inl g))] sz) [(w, .inl (cI, n, .inl (xbF f at0 g fr 4))), (o, .inl (cI, k, .inl g))]) (va_A [(w, .inl (cI, n, .inl f)), (o, .inl (cI, k, .inl g))] sz)) 0 0 (va_A [(w, .inl (cI, n, .inl f)), (o, .inl (cI, k, .inl g))] sz) := by
  refine Met.ofW (cc := cX0_xorBlock) (maxL := 5) (ret := none) (by decide) rfl ?_
  intro p e s m args below meth c s₁ B hml hv
  obtain ⟨rfl, ⟨hsz, hP, hK, hD0⟩, -⟩ := hv
  have hx := B.exec
  have hb := B.bytes
  have hr := B.returns
  have hts := atoms_spec (ws := wsX0_xorBlock) B.pre
  have hown : s.vm.findClass RX0 = some m.cls := findClass_of_methodNamed B.named
  have hlocks := B.notSynchronized
  subst hsz
  have hD := hD0.self (sz := s.heap.size)
  generalize hAe : va_A [(w, .inl (cI, n, .inl f)), (o, .inl (cI, k, .inl g))] s.heap.size = A at hD ⊢
  have hA : ∀ q : Nat, s.heap.size ≤ q → A q := fun q h => by rw [← hAe]; exact Or.inr h
  have hS : va_S A s.heap s.heap [] := va_S.rf
  have hl := lv_entry ([.ref w, .int (nI at0), .ref o, .int (nI fr)]) (n := 5) (Nat.le_of_ble_eq_true rfl)
  rw [lg_entry_eq]
  generalize (lg_sl ([.ref w, .int (nI at0), .ref o, .int (nI fr)]) ++ List.replicate (5 - (lg_sl ([.ref w, .int (nI at0), .ref o, .int (nI fr)])).length) Slot.unset).toArray = ls at hl ⊢
  have hl : lv_has ls 5 [(0, .ref w), (1, .int (nI at0)), (2, .ref o), (3, .int (nI fr))] := hl
  have lp : ∀ (fu : Nat) (i : Nat), i ≤ 4 → 4 + 1 ≤ i + fu → ∀ (H : Heap) (locs : List Loc), va_P D vwCl [(w, .inl (cI, n, .inl (xbF f at0 g fr i))), (o, .inl (cI, k, .inl g))] H → va_D A [(w, .inl (cI, n, .inl (xbF f at0 g fr i))), (o, .inl (cI, k, .inl g))] → va_S A s.heap H locs → ∀ (ls : Array Slot), lv_has ls 5 [(0, .ref w), (1, .int (nI at0)), (2, .ref o), (3, .int (nI fr)), (4, .int (nI i))] → W p l e ((headSpec wsX0_xorBlock ({ frames := 0, cells := 0, slots := 0, locals := 0 })).room) s m ([.ref w, .int (nI at0), .ref o, .int (nI fr)] : List Value).toArray below meth c H locs 0 0 (MQ below (va_Qv (fun _ : Unit => True) (fun _ => BW D [(cI, .int)] A [(w, .inl (cI, n, .inl (xbF f at0 g fr 4))), (o, .inl (cI, k, .inl g))]) A) ([.ref w, .int (nI at0), .ref o, .int (nI fr)] : List Value).toArray s 0 0 (A)) (F0 m 3 ls []) := by
    intro fu
    induction fu with
      | zero => intro i hi hfu; exact absurd hfu (by omega)
      | succ fu ih =>
        intro i hi hfu H locs hP hD hS ls hl
        refine lv_iload hx hb dX0_xorBlock_3 (lv_at hl 4 rfl) ?_
        refine lv_iconst (v := nI 4) hx hb dX0_xorBlock_5 (by decide) ?_
        refine wk_geN (tgt := 30) hx hb (a := i) (b := 4) (by omega) (by decide) dX0_xorBlock_6 (by decide) (fun c6 => ?_) (fun c6 => ?_)
        · obtain rfl : i = 4 := by omega
          exact W.vret hx hb hr (fun t ht hW => ⟨⟨(), rfl, trivial, by rw [ht]; exact hP, va_K.moved hW.alike hK, hD⟩, hS.F ht⟩) hS.2.2 dX0_xorBlock_30
        · refine lv_aload_n hx hb dX0_xorBlock_9 rfl (lv_at hl 0 rfl) ?_
          refine lv_iload_n hx hb dX0_xorBlock_10 rfl (lv_at hl 1 rfl) ?_
          refine lv_iload hx hb dX0_xorBlock_11 (lv_at hl 4 rfl) ?_
          refine wk_iaddN hx hb (a := at0) (b := i) dX0_xorBlock_13 ?_
          refine lv_dup2_11 hx hb dX0_xorBlock_14 rfl rfl ?_
          refine wk_iald hx hb hK hP 0 0 rfl rfl (k := at0 + i) (by omega) (by omega) dX0_xorBlock_15 ?_
          refine lv_aload_n hx hb dX0_xorBlock_16 rfl (lv_at hl 2 rfl) ?_
          refine lv_iload_n hx hb dX0_xorBlock_17 rfl (lv_at hl 3 rfl) ?_
          refine lv_iload hx hb dX0_xorBlock_18 (lv_at hl 4 rfl) ?_
          refine wk_iaddN hx hb (a := fr) (b := i) dX0_xorBlock_20 ?_
          refine wk_iald hx hb hK hP 1 0 rfl rfl (k := fr + i) (by omega) (by omega) dX0_xorBlock_21 ?_
          refine lv_ixor hx hb dX0_xorBlock_22 ?_
          refine wk_iast hx hb hK hP hD hS 0 0 rfl rfl (k := at0 + i) (x := ((xbF f at0 g fr i) (at0 + i)) ^^^ (g (fr + i))) (by omega) (by omega) dX0_xorBlock_23 (fun H locs hP hD hS => ?_)
          have hP : va_P D vwCl [(w, .inl (cI, n, .inl (upd (xbF f at0 g fr i) (at0 + i) (((xbF f at0 g fr i) (at0 + i)) ^^^ (g (fr + i)))))), (o, .inl (cI, k, .inl g))] H := hP
          have hD : va_D A [(w, .inl (cI, n, .inl (upd (xbF f at0 g fr i) (at0 + i) (((xbF f at0 g fr i) (at0 + i)) ^^^ (g (fr + i)))))), (o, .inl (cI, k, .inl g))] := hD
          refine lv_iinc (v := nI (i + 1)) (lv' := [(4, .int (nI (i + 1))), (0, .ref w), (1, .int (nI at0)), (2, .ref o), (3, .int (nI fr))]) hx hb dX0_xorBlock_24 hl (k := 4) rfl (wk_inc i (by decide)) (by decide) rfl (fun ls hl => ?_)
          refine lv_goto (tgt := 3) hx hb dX0_xorBlock_27 (by decide) ?_
          exact ih (i + 1) (by omega) (by omega) _ _ hP hD hS ls (lv_sub hl [1, 2, 3, 4, 0] rfl)
  refine lv_iconst (v := nI 0) hx hb dX0_xorBlock_0 (by decide) ?_
  refine lv_istore (lv' := [(4, .int (nI 0)), (0, .ref w), (1, .int (nI at0)), (2, .ref o), (3, .int (nI fr))]) hx hb dX0_xorBlock_1 hl (by decide) rfl (fun ls hl => ?_)
  exact lp 5 0 (by omega) (by omega) _ _ hP hD hS ls (lv_sub hl [1, 2, 3, 4, 0] rfl)
set_option maxHeartbeats 4000000 in
set_option maxRecDepth 100000 in
theorem c_X0_xorBlockS (l : Launch) (D : va_G) (cI : ClassId) (sz : Nat) (w at0 fr n : Nat) (f : Nat → Int32) (h1 : at0 + 4 ≤ n) (h2 : fr + 4 ≤ n) (h3 : n < 2 ^ 31) : Met l yX0_xorBlock wsX0_xorBlock ({ frames := 0, cells := 0, slots := 0, locals := 0 }) (va_Pc [.ref w, .int (nI at0), .ref w, .int (nI fr)] (fun U => PW D [(cI, .int)] [(w, .inl (cI, n, .inl f))] sz U ∧ True)) (va_Qv (fun _ : Unit => True) (fun _ => BW D [(cI, .int)] (va_A [(w, .inl (cI, n, .inl f))] sz) [(w, .inl (cI, n, .inl (xbS f at0 fr 4)))]) (va_A [(w, .inl (cI, n, .inl f))] sz)) 0 0 (va_A [(w, .inl (cI, n, .inl f))] sz) := by
  refine Met.ofW (cc := cX0_xorBlock) (maxL := 5) (ret := none) (by decide) rfl ?_
  intro p e s m args below meth c s₁ B hml hv
  obtain ⟨rfl, ⟨hsz, hP, hK, hD0⟩, -⟩ := hv
  have hx := B.exec
  have hb := B.bytes
  have hr := B.returns
  have hts := atoms_spec (ws := wsX0_xorBlock) B.pre
  have hown : s.vm.findClass RX0 = some m.cls := findClass_of_methodNamed B.named
  have hlocks := B.notSynchronized
  subst hsz
  have hD := hD0.self (sz := s.heap.size)
  generalize hAe : va_A [(w, .inl (cI, n, .inl f))] s.heap.size = A at hD ⊢
  have hA : ∀ q : Nat, s.heap.size ≤ q → A q := fun q h => by rw [← hAe]; exact Or.inr h
  have hS : va_S A s.heap s.heap [] := va_S.rf
  have hl := lv_entry ([.ref w, .int (nI at0), .ref w, .int (nI fr)]) (n := 5) (Nat.le_of_ble_eq_true rfl)
  rw [lg_entry_eq]
  generalize (lg_sl ([.ref w, .int (nI at0), .ref w, .int (nI fr)]) ++ List.replicate (5 - (lg_sl ([.ref w, .int (nI at0), .ref w, .int (nI fr)])).length) Slot.unset).toArray = ls at hl ⊢
  have hl : lv_has ls 5 [(0, .ref w), (1, .int (nI at0)), (2, .ref w), (3, .int (nI fr))] := hl
  have lp : ∀ (fu : Nat) (i : Nat), i ≤ 4 → 4 + 1 ≤ i + fu → ∀ (H : Heap) (locs : List Loc), va_P D vwCl [(w, .inl (cI, n, .inl (xbS f at0 fr i)))] H → va_D A [(w, .inl (cI, n, .inl (xbS f at0 fr i)))] → va_S A s.heap H locs → ∀ (ls : Array Slot), lv_has ls 5 [(0, .ref w), (1, .int (nI at0)), (2, .ref w), (3, .int (nI fr)), (4, .int (nI i))] → W p l e ((headSpec wsX0_xorBlock ({ frames := 0, cells := 0, slots := 0, locals := 0 })).room) s m ([.ref w, .int (nI at0), .ref w, .int (nI fr)] : List Value).toArray below meth c H locs 0 0 (MQ below (va_Qv (fun _ : Unit => True) (fun _ => BW D [(cI, .int)] A [(w, .inl (cI, n, .inl (xbS f at0 fr 4)))]) A) ([.ref w, .int (nI at0), .ref w, .int (nI fr)] : List Value).toArray s 0 0 (A)) (F0 m 3 ls []) := by
    intro fu
    induction fu with
      | zero => intro i hi hfu; exact absurd hfu (by omega)
      | succ fu ih =>
        intro i hi hfu H locs hP hD hS ls hl
        refine lv_iload hx hb dX0_xorBlock_3 (lv_at hl 4 rfl) ?_
        refine lv_iconst (v := nI 4) hx hb dX0_xorBlock_5 (by decide) ?_
        refine wk_geN (tgt := 30) hx hb (a := i) (b := 4) (by omega) (by decide) dX0_xorBlock_6 (by decide) (fun c6 => ?_) (fun c6 => ?_)
        · obtain rfl : i = 4 := by omega
          exact W.vret hx hb hr (fun t ht hW => ⟨⟨(), rfl, trivial, by rw [ht]; exact hP, va_K.moved hW.alike hK, hD⟩, hS.F ht⟩) hS.2.2 dX0_xorBlock_30
        · refine lv_aload_n hx hb dX0_xorBlock_9 rfl (lv_at hl 0 rfl) ?_
          refine lv_iload_n hx hb dX0_xorBlock_10 rfl (lv_at hl 1 rfl) ?_
          refine lv_iload hx hb dX0_xorBlock_11 (lv_at hl 4 rfl) ?_
          refine wk_iaddN hx hb (a := at0) (b := i) dX0_xorBlock_13 ?_
          refine lv_dup2_11 hx hb dX0_xorBlock_14 rfl rfl ?_
          refine wk_iald hx hb hK hP 0 0 rfl rfl (k := at0 + i) (by omega) (by omega) dX0_xorBlock_15 ?_
          refine lv_aload_n hx hb dX0_xorBlock_16 rfl (lv_at hl 2 rfl) ?_
          refine lv_iload_n hx hb dX0_xorBlock_17 rfl (lv_at hl 3 rfl) ?_
          refine lv_iload hx hb dX0_xorBlock_18 (lv_at hl 4 rfl) ?_
          refine wk_iaddN hx hb (a := fr) (b := i) dX0_xorBlock_20 ?_
          refine wk_iald hx hb hK hP 0 0 rfl rfl (k := fr + i) (by omega) (by omega) dX0_xorBlock_21 ?_
          refine lv_ixor hx hb dX0_xorBlock_22 ?_
          refine wk_iast hx hb hK hP hD hS 0 0 rfl rfl (k := at0 + i) (x := ((xbS f at0 fr i) (at0 + i)) ^^^ ((xbS f at0 fr i) (fr + i))) (by omega) (by omega) dX0_xorBlock_23 (fun H locs hP hD hS => ?_)
          have hP : va_P D vwCl [(w, .inl (cI, n, .inl (upd (xbS f at0 fr i) (at0 + i) (((xbS f at0 fr i) (at0 + i)) ^^^ ((xbS f at0 fr i) (fr + i))))))] H := hP
          have hD : va_D A [(w, .inl (cI, n, .inl (upd (xbS f at0 fr i) (at0 + i) (((xbS f at0 fr i) (at0 + i)) ^^^ ((xbS f at0 fr i) (fr + i))))))] := hD
          refine lv_iinc (v := nI (i + 1)) (lv' := [(4, .int (nI (i + 1))), (0, .ref w), (1, .int (nI at0)), (2, .ref w), (3, .int (nI fr))]) hx hb dX0_xorBlock_24 hl (k := 4) rfl (wk_inc i (by decide)) (by decide) rfl (fun ls hl => ?_)
          refine lv_goto (tgt := 3) hx hb dX0_xorBlock_27 (by decide) ?_
          exact ih (i + 1) (by omega) (by omega) _ _ hP hD hS ls (lv_sub hl [1, 2, 3, 4, 0] rfl)
  refine lv_iconst (v := nI 0) hx hb dX0_xorBlock_0 (by decide) ?_
  refine lv_istore (lv' := [(4, .int (nI 0)), (0, .ref w), (1, .int (nI at0)), (2, .ref w), (3, .int (nI fr))]) hx hb dX0_xorBlock_1 hl (by decide) rfl (fun ls hl => ?_)
  exact lp 5 0 (by omega) (by omega) _ _ hP hD hS ls (lv_sub hl [1, 2, 3, 4, 0] rfl)
