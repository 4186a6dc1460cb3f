/-! blocks of four words in a row; the class's functions on them -/
abbrev Qd : Type := Int32 × Int32 × Int32 × Int32
def ld4 (f : Nat → Int32) (a : Nat) : Qd := (f a, f (a + 1), f (a + 2), f (a + 3))
def st4 (f : Nat → Int32) (a : Nat) (x : Qd) : Nat → Int32 := upd (upd (upd (upd f a x.1) (a + 1) x.2.1) (a + 2) x.2.2.1) (a + 3) x.2.2.2
def x4 (x k : Qd) : Qd := (x.1 ^^^ k.1, x.2.1 ^^^ k.2.1, x.2.2.1 ^^^ k.2.2.1, x.2.2.2 ^^^ k.2.2.2)
theorem ld4_st4 (f : Nat → Int32) (a : Nat) (x : Qd) : ld4 (st4 f a x) a = x := by simp [ld4, st4, upd]
theorem st4_st4 (f : Nat → Int32) (a : Nat) (x y : Qd) : st4 (st4 f a x) a y = st4 f a y := by
  funext j
  by_cases h3 : j = a + 3 <;> by_cases h2 : j = a + 2 <;> by_cases h1 : j = a + 1 <;> by_cases h0 : j = a <;> simp [st4, upd, *]
theorem st4_ld4 (f : Nat → Int32) (a : Nat) : st4 f a (ld4 f a) = f := by
  funext j
  by_cases h3 : j = a + 3 <;> by_cases h2 : j = a + 2 <;> by_cases h1 : j = a + 1 <;> by_cases h0 : j = a <;> simp [st4, ld4, upd, *]
theorem xb_eq (f : Nat → Int32) (a : Nat) (g : Nat → Int32) (b : Nat) : xbF f a g b 4 = st4 f a (x4 (ld4 f a) (ld4 g b)) := by
  funext j
  simp [xbF, st4, upd, x4, ld4]
/-- the number a box meets, what it becomes, in the class's loop: forth (0), back (1) -/
def pbFrom : Nat → Nat → Nat → Int32
  | 0, _, i => nI i
  | _ + 1, wh, i => TB (wh * 16 + i)
def pbTo : Nat → Nat → Nat → Int32
  | 0, wh, i => TB (wh * 16 + i)
  | _ + 1, _, i => nI i
def pbPl (bk wh : Nat) (x : Qd) (i : Nat) : Int32 := ((plw x.1 (pbFrom bk wh i) &&& plw x.2.1 (pbFrom bk wh i >>> (nI 1 &&& 31))) &&& plw x.2.2.1 (pbFrom bk wh i >>> (nI 2 &&& 31))) &&& plw x.2.2.2 (pbFrom bk wh i >>> (nI 3 &&& 31))
def pbN (bk wh : Nat) (x : Qd) : Nat → Qd
  | 0 => (nI 0, nI 0, nI 0, nI 0)
  | i + 1 => ((pbN bk wh x i).1 ||| (pbPl bk wh x i &&& lbe (pbTo bk wh i)), (pbN bk wh x i).2.1 ||| (pbPl bk wh x i &&& lbe (pbTo bk wh i >>> (nI 1 &&& 31))), (pbN bk wh x i).2.2.1 ||| (pbPl bk wh x i &&& lbe (pbTo bk wh i >>> (nI 2 &&& 31))), (pbN bk wh x i).2.2.2 ||| (pbPl bk wh x i &&& lbe (pbTo bk wh i >>> (nI 3 &&& 31))))
def cBox (bk wh : Nat) (x : Qd) : Qd := pbN bk wh x 16
def cMix (x : Qd) : Qd :=
  let a := rotL x.1 (nI 13)
  let c := rotL x.2.2.1 (nI 3)
  let b := rotL ((x.2.1 ^^^ a) ^^^ c) (nI 1)
  let d := rotL ((x.2.2.2 ^^^ c) ^^^ (a <<< (nI 3 &&& 31))) (nI 7)
  (rotL ((a ^^^ b) ^^^ d) (nI 5), b, rotL ((c ^^^ d) ^^^ (b <<< (nI 7 &&& 31))) (nI 22), d)
def cUnmix (x : Qd) : Qd :=
  let b := x.2.1
  let d := x.2.2.2
  let c := (rotR x.2.2.1 (nI 22) ^^^ d) ^^^ (b <<< (nI 7 &&& 31))
  let a := (rotR x.1 (nI 5) ^^^ b) ^^^ d
  (rotR a (nI 13), (rotR b (nI 1) ^^^ a) ^^^ c, rotR c (nI 3), (rotR d (nI 7) ^^^ c) ^^^ (a <<< (nI 3 &&& 31)))
set_option maxHeartbeats 4000000 in
set_option maxRecDepth 100000 in
theorem c_X0_mix (l : Launch) (D : va_G) (cI : ClassId) (sz : Nat) (w at0 n : Nat) (f : Nat → Int32) (h1 : at0 + 4 ≤ n) (h3 : n < 2 ^ 31) : Met l yX0_mix wsX0_mix ({ frames := 1, cells := 0, slots := 0, locals := 21 }) (va_Pc [.ref w, .int (nI at0)] (fun U => PW D [(cI, .int)] [(w, .inl (cI, n, .inl f))] sz U ∧ True)) (va_Qv (fun _ : Unit => True) (fun _ => BW D [(cI, .int)] (va_A [(w, .inl (cI, n, .inl f))] sz) [(w, .inl (cI, n, .inl (st4 f at0 (cMix (ld4 f at0)))))]) (va_A [(w, .inl (cI, n, .inl f))] sz)) 0 0 (va_A [(w, .inl (cI, n, .inl f))] sz) := by
  refine Met.ofW (cc := cX0_mix) (maxL := 6) (ret := none) (by decide) rfl ?_
  intro p e s m args below meth c s₁ B hml hv
  obtain ⟨rfl, ⟨hsz, hP, hK, hD0⟩, -⟩ := hv
  have hx := B.exec
  have hb := B.bytes
  have hr := B.returns
  have hts := atoms_spec (ws := wsX0_mix) B.pre
  have hown : s.vm.findClass RX0 = some m.cls := findClass_of_methodNamed B.named
  have hlocks := B.notSynchronized
  subst hsz
  have hD := hD0.self (sz := s.heap.size)
  generalize hAe : va_A [(w, .inl (cI, n, .inl f))] s.heap.size = A at hD ⊢
  have hA : ∀ q : Nat, s.heap.size ≤ q → A q := fun q h => by rw [← hAe]; exact Or.inr h
  have hS : va_S A s.heap s.heap [] := va_S.rf
  have hl := lv_entry ([.ref w, .int (nI at0)]) (n := 6) (Nat.le_of_ble_eq_true rfl)
  rw [lg_entry_eq]
  generalize (lg_sl ([.ref w, .int (nI at0)]) ++ List.replicate (6 - (lg_sl ([.ref w, .int (nI at0)])).length) Slot.unset).toArray = ls at hl ⊢
  have hl : lv_has ls 6 [(0, .ref w), (1, .int (nI at0))] := hl
  refine lv_aload_n hx hb dX0_mix_0 rfl (lv_at hl 0 rfl) ?_
  refine lv_iload_n hx hb dX0_mix_1 rfl (lv_at hl 1 rfl) ?_
  refine wk_iald hx hb hK hP 0 0 rfl rfl (k := at0) (by omega) (by omega) dX0_mix_2 ?_
  refine lv_bipush (v := nI 13) hx hb dX0_mix_3 (by decide) ?_
  refine wk_Sp (v := rotL (f at0) (nI 13)) (As := [.int (f at0), .int (nI 13)]) (rest := []) ⟨hx, hb, hml, hown, hts⟩ (c_J6_rotateLeft l (f at0) (nI 13)) (va_cwS 2 hts gX0_mix_J6_rotateLeft_7cf53 rfl rfl rfl (by decide +kernel) ⟨Nat.le_of_ble_eq_true rfl, Nat.le_of_ble_eq_true rfl⟩) rfl hl.1 rfl (Nat.le_of_ble_eq_true rfl) dX0_mix_5 ⟨Nat.zero_le _, Nat.zero_le _⟩ ?_
  refine lv_istore_n (lv' := [(2, .int (rotL (f at0) (nI 13))), (0, .ref w), (1, .int (nI at0))]) hx hb dX0_mix_8 rfl hl (by decide) rfl (fun ls hl => ?_)
  refine lv_aload_n hx hb dX0_mix_9 rfl (lv_at hl 1 rfl) ?_
  refine lv_iload_n hx hb dX0_mix_10 rfl (lv_at hl 2 rfl) ?_
  refine lv_iconst (v := nI 2) hx hb dX0_mix_11 (by decide) ?_
  refine wk_iaddN hx hb (a := at0) (b := 2) dX0_mix_12 ?_
  refine wk_iald hx hb hK hP 0 0 rfl rfl (k := at0 + 2) (by omega) (by omega) dX0_mix_13 ?_
  refine lv_iconst (v := nI 3) hx hb dX0_mix_14 (by decide) ?_
  refine wk_Sp (v := rotL (f (at0 + 2)) (nI 3)) (As := [.int (f (at0 + 2)), .int (nI 3)]) (rest := []) ⟨hx, hb, hml, hown, hts⟩ (c_J6_rotateLeft l (f (at0 + 2)) (nI 3)) (va_cwS 2 hts gX0_mix_J6_rotateLeft_7cf53 rfl rfl rfl (by decide +kernel) ⟨Nat.le_of_ble_eq_true rfl, Nat.le_of_ble_eq_true rfl⟩) rfl hl.1 rfl (Nat.le_of_ble_eq_true rfl) dX0_mix_15 ⟨Nat.zero_le _, Nat.zero_le _⟩ ?_
  refine lv_istore_n (lv' := [(3, .int (rotL (f (at0 + 2)) (nI 3))), (2, .int (rotL (f at0) (nI 13))), (0, .ref w), (1, .int (nI at0))]) hx hb dX0_mix_18 rfl hl (by decide) rfl (fun ls hl => ?_)
  refine lv_aload_n hx hb dX0_mix_19 rfl (lv_at hl 2 rfl) ?_
  refine lv_iload_n hx hb dX0_mix_20 rfl (lv_at hl 3 rfl) ?_
  refine lv_iconst (v := nI 1) hx hb dX0_mix_21 (by decide) ?_
  refine wk_iaddN hx hb (a := at0) (b := 1) dX0_mix_22 ?_
  refine wk_iald hx hb hK hP 0 0 rfl rfl (k := at0 + 1) (by omega) (by omega) dX0_mix_23 ?_
  refine lv_iload_n hx hb dX0_mix_24 rfl (lv_at hl 1 rfl) ?_
  refine lv_ixor hx hb dX0_mix_25 ?_
  refine lv_iload_n hx hb dX0_mix_26 rfl (lv_at hl 0 rfl) ?_
  refine lv_ixor hx hb dX0_mix_27 ?_
  refine lv_iconst (v := nI 1) hx hb dX0_mix_28 (by decide) ?_
  refine wk_Sp (v := rotL (((f (at0 + 1)) ^^^ (rotL (f at0) (nI 13))) ^^^ (rotL (f (at0 + 2)) (nI 3))) (nI 1)) (As := [.int (((f (at0 + 1)) ^^^ (rotL (f at0) (nI 13))) ^^^ (rotL (f (at0 + 2)) (nI 3))), .int (nI 1)]) (rest := []) ⟨hx, hb, hml, hown, hts⟩ (c_J6_rotateLeft l (((f (at0 + 1)) ^^^ (rotL (f at0) (nI 13))) ^^^ (rotL (f (at0 + 2)) (nI 3))) (nI 1)) (va_cwS 2 hts gX0_mix_J6_rotateLeft_7cf53 rfl rfl rfl (by decide +kernel) ⟨Nat.le_of_ble_eq_true rfl, Nat.le_of_ble_eq_true rfl⟩) rfl hl.1 rfl (Nat.le_of_ble_eq_true rfl) dX0_mix_29 ⟨Nat.zero_le _, Nat.zero_le _⟩ ?_
  refine lv_istore (lv' := [(4, .int (rotL (((f (at0 + 1)) ^^^ (rotL (f at0) (nI 13))) ^^^ (rotL (f (at0 + 2)) (nI 3))) (nI 1))), (3, .int (rotL (f (at0 + 2)) (nI 3))), (2, .int (rotL (f at0) (nI 13))), (0, .ref w), (1, .int (nI at0))]) hx hb dX0_mix_32 hl (by decide) rfl (fun ls hl => ?_)
  refine lv_aload_n hx hb dX0_mix_34 rfl (lv_at hl 3 rfl) ?_
  refine lv_iload_n hx hb dX0_mix_35 rfl (lv_at hl 4 rfl) ?_
  refine lv_iconst (v := nI 3) hx hb dX0_mix_36 (by decide) ?_
  refine wk_iaddN hx hb (a := at0) (b := 3) dX0_mix_37 ?_
  refine wk_iald hx hb hK hP 0 0 rfl rfl (k := at0 + 3) (by omega) (by omega) dX0_mix_38 ?_
  refine lv_iload_n hx hb dX0_mix_39 rfl (lv_at hl 1 rfl) ?_
  refine lv_ixor hx hb dX0_mix_40 ?_
  refine lv_iload_n hx hb dX0_mix_41 rfl (lv_at hl 2 rfl) ?_
  refine lv_iconst (v := nI 3) hx hb dX0_mix_42 (by decide) ?_
  refine lv_ishl hx hb dX0_mix_43 ?_
  refine lv_ixor hx hb dX0_mix_44 ?_
  refine lv_bipush (v := nI 7) hx hb dX0_mix_45 (by decide) ?_
  refine wk_Sp (v := rotL (((f (at0 + 3)) ^^^ (rotL (f (at0 + 2)) (nI 3))) ^^^ ((rotL (f at0) (nI 13)) <<< ((nI 3) &&& 31))) (nI 7)) (As := [.int (((f (at0 + 3)) ^^^ (rotL (f (at0 + 2)) (nI 3))) ^^^ ((rotL (f at0) (nI 13)) <<< ((nI 3) &&& 31))), .int (nI 7)]) (rest := []) ⟨hx, hb, hml, hown, hts⟩ (c_J6_rotateLeft l (((f (at0 + 3)) ^^^ (rotL (f (at0 + 2)) (nI 3))) ^^^ ((rotL (f at0) (nI 13)) <<< ((nI 3) &&& 31))) (nI 7)) (va_cwS 2 hts gX0_mix_J6_rotateLeft_7cf53 rfl rfl rfl (by decide +kernel) ⟨Nat.le_of_ble_eq_true rfl, Nat.le_of_ble_eq_true rfl⟩) rfl hl.1 rfl (Nat.le_of_ble_eq_true rfl) dX0_mix_47 ⟨Nat.zero_le _, Nat.zero_le _⟩ ?_
  refine lv_istore (lv' := [(5, .int (rotL (((f (at0 + 3)) ^^^ (rotL (f (at0 + 2)) (nI 3))) ^^^ ((rotL (f at0) (nI 13)) <<< ((nI 3) &&& 31))) (nI 7))), (4, .int (rotL (((f (at0 + 1)) ^^^ (rotL (f at0) (nI 13))) ^^^ (rotL (f (at0 + 2)) (nI 3))) (nI 1))), (3, .int (rotL (f (at0 + 2)) (nI 3))), (2, .int (rotL (f at0) (nI 13))), (0, .ref w), (1, .int (nI at0))]) hx hb dX0_mix_50 hl (by decide) rfl (fun ls hl => ?_)
  refine lv_iload_n hx hb dX0_mix_52 rfl (lv_at hl 3 rfl) ?_
  refine lv_iload hx hb dX0_mix_53 (lv_at hl 1 rfl) ?_
  refine lv_ixor hx hb dX0_mix_55 ?_
  refine lv_iload hx hb dX0_mix_56 (lv_at hl 0 rfl) ?_
  refine lv_ixor hx hb dX0_mix_58 ?_
  refine lv_istore_n (lv' := [(2, .int (((rotL (f at0) (nI 13)) ^^^ (rotL (((f (at0 + 1)) ^^^ (rotL (f at0) (nI 13))) ^^^ (rotL (f (at0 + 2)) (nI 3))) (nI 1))) ^^^ (rotL (((f (at0 + 3)) ^^^ (rotL (f (at0 + 2)) (nI 3))) ^^^ ((rotL (f at0) (nI 13)) <<< ((nI 3) &&& 31))) (nI 7)))), (5, .int (rotL (((f (at0 + 3)) ^^^ (rotL (f (at0 + 2)) (nI 3))) ^^^ ((rotL (f at0) (nI 13)) <<< ((nI 3) &&& 31))) (nI 7))), (4, .int (rotL (((f (at0 + 1)) ^^^ (rotL (f at0) (nI 13))) ^^^ (rotL (f (at0 + 2)) (nI 3))) (nI 1))), (3, .int (rotL (f (at0 + 2)) (nI 3))), (0, .ref w), (1, .int (nI at0))]) hx hb dX0_mix_59 rfl hl (by decide) rfl (fun ls hl => ?_)
  refine lv_iload_n hx hb dX0_mix_60 rfl (lv_at hl 3 rfl) ?_
  refine lv_iload hx hb dX0_mix_61 (lv_at hl 1 rfl) ?_
  refine lv_ixor hx hb dX0_mix_63 ?_
  refine lv_iload hx hb dX0_mix_64 (lv_at hl 2 rfl) ?_
  refine lv_bipush (v := nI 7) hx hb dX0_mix_66 (by decide) ?_
  refine lv_ishl hx hb dX0_mix_68 ?_
  refine lv_ixor hx hb dX0_mix_69 ?_
  refine lv_istore_n (lv' := [(3, .int (((rotL (f (at0 + 2)) (nI 3)) ^^^ (rotL (((f (at0 + 3)) ^^^ (rotL (f (at0 + 2)) (nI 3))) ^^^ ((rotL (f at0) (nI 13)) <<< ((nI 3) &&& 31))) (nI 7))) ^^^ ((rotL (((f (at0 + 1)) ^^^ (rotL (f at0) (nI 13))) ^^^ (rotL (f (at0 + 2)) (nI 3))) (nI 1)) <<< ((nI 7) &&& 31)))), (2, .int (((rotL (f at0) (nI 13)) ^^^ (rotL (((f (at0 + 1)) ^^^ (rotL (f at0) (nI 13))) ^^^ (rotL (f (at0 + 2)) (nI 3))) (nI 1))) ^^^ (rotL (((f (at0 + 3)) ^^^ (rotL (f (at0 + 2)) (nI 3))) ^^^ ((rotL (f at0) (nI 13)) <<< ((nI 3) &&& 31))) (nI 7)))), (5, .int (rotL (((f (at0 + 3)) ^^^ (rotL (f (at0 + 2)) (nI 3))) ^^^ ((rotL (f at0) (nI 13)) <<< ((nI 3) &&& 31))) (nI 7))), (4, .int (rotL (((f (at0 + 1)) ^^^ (rotL (f at0) (nI 13))) ^^^ (rotL (f (at0 + 2)) (nI 3))) (nI 1))), (0, .ref w), (1, .int (nI at0))]) hx hb dX0_mix_70 rfl hl (by decide) rfl (fun ls hl => ?_)
  refine lv_aload_n hx hb dX0_mix_71 rfl (lv_at hl 4 rfl) ?_
  refine lv_iload_n hx hb dX0_mix_72 rfl (lv_at hl 5 rfl) ?_
  refine lv_iload_n hx hb dX0_mix_73 rfl (lv_at hl 1 rfl) ?_
  refine lv_iconst (v := nI 5) hx hb dX0_mix_74 (by decide) ?_
  refine wk_Sp (v := rotL (((rotL (f at0) (nI 13)) ^^^ (rotL (((f (at0 + 1)) ^^^ (rotL (f at0) (nI 13))) ^^^ (rotL (f (at0 + 2)) (nI 3))) (nI 1))) ^^^ (rotL (((f (at0 + 3)) ^^^ (rotL (f (at0 + 2)) (nI 3))) ^^^ ((rotL (f at0) (nI 13)) <<< ((nI 3) &&& 31))) (nI 7))) (nI 5)) (As := [.int (((rotL (f at0) (nI 13)) ^^^ (rotL (((f (at0 + 1)) ^^^ (rotL (f at0) (nI 13))) ^^^ (rotL (f (at0 + 2)) (nI 3))) (nI 1))) ^^^ (rotL (((f (at0 + 3)) ^^^ (rotL (f (at0 + 2)) (nI 3))) ^^^ ((rotL (f at0) (nI 13)) <<< ((nI 3) &&& 31))) (nI 7))), .int (nI 5)]) (rest := [.int (nI at0), .ref w]) ⟨hx, hb, hml, hown, hts⟩ (c_J6_rotateLeft l (((rotL (f at0) (nI 13)) ^^^ (rotL (((f (at0 + 1)) ^^^ (rotL (f at0) (nI 13))) ^^^ (rotL (f (at0 + 2)) (nI 3))) (nI 1))) ^^^ (rotL (((f (at0 + 3)) ^^^ (rotL (f (at0 + 2)) (nI 3))) ^^^ ((rotL (f at0) (nI 13)) <<< ((nI 3) &&& 31))) (nI 7))) (nI 5)) (va_cwS 2 hts gX0_mix_J6_rotateLeft_7cf53 rfl rfl rfl (by decide +kernel) ⟨Nat.le_of_ble_eq_true rfl, Nat.le_of_ble_eq_true rfl⟩) rfl hl.1 rfl (Nat.le_of_ble_eq_true rfl) dX0_mix_75 ⟨Nat.zero_le _, Nat.zero_le _⟩ ?_
  refine wk_iast hx hb hK hP hD hS 0 0 rfl rfl (k := at0) (x := rotL (((rotL (f at0) (nI 13)) ^^^ (rotL (((f (at0 + 1)) ^^^ (rotL (f at0) (nI 13))) ^^^ (rotL (f (at0 + 2)) (nI 3))) (nI 1))) ^^^ (rotL (((f (at0 + 3)) ^^^ (rotL (f (at0 + 2)) (nI 3))) ^^^ ((rotL (f at0) (nI 13)) <<< ((nI 3) &&& 31))) (nI 7))) (nI 5)) (by omega) (by omega) dX0_mix_78 (fun H locs hP hD hS => ?_)
  have hP : va_P D vwCl [(w, .inl (cI, n, .inl (upd f at0 (rotL (((rotL (f at0) (nI 13)) ^^^ (rotL (((f (at0 + 1)) ^^^ (rotL (f at0) (nI 13))) ^^^ (rotL (f (at0 + 2)) (nI 3))) (nI 1))) ^^^ (rotL (((f (at0 + 3)) ^^^ (rotL (f (at0 + 2)) (nI 3))) ^^^ ((rotL (f at0) (nI 13)) <<< ((nI 3) &&& 31))) (nI 7))) (nI 5)))))] H := hP
  have hD : va_D A [(w, .inl (cI, n, .inl (upd f at0 (rotL (((rotL (f at0) (nI 13)) ^^^ (rotL (((f (at0 + 1)) ^^^ (rotL (f at0) (nI 13))) ^^^ (rotL (f (at0 + 2)) (nI 3))) (nI 1))) ^^^ (rotL (((f (at0 + 3)) ^^^ (rotL (f (at0 + 2)) (nI 3))) ^^^ ((rotL (f at0) (nI 13)) <<< ((nI 3) &&& 31))) (nI 7))) (nI 5)))))] := hD
  refine lv_aload_n hx hb dX0_mix_79 rfl (lv_at hl 4 rfl) ?_
  refine lv_iload_n hx hb dX0_mix_80 rfl (lv_at hl 5 rfl) ?_
  refine lv_iconst (v := nI 1) hx hb dX0_mix_81 (by decide) ?_
  refine wk_iaddN hx hb (a := at0) (b := 1) dX0_mix_82 ?_
  refine lv_iload hx hb dX0_mix_83 (lv_at hl 3 rfl) ?_
  refine wk_iast hx hb hK hP hD hS 0 0 rfl rfl (k := at0 + 1) (x := rotL (((f (at0 + 1)) ^^^ (rotL (f at0) (nI 13))) ^^^ (rotL (f (at0 + 2)) (nI 3))) (nI 1)) (by omega) (by omega) dX0_mix_85 (fun H locs hP hD hS => ?_)
  have hP : va_P D vwCl [(w, .inl (cI, n, .inl (upd (upd f at0 (rotL (((rotL (f at0) (nI 13)) ^^^ (rotL (((f (at0 + 1)) ^^^ (rotL (f at0) (nI 13))) ^^^ (rotL (f (at0 + 2)) (nI 3))) (nI 1))) ^^^ (rotL (((f (at0 + 3)) ^^^ (rotL (f (at0 + 2)) (nI 3))) ^^^ ((rotL (f at0) (nI 13)) <<< ((nI 3) &&& 31))) (nI 7))) (nI 5))) (at0 + 1) (rotL (((f (at0 + 1)) ^^^ (rotL (f at0) (nI 13))) ^^^ (rotL (f (at0 + 2)) (nI 3))) (nI 1)))))] H := hP
  have hD : va_D A [(w, .inl (cI, n, .inl (upd (upd f at0 (rotL (((rotL (f at0) (nI 13)) ^^^ (rotL (((f (at0 + 1)) ^^^ (rotL (f at0) (nI 13))) ^^^ (rotL (f (at0 + 2)) (nI 3))) (nI 1))) ^^^ (rotL (((f (at0 + 3)) ^^^ (rotL (f (at0 + 2)) (nI 3))) ^^^ ((rotL (f at0) (nI 13)) <<< ((nI 3) &&& 31))) (nI 7))) (nI 5))) (at0 + 1) (rotL (((f (at0 + 1)) ^^^ (rotL (f at0) (nI 13))) ^^^ (rotL (f (at0 + 2)) (nI 3))) (nI 1)))))] := hD
  refine lv_aload_n hx hb dX0_mix_86 rfl (lv_at hl 4 rfl) ?_
  refine lv_iload_n hx hb dX0_mix_87 rfl (lv_at hl 5 rfl) ?_
  refine lv_iconst (v := nI 2) hx hb dX0_mix_88 (by decide) ?_
  refine wk_iaddN hx hb (a := at0) (b := 2) dX0_mix_89 ?_
  refine lv_iload_n hx hb dX0_mix_90 rfl (lv_at hl 0 rfl) ?_
  refine lv_bipush (v := nI 22) hx hb dX0_mix_91 (by decide) ?_
  refine wk_Sp (v := rotL (((rotL (f (at0 + 2)) (nI 3)) ^^^ (rotL (((f (at0 + 3)) ^^^ (rotL (f (at0 + 2)) (nI 3))) ^^^ ((rotL (f at0) (nI 13)) <<< ((nI 3) &&& 31))) (nI 7))) ^^^ ((rotL (((f (at0 + 1)) ^^^ (rotL (f at0) (nI 13))) ^^^ (rotL (f (at0 + 2)) (nI 3))) (nI 1)) <<< ((nI 7) &&& 31))) (nI 22)) (As := [.int (((rotL (f (at0 + 2)) (nI 3)) ^^^ (rotL (((f (at0 + 3)) ^^^ (rotL (f (at0 + 2)) (nI 3))) ^^^ ((rotL (f at0) (nI 13)) <<< ((nI 3) &&& 31))) (nI 7))) ^^^ ((rotL (((f (at0 + 1)) ^^^ (rotL (f at0) (nI 13))) ^^^ (rotL (f (at0 + 2)) (nI 3))) (nI 1)) <<< ((nI 7) &&& 31))), .int (nI 22)]) (rest := [.int (nI (at0 + 2)), .ref w]) ⟨hx, hb, hml, hown, hts⟩ (c_J6_rotateLeft l (((rotL (f (at0 + 2)) (nI 3)) ^^^ (rotL (((f (at0 + 3)) ^^^ (rotL (f (at0 + 2)) (nI 3))) ^^^ ((rotL (f at0) (nI 13)) <<< ((nI 3) &&& 31))) (nI 7))) ^^^ ((rotL (((f (at0 + 1)) ^^^ (rotL (f at0) (nI 13))) ^^^ (rotL (f (at0 + 2)) (nI 3))) (nI 1)) <<< ((nI 7) &&& 31))) (nI 22)) (va_cwS 2 hts gX0_mix_J6_rotateLeft_7cf53 rfl rfl rfl (by decide +kernel) ⟨Nat.le_of_ble_eq_true rfl, Nat.le_of_ble_eq_true rfl⟩) rfl hl.1 rfl (Nat.le_of_ble_eq_true rfl) dX0_mix_93 ⟨Nat.zero_le _, Nat.zero_le _⟩ ?_
  refine wk_iast hx hb hK hP hD hS 0 0 rfl rfl (k := at0 + 2) (x := rotL (((rotL (f (at0 + 2)) (nI 3)) ^^^ (rotL (((f (at0 + 3)) ^^^ (rotL (f (at0 + 2)) (nI 3))) ^^^ ((rotL (f at0) (nI 13)) <<< ((nI 3) &&& 31))) (nI 7))) ^^^ ((rotL (((f (at0 + 1)) ^^^ (rotL (f at0) (nI 13))) ^^^ (rotL (f (at0 + 2)) (nI 3))) (nI 1)) <<< ((nI 7) &&& 31))) (nI 22)) (by omega) (by omega) dX0_mix_96 (fun H locs hP hD hS => ?_)
  have hP : va_P D vwCl [(w, .inl (cI, n, .inl (upd (upd (upd f at0 (rotL (((rotL (f at0) (nI 13)) ^^^ (rotL (((f (at0 + 1)) ^^^ (rotL (f at0) (nI 13))) ^^^ (rotL (f (at0 + 2)) (nI 3))) (nI 1))) ^^^ (rotL (((f (at0 + 3)) ^^^ (rotL (f (at0 + 2)) (nI 3))) ^^^ ((rotL (f at0) (nI 13)) <<< ((nI 3) &&& 31))) (nI 7))) (nI 5))) (at0 + 1) (rotL (((f (at0 + 1)) ^^^ (rotL (f at0) (nI 13))) ^^^ (rotL (f (at0 + 2)) (nI 3))) (nI 1))) (at0 + 2) (rotL (((rotL (f (at0 + 2)) (nI 3)) ^^^ (rotL (((f (at0 + 3)) ^^^ (rotL (f (at0 + 2)) (nI 3))) ^^^ ((rotL (f at0) (nI 13)) <<< ((nI 3) &&& 31))) (nI 7))) ^^^ ((rotL (((f (at0 + 1)) ^^^ (rotL (f at0) (nI 13))) ^^^ (rotL (f (at0 + 2)) (nI 3))) (nI 1)) <<< ((nI 7) &&& 31))) (nI 22)))))] H := hP
  have hD : va_D A [(w, .inl (cI, n, .inl (upd (upd (upd f at0 (rotL (((rotL (f at0) (nI 13)) ^^^ (rotL (((f (at0 + 1)) ^^^ (rotL (f at0) (nI 13))) ^^^ (rotL (f (at0 + 2)) (nI 3))) (nI 1))) ^^^ (rotL (((f (at0 + 3)) ^^^ (rotL (f (at0 + 2)) (nI 3))) ^^^ ((rotL (f at0) (nI 13)) <<< ((nI 3) &&& 31))) (nI 7))) (nI 5))) (at0 + 1) (rotL (((f (at0 + 1)) ^^^ (rotL (f at0) (nI 13))) ^^^ (rotL (f (at0 + 2)) (nI 3))) (nI 1))) (at0 + 2) (rotL (((rotL (f (at0 + 2)) (nI 3)) ^^^ (rotL (((f (at0 + 3)) ^^^ (rotL (f (at0 + 2)) (nI 3))) ^^^ ((rotL (f at0) (nI 13)) <<< ((nI 3) &&& 31))) (nI 7))) ^^^ ((rotL (((f (at0 + 1)) ^^^ (rotL (f at0) (nI 13))) ^^^ (rotL (f (at0 + 2)) (nI 3))) (nI 1)) <<< ((nI 7) &&& 31))) (nI 22)))))] := hD
  refine lv_aload_n hx hb dX0_mix_97 rfl (lv_at hl 4 rfl) ?_
  refine lv_iload_n hx hb dX0_mix_98 rfl (lv_at hl 5 rfl) ?_
  refine lv_iconst (v := nI 3) hx hb dX0_mix_99 (by decide) ?_
  refine wk_iaddN hx hb (a := at0) (b := 3) dX0_mix_100 ?_
  refine lv_iload hx hb dX0_mix_101 (lv_at hl 2 rfl) ?_
  refine wk_iast hx hb hK hP hD hS 0 0 rfl rfl (k := at0 + 3) (x := rotL (((f (at0 + 3)) ^^^ (rotL (f (at0 + 2)) (nI 3))) ^^^ ((rotL (f at0) (nI 13)) <<< ((nI 3) &&& 31))) (nI 7)) (by omega) (by omega) dX0_mix_103 (fun H locs hP hD hS => ?_)
  have hP : va_P D vwCl [(w, .inl (cI, n, .inl (upd (upd (upd (upd f at0 (rotL (((rotL (f at0) (nI 13)) ^^^ (rotL (((f (at0 + 1)) ^^^ (rotL (f at0) (nI 13))) ^^^ (rotL (f (at0 + 2)) (nI 3))) (nI 1))) ^^^ (rotL (((f (at0 + 3)) ^^^ (rotL (f (at0 + 2)) (nI 3))) ^^^ ((rotL (f at0) (nI 13)) <<< ((nI 3) &&& 31))) (nI 7))) (nI 5))) (at0 + 1) (rotL (((f (at0 + 1)) ^^^ (rotL (f at0) (nI 13))) ^^^ (rotL (f (at0 + 2)) (nI 3))) (nI 1))) (at0 + 2) (rotL (((rotL (f (at0 + 2)) (nI 3)) ^^^ (rotL (((f (at0 + 3)) ^^^ (rotL (f (at0 + 2)) (nI 3))) ^^^ ((rotL (f at0) (nI 13)) <<< ((nI 3) &&& 31))) (nI 7))) ^^^ ((rotL (((f (at0 + 1)) ^^^ (rotL (f at0) (nI 13))) ^^^ (rotL (f (at0 + 2)) (nI 3))) (nI 1)) <<< ((nI 7) &&& 31))) (nI 22))) (at0 + 3) (rotL (((f (at0 + 3)) ^^^ (rotL (f (at0 + 2)) (nI 3))) ^^^ ((rotL (f at0) (nI 13)) <<< ((nI 3) &&& 31))) (nI 7)))))] H := hP
  have hD : va_D A [(w, .inl (cI, n, .inl (upd (upd (upd (upd f at0 (rotL (((rotL (f at0) (nI 13)) ^^^ (rotL (((f (at0 + 1)) ^^^ (rotL (f at0) (nI 13))) ^^^ (rotL (f (at0 + 2)) (nI 3))) (nI 1))) ^^^ (rotL (((f (at0 + 3)) ^^^ (rotL (f (at0 + 2)) (nI 3))) ^^^ ((rotL (f at0) (nI 13)) <<< ((nI 3) &&& 31))) (nI 7))) (nI 5))) (at0 + 1) (rotL (((f (at0 + 1)) ^^^ (rotL (f at0) (nI 13))) ^^^ (rotL (f (at0 + 2)) (nI 3))) (nI 1))) (at0 + 2) (rotL (((rotL (f (at0 + 2)) (nI 3)) ^^^ (rotL (((f (at0 + 3)) ^^^ (rotL (f (at0 + 2)) (nI 3))) ^^^ ((rotL (f at0) (nI 13)) <<< ((nI 3) &&& 31))) (nI 7))) ^^^ ((rotL (((f (at0 + 1)) ^^^ (rotL (f at0) (nI 13))) ^^^ (rotL (f (at0 + 2)) (nI 3))) (nI 1)) <<< ((nI 7) &&& 31))) (nI 22))) (at0 + 3) (rotL (((f (at0 + 3)) ^^^ (rotL (f (at0 + 2)) (nI 3))) ^^^ ((rotL (f at0) (nI 13)) <<< ((nI 3) &&& 31))) (nI 7)))))] := hD
  exact W.vret hx hb hr (fun t ht hW => ⟨⟨(), rfl, trivial, by rw [ht]; exact hP, va_K.moved hW.alike hK, hD⟩, hS.F ht⟩) hS.2.2 dX0_mix_104
set_option maxHeartbeats 4000000 in
set_option maxRecDepth 100000 in
theorem c_X0_unmix (l : Launch) (D : va_G) (cI : ClassId) (sz : Nat) (w at0 n : Nat) (f : Nat → Int32) (h1 : at0 + 4 ≤ n) (h3 : n < 2 ^ 31) : Met l yX0_unmix wsX0_unmix ({ frames := 1, cells := 0, slots := 0, locals := 21 }) (va_Pc [.ref w, .int (nI at0)] (fun U => PW D [(cI, .int)] [(w, .inl (cI, n, .inl f))] sz U ∧ True)) (va_Qv (fun _ : Unit => True) (fun _ => BW D [(cI, .int)] (va_A [(w, .inl (cI, n, .inl f))] sz) [(w, .inl (cI, n, .inl (st4 f at0 (cUnmix (ld4 f at0)))))]) (va_A [(w, .inl (cI, n, .inl f))] sz)) 0 0 (va_A [(w, .inl (cI, n, .inl f))] sz) := by
  refine Met.ofW (cc := cX0_unmix) (maxL := 6) (ret := none) (by decide) rfl ?_
  intro p e s m args below meth c s₁ B hml hv
  obtain ⟨rfl, ⟨hsz, hP, hK, hD0⟩, -⟩ := hv
  have hx := B.exec
  have hb := B.bytes
  have hr := B.returns
  have hts := atoms_spec (ws := wsX0_unmix) B.pre
  have hown : s.vm.findClass RX0 = some m.cls := findClass_of_methodNamed B.named
  have hlocks := B.notSynchronized
  subst hsz
  have hD := hD0.self (sz := s.heap.size)
  generalize hAe : va_A [(w, .inl (cI, n, .inl f))] s.heap.size = A at hD ⊢
  have hA : ∀ q : Nat, s.heap.size ≤ q → A q := fun q h => by rw [← hAe]; exact Or.inr h
  have hS : va_S A s.heap s.heap [] := va_S.rf
  have hl := lv_entry ([.ref w, .int (nI at0)]) (n := 6) (Nat.le_of_ble_eq_true rfl)
  rw [lg_entry_eq]
  generalize (lg_sl ([.ref w, .int (nI at0)]) ++ List.replicate (6 - (lg_sl ([.ref w, .int (nI at0)])).length) Slot.unset).toArray = ls at hl ⊢
  have hl : lv_has ls 6 [(0, .ref w), (1, .int (nI at0))] := hl
  refine lv_aload_n hx hb dX0_unmix_0 rfl (lv_at hl 0 rfl) ?_
  refine lv_iload_n hx hb dX0_unmix_1 rfl (lv_at hl 1 rfl) ?_
  refine lv_iconst (v := nI 1) hx hb dX0_unmix_2 (by decide) ?_
  refine wk_iaddN hx hb (a := at0) (b := 1) dX0_unmix_3 ?_
  refine wk_iald hx hb hK hP 0 0 rfl rfl (k := at0 + 1) (by omega) (by omega) dX0_unmix_4 ?_
  refine lv_istore_n (lv' := [(2, .int (f (at0 + 1))), (0, .ref w), (1, .int (nI at0))]) hx hb dX0_unmix_5 rfl hl (by decide) rfl (fun ls hl => ?_)
  refine lv_aload_n hx hb dX0_unmix_6 rfl (lv_at hl 1 rfl) ?_
  refine lv_iload_n hx hb dX0_unmix_7 rfl (lv_at hl 2 rfl) ?_
  refine lv_iconst (v := nI 3) hx hb dX0_unmix_8 (by decide) ?_
  refine wk_iaddN hx hb (a := at0) (b := 3) dX0_unmix_9 ?_
  refine wk_iald hx hb hK hP 0 0 rfl rfl (k := at0 + 3) (by omega) (by omega) dX0_unmix_10 ?_
  refine lv_istore_n (lv' := [(3, .int (f (at0 + 3))), (2, .int (f (at0 + 1))), (0, .ref w), (1, .int (nI at0))]) hx hb dX0_unmix_11 rfl hl (by decide) rfl (fun ls hl => ?_)
  refine lv_aload_n hx hb dX0_unmix_12 rfl (lv_at hl 2 rfl) ?_
  refine lv_iload_n hx hb dX0_unmix_13 rfl (lv_at hl 3 rfl) ?_
  refine lv_iconst (v := nI 2) hx hb dX0_unmix_14 (by decide) ?_
  refine wk_iaddN hx hb (a := at0) (b := 2) dX0_unmix_15 ?_
  refine wk_iald hx hb hK hP 0 0 rfl rfl (k := at0 + 2) (by omega) (by omega) dX0_unmix_16 ?_
  refine lv_bipush (v := nI 22) hx hb dX0_unmix_17 (by decide) ?_
  refine wk_Sp (v := rotR (f (at0 + 2)) (nI 22)) (As := [.int (f (at0 + 2)), .int (nI 22)]) (rest := []) ⟨hx, hb, hml, hown, hts⟩ (c_J6_rotateRight l (f (at0 + 2)) (nI 22)) (va_cwS 2 hts gX0_unmix_J6_rotateRight_7cf53 rfl rfl rfl (by decide +kernel) ⟨Nat.le_of_ble_eq_true rfl, Nat.le_of_ble_eq_true rfl⟩) rfl hl.1 rfl (Nat.le_of_ble_eq_true rfl) dX0_unmix_19 ⟨Nat.zero_le _, Nat.zero_le _⟩ ?_
  refine lv_iload_n hx hb dX0_unmix_22 rfl (lv_at hl 0 rfl) ?_
  refine lv_ixor hx hb dX0_unmix_23 ?_
  refine lv_iload_n hx hb dX0_unmix_24 rfl (lv_at hl 1 rfl) ?_
  refine lv_bipush (v := nI 7) hx hb dX0_unmix_25 (by decide) ?_
  refine lv_ishl hx hb dX0_unmix_27 ?_
  refine lv_ixor hx hb dX0_unmix_28 ?_
  refine lv_istore (lv' := [(4, .int (((rotR (f (at0 + 2)) (nI 22)) ^^^ (f (at0 + 3))) ^^^ ((f (at0 + 1)) <<< ((nI 7) &&& 31)))), (3, .int (f (at0 + 3))), (2, .int (f (at0 + 1))), (0, .ref w), (1, .int (nI at0))]) hx hb dX0_unmix_29 hl (by decide) rfl (fun ls hl => ?_)
  refine lv_aload_n hx hb dX0_unmix_31 rfl (lv_at hl 3 rfl) ?_
  refine lv_iload_n hx hb dX0_unmix_32 rfl (lv_at hl 4 rfl) ?_
  refine wk_iald hx hb hK hP 0 0 rfl rfl (k := at0) (by omega) (by omega) dX0_unmix_33 ?_
  refine lv_iconst (v := nI 5) hx hb dX0_unmix_34 (by decide) ?_
  refine wk_Sp (v := rotR (f at0) (nI 5)) (As := [.int (f at0), .int (nI 5)]) (rest := []) ⟨hx, hb, hml, hown, hts⟩ (c_J6_rotateRight l (f at0) (nI 5)) (va_cwS 2 hts gX0_unmix_J6_rotateRight_7cf53 rfl rfl rfl (by decide +kernel) ⟨Nat.le_of_ble_eq_true rfl, Nat.le_of_ble_eq_true rfl⟩) rfl hl.1 rfl (Nat.le_of_ble_eq_true rfl) dX0_unmix_35 ⟨Nat.zero_le _, Nat.zero_le _⟩ ?_
  refine lv_iload_n hx hb dX0_unmix_38 rfl (lv_at hl 2 rfl) ?_
  refine lv_ixor hx hb dX0_unmix_39 ?_
  refine lv_iload_n hx hb dX0_unmix_40 rfl (lv_at hl 1 rfl) ?_
  refine lv_ixor hx hb dX0_unmix_41 ?_
  refine lv_istore (lv' := [(5, .int (((rotR (f at0) (nI 5)) ^^^ (f (at0 + 1))) ^^^ (f (at0 + 3)))), (4, .int (((rotR (f (at0 + 2)) (nI 22)) ^^^ (f (at0 + 3))) ^^^ ((f (at0 + 1)) <<< ((nI 7) &&& 31)))), (3, .int (f (at0 + 3))), (2, .int (f (at0 + 1))), (0, .ref w), (1, .int (nI at0))]) hx hb dX0_unmix_42 hl (by decide) rfl (fun ls hl => ?_)
  refine lv_aload_n hx hb dX0_unmix_44 rfl (lv_at hl 4 rfl) ?_
  refine lv_iload_n hx hb dX0_unmix_45 rfl (lv_at hl 5 rfl) ?_
  refine lv_iload hx hb dX0_unmix_46 (lv_at hl 0 rfl) ?_
  refine lv_bipush (v := nI 13) hx hb dX0_unmix_48 (by decide) ?_
  refine wk_Sp (v := rotR (((rotR (f at0) (nI 5)) ^^^ (f (at0 + 1))) ^^^ (f (at0 + 3))) (nI 13)) (As := [.int (((rotR (f at0) (nI 5)) ^^^ (f (at0 + 1))) ^^^ (f (at0 + 3))), .int (nI 13)]) (rest := [.int (nI at0), .ref w]) ⟨hx, hb, hml, hown, hts⟩ (c_J6_rotateRight l (((rotR (f at0) (nI 5)) ^^^ (f (at0 + 1))) ^^^ (f (at0 + 3))) (nI 13)) (va_cwS 2 hts gX0_unmix_J6_rotateRight_7cf53 rfl rfl rfl (by decide +kernel) ⟨Nat.le_of_ble_eq_true rfl, Nat.le_of_ble_eq_true rfl⟩) rfl hl.1 rfl (Nat.le_of_ble_eq_true rfl) dX0_unmix_50 ⟨Nat.zero_le _, Nat.zero_le _⟩ ?_
  refine wk_iast hx hb hK hP hD hS 0 0 rfl rfl (k := at0) (x := rotR (((rotR (f at0) (nI 5)) ^^^ (f (at0 + 1))) ^^^ (f (at0 + 3))) (nI 13)) (by omega) (by omega) dX0_unmix_53 (fun H locs hP hD hS => ?_)
  have hP : va_P D vwCl [(w, .inl (cI, n, .inl (upd f at0 (rotR (((rotR (f at0) (nI 5)) ^^^ (f (at0 + 1))) ^^^ (f (at0 + 3))) (nI 13)))))] H := hP
  have hD : va_D A [(w, .inl (cI, n, .inl (upd f at0 (rotR (((rotR (f at0) (nI 5)) ^^^ (f (at0 + 1))) ^^^ (f (at0 + 3))) (nI 13)))))] := hD
  refine lv_aload_n hx hb dX0_unmix_54 rfl (lv_at hl 4 rfl) ?_
  refine lv_iload_n hx hb dX0_unmix_55 rfl (lv_at hl 5 rfl) ?_
  refine lv_iconst (v := nI 1) hx hb dX0_unmix_56 (by decide) ?_
  refine wk_iaddN hx hb (a := at0) (b := 1) dX0_unmix_57 ?_
  refine lv_iload_n hx hb dX0_unmix_58 rfl (lv_at hl 3 rfl) ?_
  refine lv_iconst (v := nI 1) hx hb dX0_unmix_59 (by decide) ?_
  refine wk_Sp (v := rotR (f (at0 + 1)) (nI 1)) (As := [.int (f (at0 + 1)), .int (nI 1)]) (rest := [.int (nI (at0 + 1)), .ref w]) ⟨hx, hb, hml, hown, hts⟩ (c_J6_rotateRight l (f (at0 + 1)) (nI 1)) (va_cwS 2 hts gX0_unmix_J6_rotateRight_7cf53 rfl rfl rfl (by decide +kernel) ⟨Nat.le_of_ble_eq_true rfl, Nat.le_of_ble_eq_true rfl⟩) rfl hl.1 rfl (Nat.le_of_ble_eq_true rfl) dX0_unmix_60 ⟨Nat.zero_le _, Nat.zero_le _⟩ ?_
  refine lv_iload hx hb dX0_unmix_63 (lv_at hl 0 rfl) ?_
  refine lv_ixor hx hb dX0_unmix_65 ?_
  refine lv_iload hx hb dX0_unmix_66 (lv_at hl 1 rfl) ?_
  refine lv_ixor hx hb dX0_unmix_68 ?_
  refine wk_iast hx hb hK hP hD hS 0 0 rfl rfl (k := at0 + 1) (x := ((rotR (f (at0 + 1)) (nI 1)) ^^^ (((rotR (f at0) (nI 5)) ^^^ (f (at0 + 1))) ^^^ (f (at0 + 3)))) ^^^ (((rotR (f (at0 + 2)) (nI 22)) ^^^ (f (at0 + 3))) ^^^ ((f (at0 + 1)) <<< ((nI 7) &&& 31)))) (by omega) (by omega) dX0_unmix_69 (fun H locs hP hD hS => ?_)
  have hP : va_P D vwCl [(w, .inl (cI, n, .inl (upd (upd f at0 (rotR (((rotR (f at0) (nI 5)) ^^^ (f (at0 + 1))) ^^^ (f (at0 + 3))) (nI 13))) (at0 + 1) (((rotR (f (at0 + 1)) (nI 1)) ^^^ (((rotR (f at0) (nI 5)) ^^^ (f (at0 + 1))) ^^^ (f (at0 + 3)))) ^^^ (((rotR (f (at0 + 2)) (nI 22)) ^^^ (f (at0 + 3))) ^^^ ((f (at0 + 1)) <<< ((nI 7) &&& 31)))))))] H := hP
  have hD : va_D A [(w, .inl (cI, n, .inl (upd (upd f at0 (rotR (((rotR (f at0) (nI 5)) ^^^ (f (at0 + 1))) ^^^ (f (at0 + 3))) (nI 13))) (at0 + 1) (((rotR (f (at0 + 1)) (nI 1)) ^^^ (((rotR (f at0) (nI 5)) ^^^ (f (at0 + 1))) ^^^ (f (at0 + 3)))) ^^^ (((rotR (f (at0 + 2)) (nI 22)) ^^^ (f (at0 + 3))) ^^^ ((f (at0 + 1)) <<< ((nI 7) &&& 31)))))))] := hD
  refine lv_aload_n hx hb dX0_unmix_70 rfl (lv_at hl 4 rfl) ?_
  refine lv_iload_n hx hb dX0_unmix_71 rfl (lv_at hl 5 rfl) ?_
  refine lv_iconst (v := nI 2) hx hb dX0_unmix_72 (by decide) ?_
  refine wk_iaddN hx hb (a := at0) (b := 2) dX0_unmix_73 ?_
  refine lv_iload hx hb dX0_unmix_74 (lv_at hl 1 rfl) ?_
  refine lv_iconst (v := nI 3) hx hb dX0_unmix_76 (by decide) ?_
  refine wk_Sp (v := rotR (((rotR (f (at0 + 2)) (nI 22)) ^^^ (f (at0 + 3))) ^^^ ((f (at0 + 1)) <<< ((nI 7) &&& 31))) (nI 3)) (As := [.int (((rotR (f (at0 + 2)) (nI 22)) ^^^ (f (at0 + 3))) ^^^ ((f (at0 + 1)) <<< ((nI 7) &&& 31))), .int (nI 3)]) (rest := [.int (nI (at0 + 2)), .ref w]) ⟨hx, hb, hml, hown, hts⟩ (c_J6_rotateRight l (((rotR (f (at0 + 2)) (nI 22)) ^^^ (f (at0 + 3))) ^^^ ((f (at0 + 1)) <<< ((nI 7) &&& 31))) (nI 3)) (va_cwS 2 hts gX0_unmix_J6_rotateRight_7cf53 rfl rfl rfl (by decide +kernel) ⟨Nat.le_of_ble_eq_true rfl, Nat.le_of_ble_eq_true rfl⟩) rfl hl.1 rfl (Nat.le_of_ble_eq_true rfl) dX0_unmix_77 ⟨Nat.zero_le _, Nat.zero_le _⟩ ?_
  refine wk_iast hx hb hK hP hD hS 0 0 rfl rfl (k := at0 + 2) (x := rotR (((rotR (f (at0 + 2)) (nI 22)) ^^^ (f (at0 + 3))) ^^^ ((f (at0 + 1)) <<< ((nI 7) &&& 31))) (nI 3)) (by omega) (by omega) dX0_unmix_80 (fun H locs hP hD hS => ?_)
  have hP : va_P D vwCl [(w, .inl (cI, n, .inl (upd (upd (upd f at0 (rotR (((rotR (f at0) (nI 5)) ^^^ (f (at0 + 1))) ^^^ (f (at0 + 3))) (nI 13))) (at0 + 1) (((rotR (f (at0 + 1)) (nI 1)) ^^^ (((rotR (f at0) (nI 5)) ^^^ (f (at0 + 1))) ^^^ (f (at0 + 3)))) ^^^ (((rotR (f (at0 + 2)) (nI 22)) ^^^ (f (at0 + 3))) ^^^ ((f (at0 + 1)) <<< ((nI 7) &&& 31))))) (at0 + 2) (rotR (((rotR (f (at0 + 2)) (nI 22)) ^^^ (f (at0 + 3))) ^^^ ((f (at0 + 1)) <<< ((nI 7) &&& 31))) (nI 3)))))] H := hP
  have hD : va_D A [(w, .inl (cI, n, .inl (upd (upd (upd f at0 (rotR (((rotR (f at0) (nI 5)) ^^^ (f (at0 + 1))) ^^^ (f (at0 + 3))) (nI 13))) (at0 + 1) (((rotR (f (at0 + 1)) (nI 1)) ^^^ (((rotR (f at0) (nI 5)) ^^^ (f (at0 + 1))) ^^^ (f (at0 + 3)))) ^^^ (((rotR (f (at0 + 2)) (nI 22)) ^^^ (f (at0 + 3))) ^^^ ((f (at0 + 1)) <<< ((nI 7) &&& 31))))) (at0 + 2) (rotR (((rotR (f (at0 + 2)) (nI 22)) ^^^ (f (at0 + 3))) ^^^ ((f (at0 + 1)) <<< ((nI 7) &&& 31))) (nI 3)))))] := hD
  refine lv_aload_n hx hb dX0_unmix_81 rfl (lv_at hl 4 rfl) ?_
  refine lv_iload_n hx hb dX0_unmix_82 rfl (lv_at hl 5 rfl) ?_
  refine lv_iconst (v := nI 3) hx hb dX0_unmix_83 (by decide) ?_
  refine wk_iaddN hx hb (a := at0) (b := 3) dX0_unmix_84 ?_
  refine lv_iload_n hx hb dX0_unmix_85 rfl (lv_at hl 2 rfl) ?_
  refine lv_bipush (v := nI 7) hx hb dX0_unmix_86 (by decide) ?_
  refine wk_Sp (v := rotR (f (at0 + 3)) (nI 7)) (As := [.int (f (at0 + 3)), .int (nI 7)]) (rest := [.int (nI (at0 + 3)), .ref w]) ⟨hx, hb, hml, hown, hts⟩ (c_J6_rotateRight l (f (at0 + 3)) (nI 7)) (va_cwS 2 hts gX0_unmix_J6_rotateRight_7cf53 rfl rfl rfl (by decide +kernel) ⟨Nat.le_of_ble_eq_true rfl, Nat.le_of_ble_eq_true rfl⟩) rfl hl.1 rfl (Nat.le_of_ble_eq_true rfl) dX0_unmix_88 ⟨Nat.zero_le _, Nat.zero_le _⟩ ?_
  refine lv_iload hx hb dX0_unmix_91 (lv_at hl 1 rfl) ?_
  refine lv_ixor hx hb dX0_unmix_93 ?_
  refine lv_iload hx hb dX0_unmix_94 (lv_at hl 0 rfl) ?_
  refine lv_iconst (v := nI 3) hx hb dX0_unmix_96 (by decide) ?_
  refine lv_ishl hx hb dX0_unmix_97 ?_
  refine lv_ixor hx hb dX0_unmix_98 ?_
  refine wk_iast hx hb hK hP hD hS 0 0 rfl rfl (k := at0 + 3) (x := ((rotR (f (at0 + 3)) (nI 7)) ^^^ (((rotR (f (at0 + 2)) (nI 22)) ^^^ (f (at0 + 3))) ^^^ ((f (at0 + 1)) <<< ((nI 7) &&& 31)))) ^^^ ((((rotR (f at0) (nI 5)) ^^^ (f (at0 + 1))) ^^^ (f (at0 + 3))) <<< ((nI 3) &&& 31))) (by omega) (by omega) dX0_unmix_99 (fun H locs hP hD hS => ?_)
  have hP : va_P D vwCl [(w, .inl (cI, n, .inl (upd (upd (upd (upd f at0 (rotR (((rotR (f at0) (nI 5)) ^^^ (f (at0 + 1))) ^^^ (f (at0 + 3))) (nI 13))) (at0 + 1) (((rotR (f (at0 + 1)) (nI 1)) ^^^ (((rotR (f at0) (nI 5)) ^^^ (f (at0 + 1))) ^^^ (f (at0 + 3)))) ^^^ (((rotR (f (at0 + 2)) (nI 22)) ^^^ (f (at0 + 3))) ^^^ ((f (at0 + 1)) <<< ((nI 7) &&& 31))))) (at0 + 2) (rotR (((rotR (f (at0 + 2)) (nI 22)) ^^^ (f (at0 + 3))) ^^^ ((f (at0 + 1)) <<< ((nI 7) &&& 31))) (nI 3))) (at0 + 3) (((rotR (f (at0 + 3)) (nI 7)) ^^^ (((rotR (f (at0 + 2)) (nI 22)) ^^^ (f (at0 + 3))) ^^^ ((f (at0 + 1)) <<< ((nI 7) &&& 31)))) ^^^ ((((rotR (f at0) (nI 5)) ^^^ (f (at0 + 1))) ^^^ (f (at0 + 3))) <<< ((nI 3) &&& 31))))))] H := hP
  have hD : va_D A [(w, .inl (cI, n, .inl (upd (upd (upd (upd f at0 (rotR (((rotR (f at0) (nI 5)) ^^^ (f (at0 + 1))) ^^^ (f (at0 + 3))) (nI 13))) (at0 + 1) (((rotR (f (at0 + 1)) (nI 1)) ^^^ (((rotR (f at0) (nI 5)) ^^^ (f (at0 + 1))) ^^^ (f (at0 + 3)))) ^^^ (((rotR (f (at0 + 2)) (nI 22)) ^^^ (f (at0 + 3))) ^^^ ((f (at0 + 1)) <<< ((nI 7) &&& 31))))) (at0 + 2) (rotR (((rotR (f (at0 + 2)) (nI 22)) ^^^ (f (at0 + 3))) ^^^ ((f (at0 + 1)) <<< ((nI 7) &&& 31))) (nI 3))) (at0 + 3) (((rotR (f (at0 + 3)) (nI 7)) ^^^ (((rotR (f (at0 + 2)) (nI 22)) ^^^ (f (at0 + 3))) ^^^ ((f (at0 + 1)) <<< ((nI 7) &&& 31)))) ^^^ ((((rotR (f at0) (nI 5)) ^^^ (f (at0 + 1))) ^^^ (f (at0 + 3))) <<< ((nI 3) &&& 31))))))] := hD
  exact W.vret hx hb hr (fun t ht hW => ⟨⟨(), rfl, trivial, by rw [ht]; exact hP, va_K.moved hW.alike hK, hD⟩, hS.F ht⟩) hS.2.2 dX0_unmix_100
set_option maxHeartbeats 4000000 in
set_option maxRecDepth 100000 in
theorem c_X0_passBox0 (l : Launch) (D : va_G) (cI : ClassId) (tb : Nat) (sz : Nat) (w at0 wh n : Nat) (f : Nat → Int32) (h1 : at0 + 4 ≤ n) (h2 : wh < 8) (h3 : n < 2 ^ 31) : Met l yX0_passBox wsX0_passBox ({ frames := 2, cells := 0, slots := 0, locals := 41 }) (va_Pc [.ref w, .int (nI at0), .int (nI wh), .int (nI 0)] (fun U => PW D [(cI, .int)] [(w, .inl (cI, n, .inl f))] sz U ∧ bxs tb (va_A [(w, .inl (cI, n, .inl f))] sz) U U.heap)) (va_Qv (fun _ : Unit => True) (fun _ => BW D [(cI, .int)] (va_A [(w, .inl (cI, n, .inl f))] sz) [(w, .inl (cI, n, .inl (st4 f at0 (cBox 0 wh (ld4 f at0)))))]) (va_A [(w, .inl (cI, n, .inl f))] sz)) 0 0 (va_A [(w, .inl (cI, n, .inl f))] sz) := by
  refine Met.ofW (cc := cX0_passBox) (maxL := 17) (ret := none) (by decide) rfl ?_
  intro p e s m args below meth c s₁ B hml hv
  obtain ⟨rfl, ⟨hsz, hP, hK, hD0⟩, hbx⟩ := hv
  have hx := B.exec
  have hb := B.bytes
  have hr := B.returns
  have hts := atoms_spec (ws := wsX0_passBox) B.pre
  have hown : s.vm.findClass RX0 = some m.cls := findClass_of_methodNamed B.named
  have hlocks := B.notSynchronized
  subst hsz
  have hD := hD0.self (sz := s.heap.size)
  generalize hAe : va_A [(w, .inl (cI, n, .inl f))] s.heap.size = A at hbx hD ⊢
  have hA : ∀ q : Nat, s.heap.size ≤ q → A q := fun q h => by rw [← hAe]; exact Or.inr h
  have hS : va_S A s.heap s.heap [] := va_S.rf
  have hl := lv_entry ([.ref w, .int (nI at0), .int (nI wh), .int (nI 0)]) (n := 17) (Nat.le_of_ble_eq_true rfl)
  rw [lg_entry_eq]
  generalize (lg_sl ([.ref w, .int (nI at0), .int (nI wh), .int (nI 0)]) ++ List.replicate (17 - (lg_sl ([.ref w, .int (nI at0), .int (nI wh), .int (nI 0)])).length) Slot.unset).toArray = ls at hl ⊢
  have hl : lv_has ls 17 [(0, .ref w), (1, .int (nI at0)), (2, .int (nI wh)), (3, .int (nI 0))] := hl
  have lp : ∀ (fu : Nat) (i : Nat), i ≤ 16 → 16 + 1 ≤ i + fu → ∀ (H : Heap) (locs : List Loc), va_P D vwCl [(w, .inl (cI, n, .inl f))] H → va_D A [(w, .inl (cI, n, .inl f))] → va_S A s.heap H locs → ∀ (ls : Array Slot), lv_has ls 17 [(0, .ref w), (1, .int (nI at0)), (2, .int (nI wh)), (3, .int (nI 0)), (4, .int (f at0)), (5, .int (f (at0 + 1))), (6, .int (f (at0 + 2))), (7, .int (f (at0 + 3))), (8, .int ((pbN 0 wh (ld4 f at0) i).1)), (9, .int ((pbN 0 wh (ld4 f at0) i).2.1)), (10, .int ((pbN 0 wh (ld4 f at0) i).2.2.1)), (11, .int ((pbN 0 wh (ld4 f at0) i).2.2.2)), (12, .int (nI i))] → W p l e ((headSpec wsX0_passBox ({ frames := 2, cells := 0, slots := 0, locals := 41 })).room) s m ([.ref w, .int (nI at0), .int (nI wh), .int (nI 0)] : List Value).toArray below meth c H locs 0 0 (MQ below (va_Qv (fun _ : Unit => True) (fun _ => BW D [(cI, .int)] A [(w, .inl (cI, n, .inl (st4 f at0 (cBox 0 wh (ld4 f at0)))))]) A) ([.ref w, .int (nI at0), .int (nI wh), .int (nI 0)] : List Value).toArray s 0 0 (A)) (F0 m 41 ls []) := by
    intro fu
    induction fu with
      | zero => intro i hi hfu; exact absurd hfu (by omega)
      | succ fu ih =>
        intro i hi hfu H locs hP hD hS ls hl
        refine lv_iload hx hb dX0_passBox_41 (lv_at hl 12 rfl) ?_
        refine lv_bipush (v := nI 16) hx hb dX0_passBox_43 (by decide) ?_
        refine wk_geN (tgt := 190) hx hb (a := i) (b := 16) (by omega) (by decide) dX0_passBox_45 (by decide) (fun c45 => ?_) (fun c45 => ?_)
        · obtain rfl : i = 16 := by omega
          refine lv_aload_n hx hb dX0_passBox_190 rfl (lv_at hl 0 rfl) ?_
          refine lv_iload_n hx hb dX0_passBox_191 rfl (lv_at hl 1 rfl) ?_
          refine lv_iload hx hb dX0_passBox_192 (lv_at hl 8 rfl) ?_
          refine wk_iast hx hb hK hP hD hS 0 0 rfl rfl (k := at0) (x := (pbN 0 wh (ld4 f at0) 16).1) (by omega) (by omega) dX0_passBox_194 (fun H locs hP hD hS => ?_)
          have hP : va_P D vwCl [(w, .inl (cI, n, .inl (upd f at0 ((pbN 0 wh (ld4 f at0) 16).1))))] H := hP
          have hD : va_D A [(w, .inl (cI, n, .inl (upd f at0 ((pbN 0 wh (ld4 f at0) 16).1))))] := hD
          refine lv_aload_n hx hb dX0_passBox_195 rfl (lv_at hl 0 rfl) ?_
          refine lv_iload_n hx hb dX0_passBox_196 rfl (lv_at hl 1 rfl) ?_
          refine lv_iconst (v := nI 1) hx hb dX0_passBox_197 (by decide) ?_
          refine wk_iaddN hx hb (a := at0) (b := 1) dX0_passBox_198 ?_
          refine lv_iload hx hb dX0_passBox_199 (lv_at hl 9 rfl) ?_
          refine wk_iast hx hb hK hP hD hS 0 0 rfl rfl (k := at0 + 1) (x := (pbN 0 wh (ld4 f at0) 16).2.1) (by omega) (by omega) dX0_passBox_201 (fun H locs hP hD hS => ?_)
          have hP : va_P D vwCl [(w, .inl (cI, n, .inl (upd (upd f at0 ((pbN 0 wh (ld4 f at0) 16).1)) (at0 + 1) ((pbN 0 wh (ld4 f at0) 16).2.1))))] H := hP
          have hD : va_D A [(w, .inl (cI, n, .inl (upd (upd f at0 ((pbN 0 wh (ld4 f at0) 16).1)) (at0 + 1) ((pbN 0 wh (ld4 f at0) 16).2.1))))] := hD
          refine lv_aload_n hx hb dX0_passBox_202 rfl (lv_at hl 0 rfl) ?_
          refine lv_iload_n hx hb dX0_passBox_203 rfl (lv_at hl 1 rfl) ?_
          refine lv_iconst (v := nI 2) hx hb dX0_passBox_204 (by decide) ?_
          refine wk_iaddN hx hb (a := at0) (b := 2) dX0_passBox_205 ?_
          refine lv_iload hx hb dX0_passBox_206 (lv_at hl 10 rfl) ?_
          refine wk_iast hx hb hK hP hD hS 0 0 rfl rfl (k := at0 + 2) (x := (pbN 0 wh (ld4 f at0) 16).2.2.1) (by omega) (by omega) dX0_passBox_208 (fun H locs hP hD hS => ?_)
          have hP : va_P D vwCl [(w, .inl (cI, n, .inl (upd (upd (upd f at0 ((pbN 0 wh (ld4 f at0) 16).1)) (at0 + 1) ((pbN 0 wh (ld4 f at0) 16).2.1)) (at0 + 2) ((pbN 0 wh (ld4 f at0) 16).2.2.1))))] H := hP
          have hD : va_D A [(w, .inl (cI, n, .inl (upd (upd (upd f at0 ((pbN 0 wh (ld4 f at0) 16).1)) (at0 + 1) ((pbN 0 wh (ld4 f at0) 16).2.1)) (at0 + 2) ((pbN 0 wh (ld4 f at0) 16).2.2.1))))] := hD
          refine lv_aload_n hx hb dX0_passBox_209 rfl (lv_at hl 0 rfl) ?_
          refine lv_iload_n hx hb dX0_passBox_210 rfl (lv_at hl 1 rfl) ?_
          refine lv_iconst (v := nI 3) hx hb dX0_passBox_211 (by decide) ?_
          refine wk_iaddN hx hb (a := at0) (b := 3) dX0_passBox_212 ?_
          refine lv_iload hx hb dX0_passBox_213 (lv_at hl 11 rfl) ?_
          refine wk_iast hx hb hK hP hD hS 0 0 rfl rfl (k := at0 + 3) (x := (pbN 0 wh (ld4 f at0) 16).2.2.2) (by omega) (by omega) dX0_passBox_215 (fun H locs hP hD hS => ?_)
          have hP : va_P D vwCl [(w, .inl (cI, n, .inl (upd (upd (upd (upd f at0 ((pbN 0 wh (ld4 f at0) 16).1)) (at0 + 1) ((pbN 0 wh (ld4 f at0) 16).2.1)) (at0 + 2) ((pbN 0 wh (ld4 f at0) 16).2.2.1)) (at0 + 3) ((pbN 0 wh (ld4 f at0) 16).2.2.2))))] H := hP
          have hD : va_D A [(w, .inl (cI, n, .inl (upd (upd (upd (upd f at0 ((pbN 0 wh (ld4 f at0) 16).1)) (at0 + 1) ((pbN 0 wh (ld4 f at0) 16).2.1)) (at0 + 2) ((pbN 0 wh (ld4 f at0) 16).2.2.1)) (at0 + 3) ((pbN 0 wh (ld4 f at0) 16).2.2.2))))] := hD
          exact W.vret hx hb hr (fun t ht hW => ⟨⟨(), rfl, trivial, by rw [ht]; exact hP, va_K.moved hW.alike hK, hD⟩, hS.F ht⟩) hS.2.2 dX0_passBox_216
        · refine va_gets (C := "SlicedCipher") (n := "BOXES") (d := "[I") (v := .ref tb) hx hb hbx.1 hS hown (hts (.fieldLink RX0 83 "SlicedCipher" "BOXES" "[I") (by decide +kernel)) (fun _ h9 => h9) dX0_passBox_48 ?_
          refine lv_iload_n hx hb dX0_passBox_51 rfl (lv_at hl 2 rfl) ?_
          refine lv_bipush (v := nI 16) hx hb dX0_passBox_52 (by decide) ?_
          refine wk_imulN hx hb (a := wh) (b := 16) dX0_passBox_54 ?_
          refine lv_iload hx hb dX0_passBox_55 (lv_at hl 12 rfl) ?_
          refine wk_iaddN hx hb (a := wh * 16) (b := i) dX0_passBox_57 ?_
          refine wk_tbl hx hb hbx.2 hS (k := (wh * 16) + i) (by omega) dX0_passBox_58 ?_
          refine lv_istore (lv' := [(13, .int (TB ((wh * 16) + i))), (0, .ref w), (1, .int (nI at0)), (2, .int (nI wh)), (3, .int (nI 0)), (4, .int (f at0)), (5, .int (f (at0 + 1))), (6, .int (f (at0 + 2))), (7, .int (f (at0 + 3))), (8, .int ((pbN 0 wh (ld4 f at0) i).1)), (9, .int ((pbN 0 wh (ld4 f at0) i).2.1)), (10, .int ((pbN 0 wh (ld4 f at0) i).2.2.1)), (11, .int ((pbN 0 wh (ld4 f at0) i).2.2.2)), (12, .int (nI i))]) hx hb dX0_passBox_59 hl (by decide) rfl (fun ls hl => ?_)
          refine lv_iload_n hx hb dX0_passBox_61 rfl (lv_at hl 4 rfl) ?_
          refine wk_eq0N (tgt := 70) hx hb (a := 0) (by decide) dX0_passBox_62 (by decide) (fun c62 => ?_) (fun c62 => absurd c62 (fun h => h rfl))
          refine lv_iload hx hb dX0_passBox_70 (lv_at hl 13 rfl) ?_
          refine lv_istore (lv' := [(14, .int (nI i)), (13, .int (TB ((wh * 16) + i))), (0, .ref w), (1, .int (nI at0)), (2, .int (nI wh)), (3, .int (nI 0)), (4, .int (f at0)), (5, .int (f (at0 + 1))), (6, .int (f (at0 + 2))), (7, .int (f (at0 + 3))), (8, .int ((pbN 0 wh (ld4 f at0) i).1)), (9, .int ((pbN 0 wh (ld4 f at0) i).2.1)), (10, .int ((pbN 0 wh (ld4 f at0) i).2.2.1)), (11, .int ((pbN 0 wh (ld4 f at0) i).2.2.2)), (12, .int (nI i))]) hx hb dX0_passBox_72 hl (by decide) rfl (fun ls hl => ?_)
          refine lv_iload_n hx hb dX0_passBox_74 rfl (lv_at hl 5 rfl) ?_
          refine wk_eq0N (tgt := 83) hx hb (a := 0) (by decide) dX0_passBox_75 (by decide) (fun c75 => ?_) (fun c75 => absurd c75 (fun h => h rfl))
          refine lv_iload hx hb dX0_passBox_83 (lv_at hl 1 rfl) ?_
          refine lv_istore (lv' := [(15, .int (TB ((wh * 16) + i))), (14, .int (nI i)), (13, .int (TB ((wh * 16) + i))), (0, .ref w), (1, .int (nI at0)), (2, .int (nI wh)), (3, .int (nI 0)), (4, .int (f at0)), (5, .int (f (at0 + 1))), (6, .int (f (at0 + 2))), (7, .int (f (at0 + 3))), (8, .int ((pbN 0 wh (ld4 f at0) i).1)), (9, .int ((pbN 0 wh (ld4 f at0) i).2.1)), (10, .int ((pbN 0 wh (ld4 f at0) i).2.2.1)), (11, .int ((pbN 0 wh (ld4 f at0) i).2.2.2)), (12, .int (nI i))]) hx hb dX0_passBox_85 hl (by decide) rfl (fun ls hl => ?_)
          refine lv_iload hx hb dX0_passBox_87 (lv_at hl 7 rfl) ?_
          refine lv_iload hx hb dX0_passBox_89 (lv_at hl 1 rfl) ?_
          refine wk_Sp (v := plw (f at0) (nI i)) (As := [.int (f at0), .int (nI i)]) (rest := []) ⟨hx, hb, hml, hown, hts⟩ (c_X0_placesWith l (f at0) (nI i)) (va_cwS 2 hts gX0_passBox_X0_placesWith rfl rfl rfl (by decide +kernel) ⟨Nat.le_of_ble_eq_true rfl, Nat.le_of_ble_eq_true rfl⟩) rfl hl.1 rfl (Nat.le_of_ble_eq_true rfl) dX0_passBox_91 ⟨Nat.zero_le _, Nat.zero_le _⟩ ?_
          refine lv_iload hx hb dX0_passBox_94 (lv_at hl 8 rfl) ?_
          refine lv_iload hx hb dX0_passBox_96 (lv_at hl 1 rfl) ?_
          refine lv_iconst (v := nI 1) hx hb dX0_passBox_98 (by decide) ?_
          refine lv_ishr hx hb dX0_passBox_99 ?_
          refine wk_Sp (v := plw (f (at0 + 1)) ((nI i) >>> ((nI 1) &&& 31))) (As := [.int (f (at0 + 1)), .int ((nI i) >>> ((nI 1) &&& 31))]) (rest := [.int (plw (f at0) (nI i))]) ⟨hx, hb, hml, hown, hts⟩ (c_X0_placesWith l (f (at0 + 1)) ((nI i) >>> ((nI 1) &&& 31))) (va_cwS 2 hts gX0_passBox_X0_placesWith rfl rfl rfl (by decide +kernel) ⟨Nat.le_of_ble_eq_true rfl, Nat.le_of_ble_eq_true rfl⟩) rfl hl.1 rfl (Nat.le_of_ble_eq_true rfl) dX0_passBox_100 ⟨Nat.zero_le _, Nat.zero_le _⟩ ?_
          refine lv_iand hx hb dX0_passBox_103 ?_
          refine lv_iload hx hb dX0_passBox_104 (lv_at hl 9 rfl) ?_
          refine lv_iload hx hb dX0_passBox_106 (lv_at hl 1 rfl) ?_
          refine lv_iconst (v := nI 2) hx hb dX0_passBox_108 (by decide) ?_
          refine lv_ishr hx hb dX0_passBox_109 ?_
          refine wk_Sp (v := plw (f (at0 + 2)) ((nI i) >>> ((nI 2) &&& 31))) (As := [.int (f (at0 + 2)), .int ((nI i) >>> ((nI 2) &&& 31))]) (rest := [.int ((plw (f at0) (nI i)) &&& (plw (f (at0 + 1)) ((nI i) >>> ((nI 1) &&& 31))))]) ⟨hx, hb, hml, hown, hts⟩ (c_X0_placesWith l (f (at0 + 2)) ((nI i) >>> ((nI 2) &&& 31))) (va_cwS 2 hts gX0_passBox_X0_placesWith rfl rfl rfl (by decide +kernel) ⟨Nat.le_of_ble_eq_true rfl, Nat.le_of_ble_eq_true rfl⟩) rfl hl.1 rfl (Nat.le_of_ble_eq_true rfl) dX0_passBox_110 ⟨Nat.zero_le _, Nat.zero_le _⟩ ?_
          refine lv_iand hx hb dX0_passBox_113 ?_
          refine lv_iload hx hb dX0_passBox_114 (lv_at hl 10 rfl) ?_
          refine lv_iload hx hb dX0_passBox_116 (lv_at hl 1 rfl) ?_
          refine lv_iconst (v := nI 3) hx hb dX0_passBox_118 (by decide) ?_
          refine lv_ishr hx hb dX0_passBox_119 ?_
          refine wk_Sp (v := plw (f (at0 + 3)) ((nI i) >>> ((nI 3) &&& 31))) (As := [.int (f (at0 + 3)), .int ((nI i) >>> ((nI 3) &&& 31))]) (rest := [.int (((plw (f at0) (nI i)) &&& (plw (f (at0 + 1)) ((nI i) >>> ((nI 1) &&& 31)))) &&& (plw (f (at0 + 2)) ((nI i) >>> ((nI 2) &&& 31))))]) ⟨hx, hb, hml, hown, hts⟩ (c_X0_placesWith l (f (at0 + 3)) ((nI i) >>> ((nI 3) &&& 31))) (va_cwS 2 hts gX0_passBox_X0_placesWith rfl rfl rfl (by decide +kernel) ⟨Nat.le_of_ble_eq_true rfl, Nat.le_of_ble_eq_true rfl⟩) rfl hl.1 rfl (Nat.le_of_ble_eq_true rfl) dX0_passBox_120 ⟨Nat.zero_le _, Nat.zero_le _⟩ ?_
          refine lv_iand hx hb dX0_passBox_123 ?_
          refine wk_i (y := pbPl 0 wh (ld4 f at0) i) (rfl) ?_
          refine lv_istore (lv' := [(16, .int (pbPl 0 wh (ld4 f at0) i)), (15, .int (TB ((wh * 16) + i))), (14, .int (nI i)), (13, .int (TB ((wh * 16) + i))), (0, .ref w), (1, .int (nI at0)), (2, .int (nI wh)), (3, .int (nI 0)), (4, .int (f at0)), (5, .int (f (at0 + 1))), (6, .int (f (at0 + 2))), (7, .int (f (at0 + 3))), (8, .int ((pbN 0 wh (ld4 f at0) i).1)), (9, .int ((pbN 0 wh (ld4 f at0) i).2.1)), (10, .int ((pbN 0 wh (ld4 f at0) i).2.2.1)), (11, .int ((pbN 0 wh (ld4 f at0) i).2.2.2)), (12, .int (nI i))]) hx hb dX0_passBox_124 hl (by decide) rfl (fun ls hl => ?_)
          refine lv_iload hx hb dX0_passBox_126 (lv_at hl 12 rfl) ?_
          refine lv_iload hx hb dX0_passBox_128 (lv_at hl 0 rfl) ?_
          refine lv_iload hx hb dX0_passBox_130 (lv_at hl 1 rfl) ?_
          refine wk_Sp (v := lbe (TB ((wh * 16) + i))) (As := [.int (TB ((wh * 16) + i))]) (rest := [.int (pbPl 0 wh (ld4 f at0) i), .int ((pbN 0 wh (ld4 f at0) i).1)]) ⟨hx, hb, hml, hown, hts⟩ (c_X0_lowestBitEverywhere l (TB ((wh * 16) + i))) (va_cwS 1 hts gX0_passBox_X0_lowestBitEverywhere rfl rfl rfl (by decide +kernel) ⟨Nat.le_of_ble_eq_true rfl, Nat.le_of_ble_eq_true rfl⟩) rfl hl.1 rfl (Nat.le_of_ble_eq_true rfl) dX0_passBox_132 ⟨Nat.zero_le _, Nat.zero_le _⟩ ?_
          refine lv_iand hx hb dX0_passBox_135 ?_
          refine lv_ior hx hb dX0_passBox_136 ?_
          refine wk_i (y := (pbN 0 wh (ld4 f at0) (i + 1)).1) (rfl) ?_
          refine lv_istore (lv' := [(8, .int ((pbN 0 wh (ld4 f at0) (i + 1)).1)), (16, .int (pbPl 0 wh (ld4 f at0) i)), (15, .int (TB ((wh * 16) + i))), (14, .int (nI i)), (13, .int (TB ((wh * 16) + i))), (0, .ref w), (1, .int (nI at0)), (2, .int (nI wh)), (3, .int (nI 0)), (4, .int (f at0)), (5, .int (f (at0 + 1))), (6, .int (f (at0 + 2))), (7, .int (f (at0 + 3))), (9, .int ((pbN 0 wh (ld4 f at0) i).2.1)), (10, .int ((pbN 0 wh (ld4 f at0) i).2.2.1)), (11, .int ((pbN 0 wh (ld4 f at0) i).2.2.2)), (12, .int (nI i))]) hx hb dX0_passBox_137 hl (by decide) rfl (fun ls hl => ?_)
          refine lv_iload hx hb dX0_passBox_139 (lv_at hl 13 rfl) ?_
          refine lv_iload hx hb dX0_passBox_141 (lv_at hl 1 rfl) ?_
          refine lv_iload hx hb dX0_passBox_143 (lv_at hl 2 rfl) ?_
          refine lv_iconst (v := nI 1) hx hb dX0_passBox_145 (by decide) ?_
          refine lv_ishr hx hb dX0_passBox_146 ?_
          refine wk_Sp (v := lbe ((TB ((wh * 16) + i)) >>> ((nI 1) &&& 31))) (As := [.int ((TB ((wh * 16) + i)) >>> ((nI 1) &&& 31))]) (rest := [.int (pbPl 0 wh (ld4 f at0) i), .int ((pbN 0 wh (ld4 f at0) i).2.1)]) ⟨hx, hb, hml, hown, hts⟩ (c_X0_lowestBitEverywhere l ((TB ((wh * 16) + i)) >>> ((nI 1) &&& 31))) (va_cwS 1 hts gX0_passBox_X0_lowestBitEverywhere rfl rfl rfl (by decide +kernel) ⟨Nat.le_of_ble_eq_true rfl, Nat.le_of_ble_eq_true rfl⟩) rfl hl.1 rfl (Nat.le_of_ble_eq_true rfl) dX0_passBox_147 ⟨Nat.zero_le _, Nat.zero_le _⟩ ?_
          refine lv_iand hx hb dX0_passBox_150 ?_
          refine lv_ior hx hb dX0_passBox_151 ?_
          refine wk_i (y := (pbN 0 wh (ld4 f at0) (i + 1)).2.1) (rfl) ?_
          refine lv_istore (lv' := [(9, .int ((pbN 0 wh (ld4 f at0) (i + 1)).2.1)), (8, .int ((pbN 0 wh (ld4 f at0) (i + 1)).1)), (16, .int (pbPl 0 wh (ld4 f at0) i)), (15, .int (TB ((wh * 16) + i))), (14, .int (nI i)), (13, .int (TB ((wh * 16) + i))), (0, .ref w), (1, .int (nI at0)), (2, .int (nI wh)), (3, .int (nI 0)), (4, .int (f at0)), (5, .int (f (at0 + 1))), (6, .int (f (at0 + 2))), (7, .int (f (at0 + 3))), (10, .int ((pbN 0 wh (ld4 f at0) i).2.2.1)), (11, .int ((pbN 0 wh (ld4 f at0) i).2.2.2)), (12, .int (nI i))]) hx hb dX0_passBox_152 hl (by decide) rfl (fun ls hl => ?_)
          refine lv_iload hx hb dX0_passBox_154 (lv_at hl 14 rfl) ?_
          refine lv_iload hx hb dX0_passBox_156 (lv_at hl 2 rfl) ?_
          refine lv_iload hx hb dX0_passBox_158 (lv_at hl 3 rfl) ?_
          refine lv_iconst (v := nI 2) hx hb dX0_passBox_160 (by decide) ?_
          refine lv_ishr hx hb dX0_passBox_161 ?_
          refine wk_Sp (v := lbe ((TB ((wh * 16) + i)) >>> ((nI 2) &&& 31))) (As := [.int ((TB ((wh * 16) + i)) >>> ((nI 2) &&& 31))]) (rest := [.int (pbPl 0 wh (ld4 f at0) i), .int ((pbN 0 wh (ld4 f at0) i).2.2.1)]) ⟨hx, hb, hml, hown, hts⟩ (c_X0_lowestBitEverywhere l ((TB ((wh * 16) + i)) >>> ((nI 2) &&& 31))) (va_cwS 1 hts gX0_passBox_X0_lowestBitEverywhere rfl rfl rfl (by decide +kernel) ⟨Nat.le_of_ble_eq_true rfl, Nat.le_of_ble_eq_true rfl⟩) rfl hl.1 rfl (Nat.le_of_ble_eq_true rfl) dX0_passBox_162 ⟨Nat.zero_le _, Nat.zero_le _⟩ ?_
          refine lv_iand hx hb dX0_passBox_165 ?_
          refine lv_ior hx hb dX0_passBox_166 ?_
          refine wk_i (y := (pbN 0 wh (ld4 f at0) (i + 1)).2.2.1) (rfl) ?_
          refine lv_istore (lv' := [(10, .int ((pbN 0 wh (ld4 f at0) (i + 1)).2.2.1)), (9, .int ((pbN 0 wh (ld4 f at0) (i + 1)).2.1)), (8, .int ((pbN 0 wh (ld4 f at0) (i + 1)).1)), (16, .int (pbPl 0 wh (ld4 f at0) i)), (15, .int (TB ((wh * 16) + i))), (14, .int (nI i)), (13, .int (TB ((wh * 16) + i))), (0, .ref w), (1, .int (nI at0)), (2, .int (nI wh)), (3, .int (nI 0)), (4, .int (f at0)), (5, .int (f (at0 + 1))), (6, .int (f (at0 + 2))), (7, .int (f (at0 + 3))), (11, .int ((pbN 0 wh (ld4 f at0) i).2.2.2)), (12, .int (nI i))]) hx hb dX0_passBox_167 hl (by decide) rfl (fun ls hl => ?_)
          refine lv_iload hx hb dX0_passBox_169 (lv_at hl 15 rfl) ?_
          refine lv_iload hx hb dX0_passBox_171 (lv_at hl 3 rfl) ?_
          refine lv_iload hx hb dX0_passBox_173 (lv_at hl 4 rfl) ?_
          refine lv_iconst (v := nI 3) hx hb dX0_passBox_175 (by decide) ?_
          refine lv_ishr hx hb dX0_passBox_176 ?_
          refine wk_Sp (v := lbe ((TB ((wh * 16) + i)) >>> ((nI 3) &&& 31))) (As := [.int ((TB ((wh * 16) + i)) >>> ((nI 3) &&& 31))]) (rest := [.int (pbPl 0 wh (ld4 f at0) i), .int ((pbN 0 wh (ld4 f at0) i).2.2.2)]) ⟨hx, hb, hml, hown, hts⟩ (c_X0_lowestBitEverywhere l ((TB ((wh * 16) + i)) >>> ((nI 3) &&& 31))) (va_cwS 1 hts gX0_passBox_X0_lowestBitEverywhere rfl rfl rfl (by decide +kernel) ⟨Nat.le_of_ble_eq_true rfl, Nat.le_of_ble_eq_true rfl⟩) rfl hl.1 rfl (Nat.le_of_ble_eq_true rfl) dX0_passBox_177 ⟨Nat.zero_le _, Nat.zero_le _⟩ ?_
          refine lv_iand hx hb dX0_passBox_180 ?_
          refine lv_ior hx hb dX0_passBox_181 ?_
          refine wk_i (y := (pbN 0 wh (ld4 f at0) (i + 1)).2.2.2) (rfl) ?_
          refine lv_istore (lv' := [(11, .int ((pbN 0 wh (ld4 f at0) (i + 1)).2.2.2)), (10, .int ((pbN 0 wh (ld4 f at0) (i + 1)).2.2.1)), (9, .int ((pbN 0 wh (ld4 f at0) (i + 1)).2.1)), (8, .int ((pbN 0 wh (ld4 f at0) (i + 1)).1)), (16, .int (pbPl 0 wh (ld4 f at0) i)), (15, .int (TB ((wh * 16) + i))), (14, .int (nI i)), (13, .int (TB ((wh * 16) + i))), (0, .ref w), (1, .int (nI at0)), (2, .int (nI wh)), (3, .int (nI 0)), (4, .int (f at0)), (5, .int (f (at0 + 1))), (6, .int (f (at0 + 2))), (7, .int (f (at0 + 3))), (12, .int (nI i))]) hx hb dX0_passBox_182 hl (by decide) rfl (fun ls hl => ?_)
          refine lv_iinc (v := nI (i + 1)) (lv' := [(12, .int (nI (i + 1))), (11, .int ((pbN 0 wh (ld4 f at0) (i + 1)).2.2.2)), (10, .int ((pbN 0 wh (ld4 f at0) (i + 1)).2.2.1)), (9, .int ((pbN 0 wh (ld4 f at0) (i + 1)).2.1)), (8, .int ((pbN 0 wh (ld4 f at0) (i + 1)).1)), (16, .int (pbPl 0 wh (ld4 f at0) i)), (15, .int (TB ((wh * 16) + i))), (14, .int (nI i)), (13, .int (TB ((wh * 16) + i))), (0, .ref w), (1, .int (nI at0)), (2, .int (nI wh)), (3, .int (nI 0)), (4, .int (f at0)), (5, .int (f (at0 + 1))), (6, .int (f (at0 + 2))), (7, .int (f (at0 + 3)))]) hx hb dX0_passBox_184 hl (k := 16) rfl (wk_inc i (by decide)) (by decide) rfl (fun ls hl => ?_)
          refine lv_goto (tgt := 41) hx hb dX0_passBox_187 (by decide) ?_
          exact ih (i + 1) (by omega) (by omega) _ _ hP hD hS ls (lv_sub hl [9, 10, 11, 12, 13, 14, 15, 16, 4, 3, 2, 1, 0] rfl)
  refine lv_aload_n hx hb dX0_passBox_0 rfl (lv_at hl 0 rfl) ?_
  refine lv_iload_n hx hb dX0_passBox_1 rfl (lv_at hl 1 rfl) ?_
  refine wk_iald hx hb hK hP 0 0 rfl rfl (k := at0) (by omega) (by omega) dX0_passBox_2 ?_
  refine lv_istore (lv' := [(4, .int (f at0)), (0, .ref w), (1, .int (nI at0)), (2, .int (nI wh)), (3, .int (nI 0))]) hx hb dX0_passBox_3 hl (by decide) rfl (fun ls hl => ?_)
  refine lv_aload_n hx hb dX0_passBox_5 rfl (lv_at hl 1 rfl) ?_
  refine lv_iload_n hx hb dX0_passBox_6 rfl (lv_at hl 2 rfl) ?_
  refine lv_iconst (v := nI 1) hx hb dX0_passBox_7 (by decide) ?_
  refine wk_iaddN hx hb (a := at0) (b := 1) dX0_passBox_8 ?_
  refine wk_iald hx hb hK hP 0 0 rfl rfl (k := at0 + 1) (by omega) (by omega) dX0_passBox_9 ?_
  refine lv_istore (lv' := [(5, .int (f (at0 + 1))), (4, .int (f at0)), (0, .ref w), (1, .int (nI at0)), (2, .int (nI wh)), (3, .int (nI 0))]) hx hb dX0_passBox_10 hl (by decide) rfl (fun ls hl => ?_)
  refine lv_aload_n hx hb dX0_passBox_12 rfl (lv_at hl 2 rfl) ?_
  refine lv_iload_n hx hb dX0_passBox_13 rfl (lv_at hl 3 rfl) ?_
  refine lv_iconst (v := nI 2) hx hb dX0_passBox_14 (by decide) ?_
  refine wk_iaddN hx hb (a := at0) (b := 2) dX0_passBox_15 ?_
  refine wk_iald hx hb hK hP 0 0 rfl rfl (k := at0 + 2) (by omega) (by omega) dX0_passBox_16 ?_
  refine lv_istore (lv' := [(6, .int (f (at0 + 2))), (5, .int (f (at0 + 1))), (4, .int (f at0)), (0, .ref w), (1, .int (nI at0)), (2, .int (nI wh)), (3, .int (nI 0))]) hx hb dX0_passBox_17 hl (by decide) rfl (fun ls hl => ?_)
  refine lv_aload_n hx hb dX0_passBox_19 rfl (lv_at hl 3 rfl) ?_
  refine lv_iload_n hx hb dX0_passBox_20 rfl (lv_at hl 4 rfl) ?_
  refine lv_iconst (v := nI 3) hx hb dX0_passBox_21 (by decide) ?_
  refine wk_iaddN hx hb (a := at0) (b := 3) dX0_passBox_22 ?_
  refine wk_iald hx hb hK hP 0 0 rfl rfl (k := at0 + 3) (by omega) (by omega) dX0_passBox_23 ?_
  refine lv_istore (lv' := [(7, .int (f (at0 + 3))), (6, .int (f (at0 + 2))), (5, .int (f (at0 + 1))), (4, .int (f at0)), (0, .ref w), (1, .int (nI at0)), (2, .int (nI wh)), (3, .int (nI 0))]) hx hb dX0_passBox_24 hl (by decide) rfl (fun ls hl => ?_)
  refine lv_iconst (v := nI 0) hx hb dX0_passBox_26 (by decide) ?_
  refine lv_istore (lv' := [(8, .int (nI 0)), (7, .int (f (at0 + 3))), (6, .int (f (at0 + 2))), (5, .int (f (at0 + 1))), (4, .int (f at0)), (0, .ref w), (1, .int (nI at0)), (2, .int (nI wh)), (3, .int (nI 0))]) hx hb dX0_passBox_27 hl (by decide) rfl (fun ls hl => ?_)
  refine lv_iconst (v := nI 0) hx hb dX0_passBox_29 (by decide) ?_
  refine lv_istore (lv' := [(9, .int (nI 0)), (8, .int (nI 0)), (7, .int (f (at0 + 3))), (6, .int (f (at0 + 2))), (5, .int (f (at0 + 1))), (4, .int (f at0)), (0, .ref w), (1, .int (nI at0)), (2, .int (nI wh)), (3, .int (nI 0))]) hx hb dX0_passBox_30 hl (by decide) rfl (fun ls hl => ?_)
  refine lv_iconst (v := nI 0) hx hb dX0_passBox_32 (by decide) ?_
  refine lv_istore (lv' := [(10, .int (nI 0)), (9, .int (nI 0)), (8, .int (nI 0)), (7, .int (f (at0 + 3))), (6, .int (f (at0 + 2))), (5, .int (f (at0 + 1))), (4, .int (f at0)), (0, .ref w), (1, .int (nI at0)), (2, .int (nI wh)), (3, .int (nI 0))]) hx hb dX0_passBox_33 hl (by decide) rfl (fun ls hl => ?_)
  refine lv_iconst (v := nI 0) hx hb dX0_passBox_35 (by decide) ?_
  refine lv_istore (lv' := [(11, .int (nI 0)), (10, .int (nI 0)), (9, .int (nI 0)), (8, .int (nI 0)), (7, .int (f (at0 + 3))), (6, .int (f (at0 + 2))), (5, .int (f (at0 + 1))), (4, .int (f at0)), (0, .ref w), (1, .int (nI at0)), (2, .int (nI wh)), (3, .int (nI 0))]) hx hb dX0_passBox_36 hl (by decide) rfl (fun ls hl => ?_)
  refine lv_iconst (v := nI 0) hx hb dX0_passBox_38 (by decide) ?_
  refine lv_istore (lv' := [(12, .int (nI 0)), (11, .int (nI 0)), (10, .int (nI 0)), (9, .int (nI 0)), (8, .int (nI 0)), (7, .int (f (at0 + 3))), (6, .int (f (at0 + 2))), (5, .int (f (at0 + 1))), (4, .int (f at0)), (0, .ref w), (1, .int (nI at0)), (2, .int (nI wh)), (3, .int (nI 0))]) hx hb dX0_passBox_39 hl (by decide) rfl (fun ls hl => ?_)
  exact lp 17 0 (by omega) (by omega) _ _ hP hD hS ls (lv_sub hl [9, 10, 11, 12, 8, 7, 6, 5, 4, 3, 2, 1, 0] rfl)
set_option maxHeartbeats 4000000 in
set_option maxRecDepth 100000 in
theorem c_X0_passBox1 (l : Launch) (D : va_G) (cI : ClassId) (tb : Nat) (sz : Nat) (w at0 wh n : Nat) (f : Nat → Int32) (h1 : at0 + 4 ≤ n) (h2 : wh < 8) (h3 : n < 2 ^ 31) : Met l yX0_passBox wsX0_passBox ({ frames := 2, cells := 0, slots := 0, locals := 41 }) (va_Pc [.ref w, .int (nI at0), .int (nI wh), .int (nI 1)] (fun U => PW D [(cI, .int)] [(w, .inl (cI, n, .inl f))] sz U ∧ bxs tb (va_A [(w, .inl (cI, n, .inl f))] sz) U U.heap)) (va_Qv (fun _ : Unit => True) (fun _ => BW D [(cI, .int)] (va_A [(w, .inl (cI, n, .inl f))] sz) [(w, .inl (cI, n, .inl (st4 f at0 (cBox 1 wh (ld4 f at0)))))]) (va_A [(w, .inl (cI, n, .inl f))] sz)) 0 0 (va_A [(w, .inl (cI, n, .inl f))] sz) := by
  refine Met.ofW (cc := cX0_passBox) (maxL := 17) (ret := none) (by decide) rfl ?_
  intro p e s m args below meth c s₁ B hml hv
  obtain ⟨rfl, ⟨hsz, hP, hK, hD0⟩, hbx⟩ := hv
  have hx := B.exec
  have hb := B.bytes
  have hr := B.returns
  have hts := atoms_spec (ws := wsX0_passBox) B.pre
  have hown : s.vm.findClass RX0 = some m.cls := findClass_of_methodNamed B.named
  have hlocks := B.notSynchronized
  subst hsz
  have hD := hD0.self (sz := s.heap.size)
  generalize hAe : va_A [(w, .inl (cI, n, .inl f))] s.heap.size = A at hbx hD ⊢
  have hA : ∀ q : Nat, s.heap.size ≤ q → A q := fun q h => by rw [← hAe]; exact Or.inr h
  have hS : va_S A s.heap s.heap [] := va_S.rf
  have hl := lv_entry ([.ref w, .int (nI at0), .int (nI wh), .int (nI 1)]) (n := 17) (Nat.le_of_ble_eq_true rfl)
  rw [lg_entry_eq]
  generalize (lg_sl ([.ref w, .int (nI at0), .int (nI wh), .int (nI 1)]) ++ List.replicate (17 - (lg_sl ([.ref w, .int (nI at0), .int (nI wh), .int (nI 1)])).length) Slot.unset).toArray = ls at hl ⊢
  have hl : lv_has ls 17 [(0, .ref w), (1, .int (nI at0)), (2, .int (nI wh)), (3, .int (nI 1))] := hl
  have lp : ∀ (fu : Nat) (i : Nat), i ≤ 16 → 16 + 1 ≤ i + fu → ∀ (H : Heap) (locs : List Loc), va_P D vwCl [(w, .inl (cI, n, .inl f))] H → va_D A [(w, .inl (cI, n, .inl f))] → va_S A s.heap H locs → ∀ (ls : Array Slot), lv_has ls 17 [(0, .ref w), (1, .int (nI at0)), (2, .int (nI wh)), (3, .int (nI 1)), (4, .int (f at0)), (5, .int (f (at0 + 1))), (6, .int (f (at0 + 2))), (7, .int (f (at0 + 3))), (8, .int ((pbN 1 wh (ld4 f at0) i).1)), (9, .int ((pbN 1 wh (ld4 f at0) i).2.1)), (10, .int ((pbN 1 wh (ld4 f at0) i).2.2.1)), (11, .int ((pbN 1 wh (ld4 f at0) i).2.2.2)), (12, .int (nI i))] → W p l e ((headSpec wsX0_passBox ({ frames := 2, cells := 0, slots := 0, locals := 41 })).room) s m ([.ref w, .int (nI at0), .int (nI wh), .int (nI 1)] : List Value).toArray below meth c H locs 0 0 (MQ below (va_Qv (fun _ : Unit => True) (fun _ => BW D [(cI, .int)] A [(w, .inl (cI, n, .inl (st4 f at0 (cBox 1 wh (ld4 f at0)))))]) A) ([.ref w, .int (nI at0), .int (nI wh), .int (nI 1)] : List Value).toArray s 0 0 (A)) (F0 m 41 ls []) := by
    intro fu
    induction fu with
      | zero => intro i hi hfu; exact absurd hfu (by omega)
      | succ fu ih =>
        intro i hi hfu H locs hP hD hS ls hl
        refine lv_iload hx hb dX0_passBox_41 (lv_at hl 12 rfl) ?_
        refine lv_bipush (v := nI 16) hx hb dX0_passBox_43 (by decide) ?_
        refine wk_geN (tgt := 190) hx hb (a := i) (b := 16) (by omega) (by decide) dX0_passBox_45 (by decide) (fun c45 => ?_) (fun c45 => ?_)
        · obtain rfl : i = 16 := by omega
          refine lv_aload_n hx hb dX0_passBox_190 rfl (lv_at hl 0 rfl) ?_
          refine lv_iload_n hx hb dX0_passBox_191 rfl (lv_at hl 1 rfl) ?_
          refine lv_iload hx hb dX0_passBox_192 (lv_at hl 8 rfl) ?_
          refine wk_iast hx hb hK hP hD hS 0 0 rfl rfl (k := at0) (x := (pbN 1 wh (ld4 f at0) 16).1) (by omega) (by omega) dX0_passBox_194 (fun H locs hP hD hS => ?_)
          have hP : va_P D vwCl [(w, .inl (cI, n, .inl (upd f at0 ((pbN 1 wh (ld4 f at0) 16).1))))] H := hP
          have hD : va_D A [(w, .inl (cI, n, .inl (upd f at0 ((pbN 1 wh (ld4 f at0) 16).1))))] := hD
          refine lv_aload_n hx hb dX0_passBox_195 rfl (lv_at hl 0 rfl) ?_
          refine lv_iload_n hx hb dX0_passBox_196 rfl (lv_at hl 1 rfl) ?_
          refine lv_iconst (v := nI 1) hx hb dX0_passBox_197 (by decide) ?_
          refine wk_iaddN hx hb (a := at0) (b := 1) dX0_passBox_198 ?_
          refine lv_iload hx hb dX0_passBox_199 (lv_at hl 9 rfl) ?_
          refine wk_iast hx hb hK hP hD hS 0 0 rfl rfl (k := at0 + 1) (x := (pbN 1 wh (ld4 f at0) 16).2.1) (by omega) (by omega) dX0_passBox_201 (fun H locs hP hD hS => ?_)
          have hP : va_P D vwCl [(w, .inl (cI, n, .inl (upd (upd f at0 ((pbN 1 wh (ld4 f at0) 16).1)) (at0 + 1) ((pbN 1 wh (ld4 f at0) 16).2.1))))] H := hP
          have hD : va_D A [(w, .inl (cI, n, .inl (upd (upd f at0 ((pbN 1 wh (ld4 f at0) 16).1)) (at0 + 1) ((pbN 1 wh (ld4 f at0) 16).2.1))))] := hD
          refine lv_aload_n hx hb dX0_passBox_202 rfl (lv_at hl 0 rfl) ?_
          refine lv_iload_n hx hb dX0_passBox_203 rfl (lv_at hl 1 rfl) ?_
          refine lv_iconst (v := nI 2) hx hb dX0_passBox_204 (by decide) ?_
          refine wk_iaddN hx hb (a := at0) (b := 2) dX0_passBox_205 ?_
          refine lv_iload hx hb dX0_passBox_206 (lv_at hl 10 rfl) ?_
          refine wk_iast hx hb hK hP hD hS 0 0 rfl rfl (k := at0 + 2) (x := (pbN 1 wh (ld4 f at0) 16).2.2.1) (by omega) (by omega) dX0_passBox_208 (fun H locs hP hD hS => ?_)
          have hP : va_P D vwCl [(w, .inl (cI, n, .inl (upd (upd (upd f at0 ((pbN 1 wh (ld4 f at0) 16).1)) (at0 + 1) ((pbN 1 wh (ld4 f at0) 16).2.1)) (at0 + 2) ((pbN 1 wh (ld4 f at0) 16).2.2.1))))] H := hP
          have hD : va_D A [(w, .inl (cI, n, .inl (upd (upd (upd f at0 ((pbN 1 wh (ld4 f at0) 16).1)) (at0 + 1) ((pbN 1 wh (ld4 f at0) 16).2.1)) (at0 + 2) ((pbN 1 wh (ld4 f at0) 16).2.2.1))))] := hD
          refine lv_aload_n hx hb dX0_passBox_209 rfl (lv_at hl 0 rfl) ?_
          refine lv_iload_n hx hb dX0_passBox_210 rfl (lv_at hl 1 rfl) ?_
          refine lv_iconst (v := nI 3) hx hb dX0_passBox_211 (by decide) ?_
          refine wk_iaddN hx hb (a := at0) (b := 3) dX0_passBox_212 ?_
          refine lv_iload hx hb dX0_passBox_213 (lv_at hl 11 rfl) ?_
          refine wk_iast hx hb hK hP hD hS 0 0 rfl rfl (k := at0 + 3) (x := (pbN 1 wh (ld4 f at0) 16).2.2.2) (by omega) (by omega) dX0_passBox_215 (fun H locs hP hD hS => ?_)
          have hP : va_P D vwCl [(w, .inl (cI, n, .inl (upd (upd (upd (upd f at0 ((pbN 1 wh (ld4 f at0) 16).1)) (at0 + 1) ((pbN 1 wh (ld4 f at0) 16).2.1)) (at0 + 2) ((pbN 1 wh (ld4 f at0) 16).2.2.1)) (at0 + 3) ((pbN 1 wh (ld4 f at0) 16).2.2.2))))] H := hP
          have hD : va_D A [(w, .inl (cI, n, .inl (upd (upd (upd (upd f at0 ((pbN 1 wh (ld4 f at0) 16).1)) (at0 + 1) ((pbN 1 wh (ld4 f at0) 16).2.1)) (at0 + 2) ((pbN 1 wh (ld4 f at0) 16).2.2.1)) (at0 + 3) ((pbN 1 wh (ld4 f at0) 16).2.2.2))))] := hD
          exact W.vret hx hb hr (fun t ht hW => ⟨⟨(), rfl, trivial, by rw [ht]; exact hP, va_K.moved hW.alike hK, hD⟩, hS.F ht⟩) hS.2.2 dX0_passBox_216
        · refine va_gets (C := "SlicedCipher") (n := "BOXES") (d := "[I") (v := .ref tb) hx hb hbx.1 hS hown (hts (.fieldLink RX0 83 "SlicedCipher" "BOXES" "[I") (by decide +kernel)) (fun _ h9 => h9) dX0_passBox_48 ?_
          refine lv_iload_n hx hb dX0_passBox_51 rfl (lv_at hl 2 rfl) ?_
          refine lv_bipush (v := nI 16) hx hb dX0_passBox_52 (by decide) ?_
          refine wk_imulN hx hb (a := wh) (b := 16) dX0_passBox_54 ?_
          refine lv_iload hx hb dX0_passBox_55 (lv_at hl 12 rfl) ?_
          refine wk_iaddN hx hb (a := wh * 16) (b := i) dX0_passBox_57 ?_
          refine wk_tbl hx hb hbx.2 hS (k := (wh * 16) + i) (by omega) dX0_passBox_58 ?_
          refine lv_istore (lv' := [(13, .int (TB ((wh * 16) + i))), (0, .ref w), (1, .int (nI at0)), (2, .int (nI wh)), (3, .int (nI 1)), (4, .int (f at0)), (5, .int (f (at0 + 1))), (6, .int (f (at0 + 2))), (7, .int (f (at0 + 3))), (8, .int ((pbN 1 wh (ld4 f at0) i).1)), (9, .int ((pbN 1 wh (ld4 f at0) i).2.1)), (10, .int ((pbN 1 wh (ld4 f at0) i).2.2.1)), (11, .int ((pbN 1 wh (ld4 f at0) i).2.2.2)), (12, .int (nI i))]) hx hb dX0_passBox_59 hl (by decide) rfl (fun ls hl => ?_)
          refine lv_iload_n hx hb dX0_passBox_61 rfl (lv_at hl 4 rfl) ?_
          refine wk_eq0N (tgt := 70) hx hb (a := 1) (by decide) dX0_passBox_62 (by decide) (fun c62 => absurd c62 (by decide)) (fun c62 => ?_)
          refine lv_iload hx hb dX0_passBox_65 (lv_at hl 0 rfl) ?_
          refine lv_goto (tgt := 72) hx hb dX0_passBox_67 (by decide) ?_
          refine lv_istore (lv' := [(14, .int (TB ((wh * 16) + i))), (13, .int (TB ((wh * 16) + i))), (0, .ref w), (1, .int (nI at0)), (2, .int (nI wh)), (3, .int (nI 1)), (4, .int (f at0)), (5, .int (f (at0 + 1))), (6, .int (f (at0 + 2))), (7, .int (f (at0 + 3))), (8, .int ((pbN 1 wh (ld4 f at0) i).1)), (9, .int ((pbN 1 wh (ld4 f at0) i).2.1)), (10, .int ((pbN 1 wh (ld4 f at0) i).2.2.1)), (11, .int ((pbN 1 wh (ld4 f at0) i).2.2.2)), (12, .int (nI i))]) hx hb dX0_passBox_72 hl (by decide) rfl (fun ls hl => ?_)
          refine lv_iload_n hx hb dX0_passBox_74 rfl (lv_at hl 5 rfl) ?_
          refine wk_eq0N (tgt := 83) hx hb (a := 1) (by decide) dX0_passBox_75 (by decide) (fun c75 => absurd c75 (by decide)) (fun c75 => ?_)
          refine lv_iload hx hb dX0_passBox_78 (lv_at hl 14 rfl) ?_
          refine lv_goto (tgt := 85) hx hb dX0_passBox_80 (by decide) ?_
          refine lv_istore (lv' := [(15, .int (nI i)), (14, .int (TB ((wh * 16) + i))), (13, .int (TB ((wh * 16) + i))), (0, .ref w), (1, .int (nI at0)), (2, .int (nI wh)), (3, .int (nI 1)), (4, .int (f at0)), (5, .int (f (at0 + 1))), (6, .int (f (at0 + 2))), (7, .int (f (at0 + 3))), (8, .int ((pbN 1 wh (ld4 f at0) i).1)), (9, .int ((pbN 1 wh (ld4 f at0) i).2.1)), (10, .int ((pbN 1 wh (ld4 f at0) i).2.2.1)), (11, .int ((pbN 1 wh (ld4 f at0) i).2.2.2)), (12, .int (nI i))]) hx hb dX0_passBox_85 hl (by decide) rfl (fun ls hl => ?_)
          refine lv_iload hx hb dX0_passBox_87 (lv_at hl 7 rfl) ?_
          refine lv_iload hx hb dX0_passBox_89 (lv_at hl 1 rfl) ?_
          refine wk_Sp (v := plw (f at0) (TB ((wh * 16) + i))) (As := [.int (f at0), .int (TB ((wh * 16) + i))]) (rest := []) ⟨hx, hb, hml, hown, hts⟩ (c_X0_placesWith l (f at0) (TB ((wh * 16) + i))) (va_cwS 2 hts gX0_passBox_X0_placesWith rfl rfl rfl (by decide +kernel) ⟨Nat.le_of_ble_eq_true rfl, Nat.le_of_ble_eq_true rfl⟩) rfl hl.1 rfl (Nat.le_of_ble_eq_true rfl) dX0_passBox_91 ⟨Nat.zero_le _, Nat.zero_le _⟩ ?_
          refine lv_iload hx hb dX0_passBox_94 (lv_at hl 8 rfl) ?_
          refine lv_iload hx hb dX0_passBox_96 (lv_at hl 1 rfl) ?_
          refine lv_iconst (v := nI 1) hx hb dX0_passBox_98 (by decide) ?_
          refine lv_ishr hx hb dX0_passBox_99 ?_
          refine wk_Sp (v := plw (f (at0 + 1)) ((TB ((wh * 16) + i)) >>> ((nI 1) &&& 31))) (As := [.int (f (at0 + 1)), .int ((TB ((wh * 16) + i)) >>> ((nI 1) &&& 31))]) (rest := [.int (plw (f at0) (TB ((wh * 16) + i)))]) ⟨hx, hb, hml, hown, hts⟩ (c_X0_placesWith l (f (at0 + 1)) ((TB ((wh * 16) + i)) >>> ((nI 1) &&& 31))) (va_cwS 2 hts gX0_passBox_X0_placesWith rfl rfl rfl (by decide +kernel) ⟨Nat.le_of_ble_eq_true rfl, Nat.le_of_ble_eq_true rfl⟩) rfl hl.1 rfl (Nat.le_of_ble_eq_true rfl) dX0_passBox_100 ⟨Nat.zero_le _, Nat.zero_le _⟩ ?_
          refine lv_iand hx hb dX0_passBox_103 ?_
          refine lv_iload hx hb dX0_passBox_104 (lv_at hl 9 rfl) ?_
          refine lv_iload hx hb dX0_passBox_106 (lv_at hl 1 rfl) ?_
          refine lv_iconst (v := nI 2) hx hb dX0_passBox_108 (by decide) ?_
          refine lv_ishr hx hb dX0_passBox_109 ?_
          refine wk_Sp (v := plw (f (at0 + 2)) ((TB ((wh * 16) + i)) >>> ((nI 2) &&& 31))) (As := [.int (f (at0 + 2)), .int ((TB ((wh * 16) + i)) >>> ((nI 2) &&& 31))]) (rest := [.int ((plw (f at0) (TB ((wh * 16) + i))) &&& (plw (f (at0 + 1)) ((TB ((wh * 16) + i)) >>> ((nI 1) &&& 31))))]) ⟨hx, hb, hml, hown, hts⟩ (c_X0_placesWith l (f (at0 + 2)) ((TB ((wh * 16) + i)) >>> ((nI 2) &&& 31))) (va_cwS 2 hts gX0_passBox_X0_placesWith rfl rfl rfl (by decide +kernel) ⟨Nat.le_of_ble_eq_true rfl, Nat.le_of_ble_eq_true rfl⟩) rfl hl.1 rfl (Nat.le_of_ble_eq_true rfl) dX0_passBox_110 ⟨Nat.zero_le _, Nat.zero_le _⟩ ?_
          refine lv_iand hx hb dX0_passBox_113 ?_
          refine lv_iload hx hb dX0_passBox_114 (lv_at hl 10 rfl) ?_
          refine lv_iload hx hb dX0_passBox_116 (lv_at hl 1 rfl) ?_
          refine lv_iconst (v := nI 3) hx hb dX0_passBox_118 (by decide) ?_
          refine lv_ishr hx hb dX0_passBox_119 ?_
          refine wk_Sp (v := plw (f (at0 + 3)) ((TB ((wh * 16) + i)) >>> ((nI 3) &&& 31))) (As := [.int (f (at0 + 3)), .int ((TB ((wh * 16) + i)) >>> ((nI 3) &&& 31))]) (rest := [.int (((plw (f at0) (TB ((wh * 16) + i))) &&& (plw (f (at0 + 1)) ((TB ((wh * 16) + i)) >>> ((nI 1) &&& 31)))) &&& (plw (f (at0 + 2)) ((TB ((wh * 16) + i)) >>> ((nI 2) &&& 31))))]) ⟨hx, hb, hml, hown, hts⟩ (c_X0_placesWith l (f (at0 + 3)) ((TB ((wh * 16) + i)) >>> ((nI 3) &&& 31))) (va_cwS 2 hts gX0_passBox_X0_placesWith rfl rfl rfl (by decide +kernel) ⟨Nat.le_of_ble_eq_true rfl, Nat.le_of_ble_eq_true rfl⟩) rfl hl.1 rfl (Nat.le_of_ble_eq_true rfl) dX0_passBox_120 ⟨Nat.zero_le _, Nat.zero_le _⟩ ?_
          refine lv_iand hx hb dX0_passBox_123 ?_
          refine wk_i (y := pbPl 1 wh (ld4 f at0) i) (rfl) ?_
          refine lv_istore (lv' := [(16, .int (pbPl 1 wh (ld4 f at0) i)), (15, .int (nI i)), (14, .int (TB ((wh * 16) + i))), (13, .int (TB ((wh * 16) + i))), (0, .ref w), (1, .int (nI at0)), (2, .int (nI wh)), (3, .int (nI 1)), (4, .int (f at0)), (5, .int (f (at0 + 1))), (6, .int (f (at0 + 2))), (7, .int (f (at0 + 3))), (8, .int ((pbN 1 wh (ld4 f at0) i).1)), (9, .int ((pbN 1 wh (ld4 f at0) i).2.1)), (10, .int ((pbN 1 wh (ld4 f at0) i).2.2.1)), (11, .int ((pbN 1 wh (ld4 f at0) i).2.2.2)), (12, .int (nI i))]) hx hb dX0_passBox_124 hl (by decide) rfl (fun ls hl => ?_)
          refine lv_iload hx hb dX0_passBox_126 (lv_at hl 12 rfl) ?_
          refine lv_iload hx hb dX0_passBox_128 (lv_at hl 0 rfl) ?_
          refine lv_iload hx hb dX0_passBox_130 (lv_at hl 1 rfl) ?_
          refine wk_Sp (v := lbe (nI i)) (As := [.int (nI i)]) (rest := [.int (pbPl 1 wh (ld4 f at0) i), .int ((pbN 1 wh (ld4 f at0) i).1)]) ⟨hx, hb, hml, hown, hts⟩ (c_X0_lowestBitEverywhere l (nI i)) (va_cwS 1 hts gX0_passBox_X0_lowestBitEverywhere rfl rfl rfl (by decide +kernel) ⟨Nat.le_of_ble_eq_true rfl, Nat.le_of_ble_eq_true rfl⟩) rfl hl.1 rfl (Nat.le_of_ble_eq_true rfl) dX0_passBox_132 ⟨Nat.zero_le _, Nat.zero_le _⟩ ?_
          refine lv_iand hx hb dX0_passBox_135 ?_
          refine lv_ior hx hb dX0_passBox_136 ?_
          refine wk_i (y := (pbN 1 wh (ld4 f at0) (i + 1)).1) (rfl) ?_
          refine lv_istore (lv' := [(8, .int ((pbN 1 wh (ld4 f at0) (i + 1)).1)), (16, .int (pbPl 1 wh (ld4 f at0) i)), (15, .int (nI i)), (14, .int (TB ((wh * 16) + i))), (13, .int (TB ((wh * 16) + i))), (0, .ref w), (1, .int (nI at0)), (2, .int (nI wh)), (3, .int (nI 1)), (4, .int (f at0)), (5, .int (f (at0 + 1))), (6, .int (f (at0 + 2))), (7, .int (f (at0 + 3))), (9, .int ((pbN 1 wh (ld4 f at0) i).2.1)), (10, .int ((pbN 1 wh (ld4 f at0) i).2.2.1)), (11, .int ((pbN 1 wh (ld4 f at0) i).2.2.2)), (12, .int (nI i))]) hx hb dX0_passBox_137 hl (by decide) rfl (fun ls hl => ?_)
          refine lv_iload hx hb dX0_passBox_139 (lv_at hl 13 rfl) ?_
          refine lv_iload hx hb dX0_passBox_141 (lv_at hl 1 rfl) ?_
          refine lv_iload hx hb dX0_passBox_143 (lv_at hl 2 rfl) ?_
          refine lv_iconst (v := nI 1) hx hb dX0_passBox_145 (by decide) ?_
          refine lv_ishr hx hb dX0_passBox_146 ?_
          refine wk_Sp (v := lbe ((nI i) >>> ((nI 1) &&& 31))) (As := [.int ((nI i) >>> ((nI 1) &&& 31))]) (rest := [.int (pbPl 1 wh (ld4 f at0) i), .int ((pbN 1 wh (ld4 f at0) i).2.1)]) ⟨hx, hb, hml, hown, hts⟩ (c_X0_lowestBitEverywhere l ((nI i) >>> ((nI 1) &&& 31))) (va_cwS 1 hts gX0_passBox_X0_lowestBitEverywhere rfl rfl rfl (by decide +kernel) ⟨Nat.le_of_ble_eq_true rfl, Nat.le_of_ble_eq_true rfl⟩) rfl hl.1 rfl (Nat.le_of_ble_eq_true rfl) dX0_passBox_147 ⟨Nat.zero_le _, Nat.zero_le _⟩ ?_
          refine lv_iand hx hb dX0_passBox_150 ?_
          refine lv_ior hx hb dX0_passBox_151 ?_
          refine wk_i (y := (pbN 1 wh (ld4 f at0) (i + 1)).2.1) (rfl) ?_
          refine lv_istore (lv' := [(9, .int ((pbN 1 wh (ld4 f at0) (i + 1)).2.1)), (8, .int ((pbN 1 wh (ld4 f at0) (i + 1)).1)), (16, .int (pbPl 1 wh (ld4 f at0) i)), (15, .int (nI i)), (14, .int (TB ((wh * 16) + i))), (13, .int (TB ((wh * 16) + i))), (0, .ref w), (1, .int (nI at0)), (2, .int (nI wh)), (3, .int (nI 1)), (4, .int (f at0)), (5, .int (f (at0 + 1))), (6, .int (f (at0 + 2))), (7, .int (f (at0 + 3))), (10, .int ((pbN 1 wh (ld4 f at0) i).2.2.1)), (11, .int ((pbN 1 wh (ld4 f at0) i).2.2.2)), (12, .int (nI i))]) hx hb dX0_passBox_152 hl (by decide) rfl (fun ls hl => ?_)
          refine lv_iload hx hb dX0_passBox_154 (lv_at hl 14 rfl) ?_
          refine lv_iload hx hb dX0_passBox_156 (lv_at hl 2 rfl) ?_
          refine lv_iload hx hb dX0_passBox_158 (lv_at hl 3 rfl) ?_
          refine lv_iconst (v := nI 2) hx hb dX0_passBox_160 (by decide) ?_
          refine lv_ishr hx hb dX0_passBox_161 ?_
          refine wk_Sp (v := lbe ((nI i) >>> ((nI 2) &&& 31))) (As := [.int ((nI i) >>> ((nI 2) &&& 31))]) (rest := [.int (pbPl 1 wh (ld4 f at0) i), .int ((pbN 1 wh (ld4 f at0) i).2.2.1)]) ⟨hx, hb, hml, hown, hts⟩ (c_X0_lowestBitEverywhere l ((nI i) >>> ((nI 2) &&& 31))) (va_cwS 1 hts gX0_passBox_X0_lowestBitEverywhere rfl rfl rfl (by decide +kernel) ⟨Nat.le_of_ble_eq_true rfl, Nat.le_of_ble_eq_true rfl⟩) rfl hl.1 rfl (Nat.le_of_ble_eq_true rfl) dX0_passBox_162 ⟨Nat.zero_le _, Nat.zero_le _⟩ ?_
          refine lv_iand hx hb dX0_passBox_165 ?_
          refine lv_ior hx hb dX0_passBox_166 ?_
          refine wk_i (y := (pbN 1 wh (ld4 f at0) (i + 1)).2.2.1) (rfl) ?_
          refine lv_istore (lv' := [(10, .int ((pbN 1 wh (ld4 f at0) (i + 1)).2.2.1)), (9, .int ((pbN 1 wh (ld4 f at0) (i + 1)).2.1)), (8, .int ((pbN 1 wh (ld4 f at0) (i + 1)).1)), (16, .int (pbPl 1 wh (ld4 f at0) i)), (15, .int (nI i)), (14, .int (TB ((wh * 16) + i))), (13, .int (TB ((wh * 16) + i))), (0, .ref w), (1, .int (nI at0)), (2, .int (nI wh)), (3, .int (nI 1)), (4, .int (f at0)), (5, .int (f (at0 + 1))), (6, .int (f (at0 + 2))), (7, .int (f (at0 + 3))), (11, .int ((pbN 1 wh (ld4 f at0) i).2.2.2)), (12, .int (nI i))]) hx hb dX0_passBox_167 hl (by decide) rfl (fun ls hl => ?_)
          refine lv_iload hx hb dX0_passBox_169 (lv_at hl 15 rfl) ?_
          refine lv_iload hx hb dX0_passBox_171 (lv_at hl 3 rfl) ?_
          refine lv_iload hx hb dX0_passBox_173 (lv_at hl 4 rfl) ?_
          refine lv_iconst (v := nI 3) hx hb dX0_passBox_175 (by decide) ?_
          refine lv_ishr hx hb dX0_passBox_176 ?_
          refine wk_Sp (v := lbe ((nI i) >>> ((nI 3) &&& 31))) (As := [.int ((nI i) >>> ((nI 3) &&& 31))]) (rest := [.int (pbPl 1 wh (ld4 f at0) i), .int ((pbN 1 wh (ld4 f at0) i).2.2.2)]) ⟨hx, hb, hml, hown, hts⟩ (c_X0_lowestBitEverywhere l ((nI i) >>> ((nI 3) &&& 31))) (va_cwS 1 hts gX0_passBox_X0_lowestBitEverywhere rfl rfl rfl (by decide +kernel) ⟨Nat.le_of_ble_eq_true rfl, Nat.le_of_ble_eq_true rfl⟩) rfl hl.1 rfl (Nat.le_of_ble_eq_true rfl) dX0_passBox_177 ⟨Nat.zero_le _, Nat.zero_le _⟩ ?_
          refine lv_iand hx hb dX0_passBox_180 ?_
          refine lv_ior hx hb dX0_passBox_181 ?_
          refine wk_i (y := (pbN 1 wh (ld4 f at0) (i + 1)).2.2.2) (rfl) ?_
          refine lv_istore (lv' := [(11, .int ((pbN 1 wh (ld4 f at0) (i + 1)).2.2.2)), (10, .int ((pbN 1 wh (ld4 f at0) (i + 1)).2.2.1)), (9, .int ((pbN 1 wh (ld4 f at0) (i + 1)).2.1)), (8, .int ((pbN 1 wh (ld4 f at0) (i + 1)).1)), (16, .int (pbPl 1 wh (ld4 f at0) i)), (15, .int (nI i)), (14, .int (TB ((wh * 16) + i))), (13, .int (TB ((wh * 16) + i))), (0, .ref w), (1, .int (nI at0)), (2, .int (nI wh)), (3, .int (nI 1)), (4, .int (f at0)), (5, .int (f (at0 + 1))), (6, .int (f (at0 + 2))), (7, .int (f (at0 + 3))), (12, .int (nI i))]) hx hb dX0_passBox_182 hl (by decide) rfl (fun ls hl => ?_)
          refine lv_iinc (v := nI (i + 1)) (lv' := [(12, .int (nI (i + 1))), (11, .int ((pbN 1 wh (ld4 f at0) (i + 1)).2.2.2)), (10, .int ((pbN 1 wh (ld4 f at0) (i + 1)).2.2.1)), (9, .int ((pbN 1 wh (ld4 f at0) (i + 1)).2.1)), (8, .int ((pbN 1 wh (ld4 f at0) (i + 1)).1)), (16, .int (pbPl 1 wh (ld4 f at0) i)), (15, .int (nI i)), (14, .int (TB ((wh * 16) + i))), (13, .int (TB ((wh * 16) + i))), (0, .ref w), (1, .int (nI at0)), (2, .int (nI wh)), (3, .int (nI 1)), (4, .int (f at0)), (5, .int (f (at0 + 1))), (6, .int (f (at0 + 2))), (7, .int (f (at0 + 3)))]) hx hb dX0_passBox_184 hl (k := 16) rfl (wk_inc i (by decide)) (by decide) rfl (fun ls hl => ?_)
          refine lv_goto (tgt := 41) hx hb dX0_passBox_187 (by decide) ?_
          exact ih (i + 1) (by omega) (by omega) _ _ hP hD hS ls (lv_sub hl [9, 10, 11, 12, 13, 14, 15, 16, 4, 3, 2, 1, 0] rfl)
  refine lv_aload_n hx hb dX0_passBox_0 rfl (lv_at hl 0 rfl) ?_
  refine lv_iload_n hx hb dX0_passBox_1 rfl (lv_at hl 1 rfl) ?_
  refine wk_iald hx hb hK hP 0 0 rfl rfl (k := at0) (by omega) (by omega) dX0_passBox_2 ?_
  refine lv_istore (lv' := [(4, .int (f at0)), (0, .ref w), (1, .int (nI at0)), (2, .int (nI wh)), (3, .int (nI 1))]) hx hb dX0_passBox_3 hl (by decide) rfl (fun ls hl => ?_)
  refine lv_aload_n hx hb dX0_passBox_5 rfl (lv_at hl 1 rfl) ?_
  refine lv_iload_n hx hb dX0_passBox_6 rfl (lv_at hl 2 rfl) ?_
  refine lv_iconst (v := nI 1) hx hb dX0_passBox_7 (by decide) ?_
  refine wk_iaddN hx hb (a := at0) (b := 1) dX0_passBox_8 ?_
  refine wk_iald hx hb hK hP 0 0 rfl rfl (k := at0 + 1) (by omega) (by omega) dX0_passBox_9 ?_
  refine lv_istore (lv' := [(5, .int (f (at0 + 1))), (4, .int (f at0)), (0, .ref w), (1, .int (nI at0)), (2, .int (nI wh)), (3, .int (nI 1))]) hx hb dX0_passBox_10 hl (by decide) rfl (fun ls hl => ?_)
  refine lv_aload_n hx hb dX0_passBox_12 rfl (lv_at hl 2 rfl) ?_
  refine lv_iload_n hx hb dX0_passBox_13 rfl (lv_at hl 3 rfl) ?_
  refine lv_iconst (v := nI 2) hx hb dX0_passBox_14 (by decide) ?_
  refine wk_iaddN hx hb (a := at0) (b := 2) dX0_passBox_15 ?_
  refine wk_iald hx hb hK hP 0 0 rfl rfl (k := at0 + 2) (by omega) (by omega) dX0_passBox_16 ?_
  refine lv_istore (lv' := [(6, .int (f (at0 + 2))), (5, .int (f (at0 + 1))), (4, .int (f at0)), (0, .ref w), (1, .int (nI at0)), (2, .int (nI wh)), (3, .int (nI 1))]) hx hb dX0_passBox_17 hl (by decide) rfl (fun ls hl => ?_)
  refine lv_aload_n hx hb dX0_passBox_19 rfl (lv_at hl 3 rfl) ?_
  refine lv_iload_n hx hb dX0_passBox_20 rfl (lv_at hl 4 rfl) ?_
  refine lv_iconst (v := nI 3) hx hb dX0_passBox_21 (by decide) ?_
  refine wk_iaddN hx hb (a := at0) (b := 3) dX0_passBox_22 ?_
  refine wk_iald hx hb hK hP 0 0 rfl rfl (k := at0 + 3) (by omega) (by omega) dX0_passBox_23 ?_
  refine lv_istore (lv' := [(7, .int (f (at0 + 3))), (6, .int (f (at0 + 2))), (5, .int (f (at0 + 1))), (4, .int (f at0)), (0, .ref w), (1, .int (nI at0)), (2, .int (nI wh)), (3, .int (nI 1))]) hx hb dX0_passBox_24 hl (by decide) rfl (fun ls hl => ?_)
  refine lv_iconst (v := nI 0) hx hb dX0_passBox_26 (by decide) ?_
  refine lv_istore (lv' := [(8, .int (nI 0)), (7, .int (f (at0 + 3))), (6, .int (f (at0 + 2))), (5, .int (f (at0 + 1))), (4, .int (f at0)), (0, .ref w), (1, .int (nI at0)), (2, .int (nI wh)), (3, .int (nI 1))]) hx hb dX0_passBox_27 hl (by decide) rfl (fun ls hl => ?_)
  refine lv_iconst (v := nI 0) hx hb dX0_passBox_29 (by decide) ?_
  refine lv_istore (lv' := [(9, .int (nI 0)), (8, .int (nI 0)), (7, .int (f (at0 + 3))), (6, .int (f (at0 + 2))), (5, .int (f (at0 + 1))), (4, .int (f at0)), (0, .ref w), (1, .int (nI at0)), (2, .int (nI wh)), (3, .int (nI 1))]) hx hb dX0_passBox_30 hl (by decide) rfl (fun ls hl => ?_)
  refine lv_iconst (v := nI 0) hx hb dX0_passBox_32 (by decide) ?_
  refine lv_istore (lv' := [(10, .int (nI 0)), (9, .int (nI 0)), (8, .int (nI 0)), (7, .int (f (at0 + 3))), (6, .int (f (at0 + 2))), (5, .int (f (at0 + 1))), (4, .int (f at0)), (0, .ref w), (1, .int (nI at0)), (2, .int (nI wh)), (3, .int (nI 1))]) hx hb dX0_passBox_33 hl (by decide) rfl (fun ls hl => ?_)
  refine lv_iconst (v := nI 0) hx hb dX0_passBox_35 (by decide) ?_
  refine lv_istore (lv' := [(11, .int (nI 0)), (10, .int (nI 0)), (9, .int (nI 0)), (8, .int (nI 0)), (7, .int (f (at0 + 3))), (6, .int (f (at0 + 2))), (5, .int (f (at0 + 1))), (4, .int (f at0)), (0, .ref w), (1, .int (nI at0)), (2, .int (nI wh)), (3, .int (nI 1))]) hx hb dX0_passBox_36 hl (by decide) rfl (fun ls hl => ?_)
  refine lv_iconst (v := nI 0) hx hb dX0_passBox_38 (by decide) ?_
  refine lv_istore (lv' := [(12, .int (nI 0)), (11, .int (nI 0)), (10, .int (nI 0)), (9, .int (nI 0)), (8, .int (nI 0)), (7, .int (f (at0 + 3))), (6, .int (f (at0 + 2))), (5, .int (f (at0 + 1))), (4, .int (f at0)), (0, .ref w), (1, .int (nI at0)), (2, .int (nI wh)), (3, .int (nI 1))]) hx hb dX0_passBox_39 hl (by decide) rfl (fun ls hl => ?_)
  exact lp 17 0 (by omega) (by omega) _ _ hP hD hS ls (lv_sub hl [9, 10, 11, 12, 8, 7, 6, 5, 4, 3, 2, 1, 0] rfl)
